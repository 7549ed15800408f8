set_option maxHeartbeats 4000000 in
set_option maxRecDepth 100000 in
theorem f_mtold (l : Launch) (g : q_G) {K : Nat → Nat} {L : List Nat} (hN : L.Nodup) {f : Nat → va_E} (hT : q_Ty g K L f) (B : Nat → Int) (tA : tk_A) (mo : Nat) (hmo : mo ∈ L) (kmo : K mo = 12) (sr : Nat) (hsr : sr ∈ L) (ksr : K sr = 151) (nm : Nat) (hnm : nm ∈ L) (knm : K nm = 156) (bu : Nat) (hbu : bu ∈ L) (kbu : K bu = 150) (tn : Int) (ltn : 0 ≤ tn) (utn : tn ≤ 600) (ss : Int) (lss : 0 ≤ ss) (uss : ss ≤ 600) (nn : Int) (lnn : 0 ≤ nn) (unn : nn ≤ 10) (hf0 : q_is (q_z f mo 3) tn) (hf1 : q_is (q_z f mo 5) ss) (hf2 : q_is (q_z f mo 8) 0) (hf3 : q_is (q_z f mo 9) (-1)) (hf4 : q_is (q_z f sr 0) nn) (hr0 : q_ir (q_r f mo 13) sr) (hr1 : q_ir (q_r f mo 18) nm) (hr2 : q_ir (q_r f mo 1) bu) (htr : tk_tr f mo B tn) (hub : tk_ub f bu B tn) (htm : tk_tm f mo sr nm tA) : q_Ct l g K L yX12_told cX12_told 2 (some .int) 2 43 [.ref mo] f [(12, 4, 9), (12, 12, 12)] (q_Pi (fun (z : Int) (f1 : Nat → va_E) => (0 ≤ z ∧ z ≤ 9 ∧ q_is (q_z f1 mo 8) 0 ∧ q_is (q_z f1 mo 9) (-1) ∧ (tk_who B tn ss (tk_nd tA) = tk_ok (Int.toNat z)) ∧ (z < nn) ∧ (q_z f1 mo 5 = tk_nx B tn ss) ∧ (tk_tr f1 mo B tn)) ∨ (z = (-1) ∧ 1 ≤ q_z f1 mo 8 ∧ q_z f1 mo 8 ≤ 5 ∧ (tk_who B tn ss (tk_nd tA) = tk_er (q_z f1 mo 8) (q_z f1 mo 9)) ∧ (tk_tr f1 mo B tn)))) := by
  refine q_ofb (by decide +kernel) hN hT (Nat.le_of_ble_eq_true rfl) ?_
  intro p e s m below meth c ls cx hr hlk hB hl
  have hl : lv_has ls 2 [(0, .ref mo)] := hl
  obtain ⟨H, hH⟩ : ∃ H : Heap, H = s.heap := ⟨_, rfl⟩
  obtain ⟨locs, hlocs⟩ : ∃ z : List Loc, z = [] := ⟨_, rfl⟩
  rw [← hH, ← hlocs] at hB
  rw [← hH, ← hlocs]
  refine q_ald_n cx dX12_told_0 rfl (lv_at hl 0 rfl) ?_
  refine q_cVv (As := []) (rest := []) cx hB (fun _ h => h) hN hmo kmo (by decide) rfl (f_mmustBeWord l g hN hB.2.1 B mo hmo kmo bu hbu kbu tn (by omega) (by omega) ss (by omega) (by omega) hf0 hf1 hf2 hf3 hr2 htr hub) q_cX12_175 q_dX12_mustBeWord (by decide) rfl rfl hl.1 rfl (Nat.le_of_ble_eq_true rfl) dX12_told_1 (fun H locs f106 h108 hF hB => ?_)
  rcases h108 with h109 | h110
  · obtain ⟨z111, z112, z113, z114, t115, g116⟩ := h109
    have z117 : q_is (q_z f106 mo 3) tn := Eq.trans (hF.z hmo (by rw [kmo]; rfl)) hf0
    have z118 : q_is (q_z f106 mo 5) ss := Eq.trans (hF.z hmo (by rw [kmo]; rfl)) hf1
    have z119 : q_is (q_z f106 sr 0) nn := Eq.trans (hF.z hsr (by rw [ksr]; rfl)) hf4
    have z120 : q_ir (q_r f106 mo 13) sr := Eq.trans (hF.r hmo (by rw [kmo]; rfl)) hr0
    have z121 : q_ir (q_r f106 mo 18) nm := Eq.trans (hF.r hmo (by rw [kmo]; rfl)) hr1
    have z122 : q_ir (q_r f106 mo 1) bu := Eq.trans (hF.r hmo (by rw [kmo]; rfl)) hr2
    have g123 : tk_tr f106 mo B tn := tk_tr_tr htr (hF.z hmo (by rw [kmo]; rfl)) (hF.z hmo (by rw [kmo]; rfl)) (hF.z hmo (by rw [kmo]; rfl)) (hF.z hmo (by rw [kmo]; rfl)) (hF.j hmo (by rw [kmo]; rfl))
    have g124 : tk_ub f106 bu B tn := tk_ub_tr hub (fun i9 => hF.z hbu (by rw [kbu]; rfl))
    have g125 : tk_tm f106 mo sr nm tA := tk_tm_tr htm (hF.z hmo (by rw [kmo]; rfl)) (fun i9 h9 k9 => hF.z hsr (by rw [ksr]; exact q_inWr rfl h9 k9)) (fun i9 h9 k9 => hF.z hsr (by rw [ksr]; exact q_inWr rfl h9 k9)) (fun i9 => hF.j hnm (by rw [knm]; rfl))
    refine q_ald_n cx dX12_told_4 rfl (lv_at hl 0 rfl) ?_
    refine q_cVi (As := []) (rest := []) cx hB (fun _ h => h) hN hmo kmo (by decide) rfl (f_misGood l g hN hB.2.1 mo hmo kmo z111) q_cX12_130 q_dX12_isGood (by decide) rfl rfl hl.1 rfl (Nat.le_of_ble_eq_true rfl) dX12_told_5 (fun y127 H locs f126 ry127 h128 hF hB => ?_)
    obtain ⟨rfl, qy127⟩ := h128
    subst qy127
    refine q_ifeq (tgt := 18) cx ⟨by decide, by decide⟩ dX12_told_8 (by decide) (fun c129 => ?_) (fun c129 => ?_)
    · exact absurd c129 (by omega)
    · refine q_ald_n cx dX12_told_11 rfl (lv_at hl 0 rfl) ?_
      refine q_cVi (As := []) (rest := []) cx hB (fun _ h => h) hN hmo kmo (by decide) rfl (f_mnamed l g hN hB.2.1 B tA mo hmo kmo sr hsr ksr nm hnm knm tn (by omega) (by omega) ss (by omega) (by omega) nn (by omega) (by omega) z117 z113 z119 z120 z121 t115 g116 g125) q_cX12_178 q_dX12_named (by decide) rfl rfl hl.1 rfl (Nat.le_of_ble_eq_true rfl) dX12_told_12 (fun y131 H locs f130 ry131 h132 hF hB => ?_)
      rcases h132 with h133 | h134
      · obtain ⟨rfl, ly131, uy131, t135, t136⟩ := h133
        refine lv_goto (tgt := 19) cx.1 cx.2.1 dX12_told_15 (by decide) ?_
        refine lv_istore_n (lv' := [(1, .int (q_i y131)), (0, .ref mo)]) cx.1 cx.2.1 dX12_told_19 rfl hl (by decide) rfl (fun ls hl => ?_)
        refine q_ald_n cx dX12_told_20 rfl (lv_at hl 1 rfl) ?_
        refine q_cVi (As := []) (rest := []) cx hB (fun _ h => h) hN hmo kmo (by decide) rfl (f_misGood l g hN hB.2.1 mo hmo kmo z111) q_cX12_130 q_dX12_isGood (by decide) rfl rfl hl.1 rfl (Nat.le_of_ble_eq_true rfl) dX12_told_21 (fun y138 H locs f137 ry138 h139 hF hB => ?_)
        obtain ⟨rfl, qy138⟩ := h139
        subst qy138
        refine q_ifeq (tgt := 37) cx ⟨by decide, by decide⟩ dX12_told_24 (by decide) (fun c140 => ?_) (fun c140 => ?_)
        · exact absurd c140 (by omega)
        · refine q_ild_n cx dX12_told_27 rfl (lv_at hl 0 rfl) ?_
          refine q_iconst cx dX12_told_28 ?_
          refine q_icne (tgt := 37) cx ⟨by omega, by omega⟩ ⟨by decide, by decide⟩ dX12_told_29 (by decide) (fun c141 => ?_) (fun c141 => ?_)
          · refine q_ald_n cx dX12_told_37 rfl (lv_at hl 1 rfl) ?_
            refine q_cVi (As := []) (rest := []) cx hB (fun _ h => h) hN hmo kmo (by decide) rfl (f_misGood l g hN hB.2.1 mo hmo kmo z111) q_cX12_130 q_dX12_isGood (by decide) rfl rfl hl.1 rfl (Nat.le_of_ble_eq_true rfl) dX12_told_38 (fun y143 H locs f142 ry143 h144 hF hB => ?_)
            obtain ⟨rfl, qy143⟩ := h144
            subst qy143
            refine q_ifeq (tgt := 48) cx ⟨by decide, by decide⟩ dX12_told_41 (by decide) (fun c145 => ?_) (fun c145 => ?_)
            · exact absurd c145 (by omega)
            · refine q_ald_n cx dX12_told_44 rfl (lv_at hl 1 rfl) ?_
              refine q_cVv (As := []) (rest := []) cx hB (fun _ h => h) hN hmo kmo (by decide) rfl (f_mon l g hN hB.2.1 B mo hmo kmo bu hbu kbu tn (by omega) (by omega) ss (by omega) (by omega) z117 z113 z122 g116 g124) q_cX12_140 q_dX12_goOn (by decide) rfl rfl hl.1 rfl (Nat.le_of_ble_eq_true rfl) dX12_told_45 (fun H locs f146 h148 hF hB => ?_)
              obtain ⟨t149, g150⟩ := h148
              have z151 : q_is (q_z f146 mo 3) tn := Eq.trans (hF.z hmo (by rw [kmo]; rfl)) z117
              have z152 : q_is (q_z f146 sr 0) nn := Eq.trans (hF.z hsr (by rw [ksr]; rfl)) z119
              have z153 : q_is (q_z f146 mo 8) 0 := Eq.trans (hF.z hmo (by rw [kmo]; rfl)) z111
              have z154 : q_is (q_z f146 mo 9) (-1) := Eq.trans (hF.z hmo (by rw [kmo]; rfl)) z112
              have z155 : q_ir (q_r f146 mo 13) sr := Eq.trans (hF.r hmo (by rw [kmo]; rfl)) z120
              have z156 : q_ir (q_r f146 mo 18) nm := Eq.trans (hF.r hmo (by rw [kmo]; rfl)) z121
              have z157 : q_ir (q_r f146 mo 1) bu := Eq.trans (hF.r hmo (by rw [kmo]; rfl)) z122
              have g158 : tk_ub f146 bu B tn := tk_ub_tr g124 (fun i9 => hF.z hbu (by rw [kbu]; rfl))
              have g159 : tk_tm f146 mo sr nm tA := tk_tm_tr g125 (hF.z hmo (by rw [kmo]; rfl)) (fun i9 h9 k9 => hF.z hsr (by rw [ksr]; exact q_inWr rfl h9 k9)) (fun i9 h9 k9 => hF.z hsr (by rw [ksr]; exact q_inWr rfl h9 k9)) (fun i9 => hF.j hnm (by rw [knm]; rfl))
              obtain ⟨x160, ex160⟩ : ∃ zz, q_is (q_z f146 mo 5) zz := ⟨_, q_isr _⟩
              obtain ⟨lx160, ux160⟩ := q_isb ex160 (q_fib hB.2.1 hmo kmo (by decide) rfl)
              obtain ⟨-, l0x160, u0x160, -, -⟩ := tk_tr_n g150 ex160
              refine q_ild_n cx dX12_told_48 rfl (lv_at hl 0 rfl) ?_
              refine q_iret cx hr hlk hB dX12_told_49 ⟨by omega, by omega⟩ ?_
              exact (Or.inl ⟨(by omega), (by omega), z153, z154, (tk_who_ok t115 t135), (by omega), t149, g150⟩)
          · exact absurd c141 (by omega)
      · obtain ⟨rfl, qy131, t161⟩ := h134
        subst qy131
        refine lv_goto (tgt := 19) cx.1 cx.2.1 dX12_told_15 (by decide) ?_
        refine lv_istore_n (lv' := [(1, .int (q_i (-1))), (0, .ref mo)]) cx.1 cx.2.1 dX12_told_19 rfl hl (by decide) rfl (fun ls hl => ?_)
        refine q_ald_n cx dX12_told_20 rfl (lv_at hl 1 rfl) ?_
        refine q_cVi (As := []) (rest := []) cx hB (fun _ h => h) hN hmo kmo (by decide) rfl (f_misGood l g hN hB.2.1 mo hmo kmo z111) q_cX12_130 q_dX12_isGood (by decide) rfl rfl hl.1 rfl (Nat.le_of_ble_eq_true rfl) dX12_told_21 (fun y163 H locs f162 ry163 h164 hF hB => ?_)
        obtain ⟨rfl, qy163⟩ := h164
        subst qy163
        refine q_ifeq (tgt := 37) cx ⟨by decide, by decide⟩ dX12_told_24 (by decide) (fun c165 => ?_) (fun c165 => ?_)
        · exact absurd c165 (by omega)
        · refine q_ild_n cx dX12_told_27 rfl (lv_at hl 0 rfl) ?_
          refine q_iconst cx dX12_told_28 ?_
          refine q_icne (tgt := 37) cx ⟨by decide, by decide⟩ ⟨by decide, by decide⟩ dX12_told_29 (by decide) (fun c166 => ?_) (fun c166 => ?_)
          · exact absurd c166 (by omega)
          · refine q_ald_n cx dX12_told_32 rfl (lv_at hl 1 rfl) ?_
            refine q_iconst cx dX12_told_33 ?_
            refine q_cVv (As := [.int (q_i 4)]) (rest := []) cx hB (fun _ h => h) hN hmo kmo (by decide) rfl (f_mwrongk l g hN hB.2.1 mo hmo kmo 4 (by decide) (by decide) ss (by omega) (by omega) 1 (by decide) (by decide) z113 z114 z111 z112) q_cX12_137 q_dX12_wrong (by decide) rfl rfl hl.1 rfl (Nat.le_of_ble_eq_true rfl) dX12_told_34 (fun H locs f167 h169 hF hB => ?_)
            obtain ⟨z170, z171⟩ := h169
            have z172 : q_is (q_z f167 mo 3) tn := Eq.trans (hF.z hmo (by rw [kmo]; rfl)) z117
            have z173 : q_is (q_z f167 mo 5) ss := Eq.trans (hF.z hmo (by rw [kmo]; rfl)) z113
            have z174 : q_is (q_z f167 sr 0) nn := Eq.trans (hF.z hsr (by rw [ksr]; rfl)) z119
            have z175 : q_is (q_z f167 mo 6) 1 := Eq.trans (hF.z hmo (by rw [kmo]; rfl)) z114
            have z176 : q_ir (q_r f167 mo 13) sr := Eq.trans (hF.r hmo (by rw [kmo]; rfl)) z120
            have z177 : q_ir (q_r f167 mo 18) nm := Eq.trans (hF.r hmo (by rw [kmo]; rfl)) z121
            have z178 : q_ir (q_r f167 mo 1) bu := Eq.trans (hF.r hmo (by rw [kmo]; rfl)) z122
            have g179 : tk_tr f167 mo B tn := tk_tr_tr g116 (hF.z hmo (by rw [kmo]; rfl)) (hF.z hmo (by rw [kmo]; rfl)) (hF.z hmo (by rw [kmo]; rfl)) (hF.z hmo (by rw [kmo]; rfl)) (hF.j hmo (by rw [kmo]; rfl))
            have g180 : tk_ub f167 bu B tn := tk_ub_tr g124 (fun i9 => hF.z hbu (by rw [kbu]; rfl))
            have g181 : tk_tm f167 mo sr nm tA := tk_tm_tr g125 (hF.z hmo (by rw [kmo]; rfl)) (fun i9 h9 k9 => hF.z hsr (by rw [ksr]; exact q_inWr rfl h9 k9)) (fun i9 h9 k9 => hF.z hsr (by rw [ksr]; exact q_inWr rfl h9 k9)) (fun i9 => hF.j hnm (by rw [knm]; rfl))
            refine q_ald_n cx dX12_told_37 rfl (lv_at hl 1 rfl) ?_
            refine q_cVi (As := []) (rest := []) cx hB (fun _ h => h) hN hmo kmo (by decide) rfl (r_isGood1 l g hN hB.2.1 mo hmo kmo 4 (by decide) (by decide) z170) q_cX12_130 q_dX12_isGood (by decide) rfl rfl hl.1 rfl (Nat.le_of_ble_eq_true rfl) dX12_told_38 (fun y183 H locs f182 ry183 h184 hF hB => ?_)
            obtain ⟨rfl, qy183⟩ := h184
            subst qy183
            refine q_ifeq (tgt := 48) cx ⟨by decide, by decide⟩ dX12_told_41 (by decide) (fun c185 => ?_) (fun c185 => ?_)
            · refine q_ild_n cx dX12_told_48 rfl (lv_at hl 0 rfl) ?_
              refine q_iret cx hr hlk hB dX12_told_49 ⟨by decide, by decide⟩ ?_
              exact (Or.inr ⟨rfl, (q_isl z170 (by omega)), (q_isu z170 (by omega)), (tk_who_e4 t115 t161 z170 z171), g179⟩)
            · exact absurd c185 (by omega)
  · obtain ⟨z186, z187, t188, g189⟩ := h110
    have z190 : q_is (q_z f106 mo 3) tn := Eq.trans (hF.z hmo (by rw [kmo]; rfl)) hf0
    have z191 : q_is (q_z f106 mo 5) ss := Eq.trans (hF.z hmo (by rw [kmo]; rfl)) hf1
    have z192 : q_is (q_z f106 sr 0) nn := Eq.trans (hF.z hsr (by rw [ksr]; rfl)) hf4
    have z193 : q_ir (q_r f106 mo 13) sr := Eq.trans (hF.r hmo (by rw [kmo]; rfl)) hr0
    have z194 : q_ir (q_r f106 mo 18) nm := Eq.trans (hF.r hmo (by rw [kmo]; rfl)) hr1
    have z195 : q_ir (q_r f106 mo 1) bu := Eq.trans (hF.r hmo (by rw [kmo]; rfl)) hr2
    have g196 : tk_tr f106 mo B tn := tk_tr_tr htr (hF.z hmo (by rw [kmo]; rfl)) (hF.z hmo (by rw [kmo]; rfl)) (hF.z hmo (by rw [kmo]; rfl)) (hF.z hmo (by rw [kmo]; rfl)) (hF.j hmo (by rw [kmo]; rfl))
    have g197 : tk_ub f106 bu B tn := tk_ub_tr hub (fun i9 => hF.z hbu (by rw [kbu]; rfl))
    have g198 : tk_tm f106 mo sr nm tA := tk_tm_tr htm (hF.z hmo (by rw [kmo]; rfl)) (fun i9 h9 k9 => hF.z hsr (by rw [ksr]; exact q_inWr rfl h9 k9)) (fun i9 h9 k9 => hF.z hsr (by rw [ksr]; exact q_inWr rfl h9 k9)) (fun i9 => hF.j hnm (by rw [knm]; rfl))
    refine q_ald_n cx dX12_told_4 rfl (lv_at hl 0 rfl) ?_
    refine q_cVi (As := []) (rest := []) cx hB (fun _ h => h) hN hmo kmo (by decide) rfl (r_isGood1 l g hN hB.2.1 mo hmo kmo 1 (by decide) (by decide) z186) q_cX12_130 q_dX12_isGood (by decide) rfl rfl hl.1 rfl (Nat.le_of_ble_eq_true rfl) dX12_told_5 (fun y200 H locs f199 ry200 h201 hF hB => ?_)
    obtain ⟨rfl, qy200⟩ := h201
    subst qy200
    refine q_ifeq (tgt := 18) cx ⟨by decide, by decide⟩ dX12_told_8 (by decide) (fun c202 => ?_) (fun c202 => ?_)
    · refine q_iconst cx dX12_told_18 ?_
      refine lv_istore_n (lv' := [(1, .int (q_i (-1))), (0, .ref mo)]) cx.1 cx.2.1 dX12_told_19 rfl hl (by decide) rfl (fun ls hl => ?_)
      refine q_ald_n cx dX12_told_20 rfl (lv_at hl 1 rfl) ?_
      refine q_cVi (As := []) (rest := []) cx hB (fun _ h => h) hN hmo kmo (by decide) rfl (r_isGood1 l g hN hB.2.1 mo hmo kmo 1 (by decide) (by decide) z186) q_cX12_130 q_dX12_isGood (by decide) rfl rfl hl.1 rfl (Nat.le_of_ble_eq_true rfl) dX12_told_21 (fun y204 H locs f203 ry204 h205 hF hB => ?_)
      obtain ⟨rfl, qy204⟩ := h205
      subst qy204
      refine q_ifeq (tgt := 37) cx ⟨by decide, by decide⟩ dX12_told_24 (by decide) (fun c206 => ?_) (fun c206 => ?_)
      · refine q_ald_n cx dX12_told_37 rfl (lv_at hl 1 rfl) ?_
        refine q_cVi (As := []) (rest := []) cx hB (fun _ h => h) hN hmo kmo (by decide) rfl (r_isGood1 l g hN hB.2.1 mo hmo kmo 1 (by decide) (by decide) z186) q_cX12_130 q_dX12_isGood (by decide) rfl rfl hl.1 rfl (Nat.le_of_ble_eq_true rfl) dX12_told_38 (fun y208 H locs f207 ry208 h209 hF hB => ?_)
        obtain ⟨rfl, qy208⟩ := h209
        subst qy208
        refine q_ifeq (tgt := 48) cx ⟨by decide, by decide⟩ dX12_told_41 (by decide) (fun c210 => ?_) (fun c210 => ?_)
        · refine q_ild_n cx dX12_told_48 rfl (lv_at hl 0 rfl) ?_
          refine q_iret cx hr hlk hB dX12_told_49 ⟨by decide, by decide⟩ ?_
          exact (Or.inr ⟨rfl, (q_isl z186 (by omega)), (q_isu z186 (by omega)), (tk_who_e1 t188 z186 z187), g189⟩)
        · exact absurd c210 (by omega)
      · exact absurd c206 (by omega)
    · exact absurd c202 (by omega)
set_option maxHeartbeats 4000000 in
set_option maxRecDepth 100000 in
theorem f_mhasb0 (l : Launch) (g : q_G) {K : Nat → Nat} {L : List Nat} (hN : L.Nodup) {f : Nat → va_E} (hT : q_Ty g K L f) (a0 : Int) (la0 : (-2147483648) ≤ a0) (ua0 : a0 ≤ 2147483647) (b0 : Int) (lb0 : 0 ≤ b0) (ub0 : b0 ≤ 0) : q_Ct l g K L yX12_has cX12_has 2 (some .boolean) 0 0 [.int (q_i a0), .int (q_i b0)] f [] (q_Pi (fun (z : Int) (f1 : Nat → va_E) => (f = f1 ∧ z = 1 ∧ (tk_bt a0 (Int.toNat 0) = true)) ∨ (f = f1 ∧ z = 0 ∧ (tk_bt a0 (Int.toNat 0) = false)))) := by
  obtain rfl : b0 = 0 := by omega
  refine q_ofb (by decide +kernel) hN hT (Nat.le_of_ble_eq_true rfl) ?_
  intro p e s m below meth c ls cx hr hlk hB hl
  have hl : lv_has ls 2 [(0, .int (q_i a0)), (1, .int (q_i 0))] := hl
  obtain ⟨H, hH⟩ : ∃ H : Heap, H = s.heap := ⟨_, rfl⟩
  obtain ⟨locs, hlocs⟩ : ∃ z : List Loc, z = [] := ⟨_, rfl⟩
  rw [← hH, ← hlocs] at hB
  rw [← hH, ← hlocs]
  refine q_ild_n cx dX12_has_0 rfl (lv_at hl 0 rfl) ?_
  refine q_ild_n cx dX12_has_1 rfl (lv_at hl 1 rfl) ?_
  refine q_ishr cx dX12_has_2 (fun y4 ry4 ey4 => ?_)
  refine q_iconst cx dX12_has_3 ?_
  refine q_iandm cx 1 (by decide) rfl dX12_has_4 (fun y5 ly5 uy5 ey5 => ?_)
  refine q_iconst cx dX12_has_5 ?_
  refine q_icne (tgt := 13) cx ⟨by omega, by omega⟩ ⟨by decide, by decide⟩ dX12_has_6 (by decide) (fun c6 => ?_) (fun c6 => ?_)
  · refine q_iconst cx dX12_has_13 ?_
    refine q_zret cx hr hlk hB dX12_has_14 (by decide) (by decide) ?_
    exact (Or.inr ⟨rfl, rfl, (tk_has_n (by omega) (by omega) ey4 ey5 (by omega))⟩)
  · refine q_iconst cx dX12_has_9 ?_
    refine lv_goto (tgt := 14) cx.1 cx.2.1 dX12_has_10 (by decide) ?_
    refine q_zret cx hr hlk hB dX12_has_14 (by decide) (by decide) ?_
    exact (Or.inl ⟨rfl, rfl, (tk_has_y (by omega) (by omega) ey4 ey5 (by omega))⟩)
set_option maxHeartbeats 4000000 in
set_option maxRecDepth 100000 in
theorem f_monce0 (l : Launch) (g : q_G) {K : Nat → Nat} {L : List Nat} (hN : L.Nodup) {f : Nat → va_E} (hT : q_Ty g K L f) (B : Nat → Int) (tA : tk_A) (mo : Nat) (hmo : mo ∈ L) (kmo : K mo = 12) (a0 : Int) (la0 : 0 ≤ a0) (ua0 : a0 ≤ 0) (sr : Nat) (hsr : sr ∈ L) (ksr : K sr = 151) (nm : Nat) (hnm : nm ∈ L) (knm : K nm = 156) (bu : Nat) (hbu : bu ∈ L) (kbu : K bu = 150) (tn : Int) (ltn : 0 ≤ tn) (utn : tn ≤ 600) (ss : Int) (lss : 0 ≤ ss) (uss : ss ≤ 600) (so9 : Int) (lso9 : 1 ≤ so9) (uso9 : so9 ≤ 1) (hf0 : q_is (q_z f mo 3) tn) (hf1 : q_is (q_z f mo 5) ss) (hf2 : q_is (q_z f mo 8) 0) (hf3 : q_is (q_z f mo 9) (-1)) (hf4 : q_is (q_z f mo 6) so9) (hr0 : q_ir (q_r f mo 13) sr) (hr1 : q_ir (q_r f mo 18) nm) (hr2 : q_ir (q_r f mo 1) bu) (htr : tk_tr f mo B tn) (hub : tk_ub f bu B tn) (htm : tk_tm f mo sr nm tA) : q_Ct l g K L yX12_once cX12_once 2 none 2 43 [.ref mo, .int (q_i a0)] f [(12, 4, 9), (12, 12, 12), (12, 23, 23)] (q_Pv (fun (f1 : Nat → va_E) => (q_is (q_z f1 mo 8) 0 ∧ q_is (q_z f1 mo 9) (-1) ∧ (tk_yr tA = false) ∧ (q_z f1 mo 5 = tk_nx B tn ss) ∧ (tk_tm f1 mo sr nm (tk_sy tA)) ∧ (tk_tr f1 mo B tn)) ∨ (q_is (q_z f1 mo 8) 3 ∧ q_is (q_z f1 mo 9) ss ∧ (tk_yr tA = true) ∧ (tk_tr f1 mo B tn)))) := by
  obtain rfl : a0 = 0 := by omega
  refine q_ofb (by decide +kernel) hN hT (Nat.le_of_ble_eq_true rfl) ?_
  intro p e s m below meth c ls cx hr hlk hB hl
  have hl : lv_has ls 2 [(0, .ref mo), (1, .int (q_i 0))] := hl
  obtain ⟨H, hH⟩ : ∃ H : Heap, H = s.heap := ⟨_, rfl⟩
  obtain ⟨locs, hlocs⟩ : ∃ z : List Loc, z = [] := ⟨_, rfl⟩
  rw [← hH, ← hlocs] at hB
  rw [← hH, ← hlocs]
  refine q_ald_n cx dX12_once_0 rfl (lv_at hl 0 rfl) ?_
  obtain ⟨x82, ex82⟩ : ∃ zz, q_is (q_z f mo 23) zz := ⟨_, q_isr _⟩
  refine q_gX12_182 cx hB hmo kmo ex82 dX12_once_1 (fun lb83 ub83 => ?_)
  refine q_ild_n cx dX12_once_4 rfl (lv_at hl 1 rfl) ?_
  refine q_cSi (As := [.int (q_i x82), .int (q_i 0)]) (rest := []) cx hB (fun _ h => h) hN (f_mhasb0 l g hN hB.2.1 x82 (by omega) (by omega) 0 (by decide) (by decide)) q_cX12_185 q_dX12_has (by decide) rfl rfl hl.1 rfl (Nat.le_of_ble_eq_true rfl) dX12_once_5 (fun y85 H locs f84 ry85 h86 hF hB => ?_)
  rcases h86 with h87 | h88
  · obtain ⟨rfl, qy85, t89⟩ := h87
    subst qy85
    refine q_ifeq (tgt := 16) cx ⟨by decide, by decide⟩ dX12_once_8 (by decide) (fun c90 => ?_) (fun c90 => ?_)
    · exact absurd c90 (by omega)
    · refine q_ald_n cx dX12_once_11 rfl (lv_at hl 0 rfl) ?_
      refine q_iconst cx dX12_once_12 ?_
      refine q_cVv (As := [.int (q_i 3)]) (rest := []) cx hB (fun _ h => h) hN hmo kmo (by decide) rfl (f_mwrongk l g hN hB.2.1 mo hmo kmo 3 (by decide) (by decide) ss (by omega) (by omega) so9 (by omega) (by omega) hf1 hf4 hf2 hf3) q_cX12_137 q_dX12_wrong (by decide) rfl rfl hl.1 rfl (Nat.le_of_ble_eq_true rfl) dX12_once_13 (fun H locs f91 h93 hF hB => ?_)
      obtain ⟨z94, z95⟩ := h93
      have z96 : q_is (q_z f91 mo 3) tn := Eq.trans (hF.z hmo (by rw [kmo]; rfl)) hf0
      have z97 : q_is (q_z f91 mo 5) ss := Eq.trans (hF.z hmo (by rw [kmo]; rfl)) hf1
      have z98 : q_is (q_z f91 mo 6) so9 := Eq.trans (hF.z hmo (by rw [kmo]; rfl)) hf4
      have z99 : q_is (q_z f91 mo 23) x82 := Eq.trans (hF.z hmo (by rw [kmo]; rfl)) ex82
      have z100 : q_ir (q_r f91 mo 13) sr := Eq.trans (hF.r hmo (by rw [kmo]; rfl)) hr0
      have z101 : q_ir (q_r f91 mo 18) nm := Eq.trans (hF.r hmo (by rw [kmo]; rfl)) hr1
      have z102 : q_ir (q_r f91 mo 1) bu := Eq.trans (hF.r hmo (by rw [kmo]; rfl)) hr2
      have g103 : tk_tr f91 mo B tn := tk_tr_tr htr (hF.z hmo (by rw [kmo]; rfl)) (hF.z hmo (by rw [kmo]; rfl)) (hF.z hmo (by rw [kmo]; rfl)) (hF.z hmo (by rw [kmo]; rfl)) (hF.j hmo (by rw [kmo]; rfl))
      have g104 : tk_ub f91 bu B tn := tk_ub_tr hub (fun i9 => hF.z hbu (by rw [kbu]; rfl))
      have g105 : tk_tm f91 mo sr nm tA := tk_tm_tr htm (hF.z hmo (by rw [kmo]; rfl)) (fun i9 h9 k9 => hF.z hsr (by rw [ksr]; exact q_inWr rfl h9 k9)) (fun i9 h9 k9 => hF.z hsr (by rw [ksr]; exact q_inWr rfl h9 k9)) (fun i9 => hF.j hnm (by rw [knm]; rfl))
      refine q_ald_n cx dX12_once_16 rfl (lv_at hl 0 rfl) ?_
      refine lv_dup cx.1 cx.2.1 dX12_once_17 rfl ?_
      refine q_gX12_182 cx hB hmo kmo z99 dX12_once_18 (fun lb106 ub106 => ?_)
      refine q_iconst cx dX12_once_21 ?_
      refine q_ild_n cx dX12_once_22 rfl (lv_at hl 1 rfl) ?_
      refine lv_ishl cx.1 cx.2.1 dX12_once_23 ?_
      rw [show q_i 1 <<< (q_i 0 &&& 31) = q_i 1 from by decide]
      refine q_ior cx dX12_once_24 (fun y108 ry108 ey108 => ?_)
      refine q_pX12_182 cx hB hmo kmo ⟨by omega, by omega⟩ (by omega) (by omega) rfl dX12_once_25 (fun H locs f109 ef109 z110 hB => ?_)
      have z111 : q_is (q_z f109 mo 3) tn := by rw [ef109, q_setz (Or.inr (by decide))]; exact z96
      have z112 : q_is (q_z f109 mo 5) ss := by rw [ef109, q_setz (Or.inr (by decide))]; exact z97
      have z113 : q_is (q_z f109 mo 6) so9 := by rw [ef109, q_setz (Or.inr (by decide))]; exact z98
      have z114 : q_is (q_z f109 mo 8) 3 := by rw [ef109, q_setz (Or.inr (by decide))]; exact z94
      have z115 : q_is (q_z f109 mo 9) ss := by rw [ef109, q_setz (Or.inr (by decide))]; exact z95
      have z116 : q_ir (q_r f109 mo 13) sr := by rw [ef109, q_setr (Or.inr (by decide))]; exact z100
      have z117 : q_ir (q_r f109 mo 18) nm := by rw [ef109, q_setr (Or.inr (by decide))]; exact z101
      have z118 : q_ir (q_r f109 mo 1) bu := by rw [ef109, q_setr (Or.inr (by decide))]; exact z102
      have g119 : tk_tr f109 mo B tn := tk_tr_tr g103 (by rw [ef109, q_setz (Or.inr (by decide))]) (by rw [ef109, q_setz (Or.inr (by decide))]) (by rw [ef109, q_setz (Or.inr (by decide))]) (by rw [ef109, q_setz (Or.inr (by decide))]) (by rw [ef109, q_setj (Or.inr (by decide))])
      have g120 : tk_ub f109 bu B tn := tk_ub_tr g104 (fun i9 => by rw [ef109, q_setz (Or.inl (fun q => by rw [q, kmo] at kbu; exact absurd kbu (by decide)))])
      have g121 : tk_tm f109 mo sr nm (tk_sy tA) := tk_tm_s0 g105 z99 z110 (tk_or9 (b := 0) (by decide) (by decide) (by decide : q_i 1 <<< (q_i 0 &&& 31) = q_i 1) ey108) (fun i9 h9 k9 => by rw [ef109, q_setz (Or.inl (fun q => by rw [q, kmo] at ksr; exact absurd ksr (by decide)))]) (fun i9 h9 k9 => by rw [ef109, q_setz (Or.inl (fun q => by rw [q, kmo] at ksr; exact absurd ksr (by decide)))]) (fun i9 => by rw [ef109, q_setj (Or.inl (fun q => by rw [q, kmo] at knm; exact absurd knm (by decide)))])
      refine q_ald_n cx dX12_once_28 rfl (lv_at hl 0 rfl) ?_
      refine q_cVi (As := []) (rest := []) cx hB (fun _ h => h) hN hmo kmo (by decide) rfl (r_isGood1 l g hN hB.2.1 mo hmo kmo 3 (by decide) (by decide) z114) q_cX12_130 q_dX12_isGood (by decide) rfl rfl hl.1 rfl (Nat.le_of_ble_eq_true rfl) dX12_once_29 (fun y123 H locs f122 ry123 h124 hF hB => ?_)
      obtain ⟨rfl, qy123⟩ := h124
      subst qy123
      refine q_ifeq (tgt := 39) cx ⟨by decide, by decide⟩ dX12_once_32 (by decide) (fun c125 => ?_) (fun c125 => ?_)
      · refine q_vret cx hr hlk hB dX12_once_39 ?_
        exact (Or.inr ⟨z114, z115, (tk_tm_b0 htm ex82 t89), g119⟩)
      · exact absurd c125 (by omega)
  · obtain ⟨rfl, qy85, t126⟩ := h88
    subst qy85
    refine q_ifeq (tgt := 16) cx ⟨by decide, by decide⟩ dX12_once_8 (by decide) (fun c127 => ?_) (fun c127 => ?_)
    · refine q_ald_n cx dX12_once_16 rfl (lv_at hl 0 rfl) ?_
      refine lv_dup cx.1 cx.2.1 dX12_once_17 rfl ?_
      refine q_gX12_182 cx hB hmo kmo ex82 dX12_once_18 (fun lb128 ub128 => ?_)
      refine q_iconst cx dX12_once_21 ?_
      refine q_ild_n cx dX12_once_22 rfl (lv_at hl 1 rfl) ?_
      refine lv_ishl cx.1 cx.2.1 dX12_once_23 ?_
      rw [show q_i 1 <<< (q_i 0 &&& 31) = q_i 1 from by decide]
      refine q_ior cx dX12_once_24 (fun y130 ry130 ey130 => ?_)
      refine q_pX12_182 cx hB hmo kmo ⟨by omega, by omega⟩ (by omega) (by omega) rfl dX12_once_25 (fun H locs f131 ef131 z132 hB => ?_)
      have z133 : q_is (q_z f131 mo 3) tn := by rw [ef131, q_setz (Or.inr (by decide))]; exact hf0
      have z134 : q_is (q_z f131 mo 5) ss := by rw [ef131, q_setz (Or.inr (by decide))]; exact hf1
      have z135 : q_is (q_z f131 mo 8) 0 := by rw [ef131, q_setz (Or.inr (by decide))]; exact hf2
      have z136 : q_is (q_z f131 mo 9) (-1) := by rw [ef131, q_setz (Or.inr (by decide))]; exact hf3
      have z137 : q_is (q_z f131 mo 6) so9 := by rw [ef131, q_setz (Or.inr (by decide))]; exact hf4
      have z138 : q_ir (q_r f131 mo 13) sr := by rw [ef131, q_setr (Or.inr (by decide))]; exact hr0
      have z139 : q_ir (q_r f131 mo 18) nm := by rw [ef131, q_setr (Or.inr (by decide))]; exact hr1
      have z140 : q_ir (q_r f131 mo 1) bu := by rw [ef131, q_setr (Or.inr (by decide))]; exact hr2
      have g141 : tk_tr f131 mo B tn := tk_tr_tr htr (by rw [ef131, q_setz (Or.inr (by decide))]) (by rw [ef131, q_setz (Or.inr (by decide))]) (by rw [ef131, q_setz (Or.inr (by decide))]) (by rw [ef131, q_setz (Or.inr (by decide))]) (by rw [ef131, q_setj (Or.inr (by decide))])
      have g142 : tk_ub f131 bu B tn := tk_ub_tr hub (fun i9 => by rw [ef131, q_setz (Or.inl (fun q => by rw [q, kmo] at kbu; exact absurd kbu (by decide)))])
      have g143 : tk_tm f131 mo sr nm (tk_sy tA) := tk_tm_s0 htm ex82 z132 (tk_or9 (b := 0) (by decide) (by decide) (by decide : q_i 1 <<< (q_i 0 &&& 31) = q_i 1) ey130) (fun i9 h9 k9 => by rw [ef131, q_setz (Or.inl (fun q => by rw [q, kmo] at ksr; exact absurd ksr (by decide)))]) (fun i9 h9 k9 => by rw [ef131, q_setz (Or.inl (fun q => by rw [q, kmo] at ksr; exact absurd ksr (by decide)))]) (fun i9 => by rw [ef131, q_setj (Or.inl (fun q => by rw [q, kmo] at knm; exact absurd knm (by decide)))])
      refine q_ald_n cx dX12_once_28 rfl (lv_at hl 0 rfl) ?_
      refine q_cVi (As := []) (rest := []) cx hB (fun _ h => h) hN hmo kmo (by decide) rfl (f_misGood l g hN hB.2.1 mo hmo kmo z135) q_cX12_130 q_dX12_isGood (by decide) rfl rfl hl.1 rfl (Nat.le_of_ble_eq_true rfl) dX12_once_29 (fun y145 H locs f144 ry145 h146 hF hB => ?_)
      obtain ⟨rfl, qy145⟩ := h146
      subst qy145
      refine q_ifeq (tgt := 39) cx ⟨by decide, by decide⟩ dX12_once_32 (by decide) (fun c147 => ?_) (fun c147 => ?_)
      · exact absurd c147 (by omega)
      · refine q_ald_n cx dX12_once_35 rfl (lv_at hl 0 rfl) ?_
        refine q_cVv (As := []) (rest := []) cx hB (fun _ h => h) hN hmo kmo (by decide) rfl (f_mon l g hN hB.2.1 B mo hmo kmo bu hbu kbu tn (by omega) (by omega) ss (by omega) (by omega) z133 z134 z140 g141 g142) q_cX12_140 q_dX12_goOn (by decide) rfl rfl hl.1 rfl (Nat.le_of_ble_eq_true rfl) dX12_once_36 (fun H locs f148 h150 hF hB => ?_)
        obtain ⟨t151, g152⟩ := h150
        have z153 : q_is (q_z f148 mo 3) tn := Eq.trans (hF.z hmo (by rw [kmo]; rfl)) z133
        have z154 : q_is (q_z f148 mo 8) 0 := Eq.trans (hF.z hmo (by rw [kmo]; rfl)) z135
        have z155 : q_is (q_z f148 mo 9) (-1) := Eq.trans (hF.z hmo (by rw [kmo]; rfl)) z136
        have z156 : q_is (q_z f148 mo 23) y130 := Eq.trans (hF.z hmo (by rw [kmo]; rfl)) z132
        have z157 : q_ir (q_r f148 mo 13) sr := Eq.trans (hF.r hmo (by rw [kmo]; rfl)) z138
        have z158 : q_ir (q_r f148 mo 18) nm := Eq.trans (hF.r hmo (by rw [kmo]; rfl)) z139
        have z159 : q_ir (q_r f148 mo 1) bu := Eq.trans (hF.r hmo (by rw [kmo]; rfl)) z140
        have g160 : tk_ub f148 bu B tn := tk_ub_tr g142 (fun i9 => hF.z hbu (by rw [kbu]; rfl))
        have g161 : tk_tm f148 mo sr nm (tk_sy tA) := tk_tm_tr g143 (hF.z hmo (by rw [kmo]; rfl)) (fun i9 h9 k9 => hF.z hsr (by rw [ksr]; exact q_inWr rfl h9 k9)) (fun i9 h9 k9 => hF.z hsr (by rw [ksr]; exact q_inWr rfl h9 k9)) (fun i9 => hF.j hnm (by rw [knm]; rfl))
        obtain ⟨x162, ex162⟩ : ∃ zz, q_is (q_z f148 mo 5) zz := ⟨_, q_isr _⟩
        obtain ⟨lx162, ux162⟩ := q_isb ex162 (q_fib hB.2.1 hmo kmo (by decide) rfl)
        obtain ⟨-, l0x162, u0x162, -, -⟩ := tk_tr_n g152 ex162
        refine q_vret cx hr hlk hB dX12_once_39 ?_
        exact (Or.inl ⟨z154, z155, (tk_tm_b0 htm ex82 t126), t151, g161, g152⟩)
    · exact absurd c127 (by omega)
set_option maxHeartbeats 4000000 in
set_option maxRecDepth 100000 in
theorem f_mhasb1 (l : Launch) (g : q_G) {K : Nat → Nat} {L : List Nat} (hN : L.Nodup) {f : Nat → va_E} (hT : q_Ty g K L f) (a0 : Int) (la0 : (-2147483648) ≤ a0) (ua0 : a0 ≤ 2147483647) (b0 : Int) (lb0 : 1 ≤ b0) (ub0 : b0 ≤ 1) : q_Ct l g K L yX12_has cX12_has 2 (some .boolean) 0 0 [.int (q_i a0), .int (q_i b0)] f [] (q_Pi (fun (z : Int) (f1 : Nat → va_E) => (f = f1 ∧ z = 1 ∧ (tk_bt a0 (Int.toNat 1) = true)) ∨ (f = f1 ∧ z = 0 ∧ (tk_bt a0 (Int.toNat 1) = false)))) := by
  obtain rfl : b0 = 1 := by omega
  refine q_ofb (by decide +kernel) hN hT (Nat.le_of_ble_eq_true rfl) ?_
  intro p e s m below meth c ls cx hr hlk hB hl
  have hl : lv_has ls 2 [(0, .int (q_i a0)), (1, .int (q_i 1))] := hl
  obtain ⟨H, hH⟩ : ∃ H : Heap, H = s.heap := ⟨_, rfl⟩
  obtain ⟨locs, hlocs⟩ : ∃ z : List Loc, z = [] := ⟨_, rfl⟩
  rw [← hH, ← hlocs] at hB
  rw [← hH, ← hlocs]
  refine q_ild_n cx dX12_has_0 rfl (lv_at hl 0 rfl) ?_
  refine q_ild_n cx dX12_has_1 rfl (lv_at hl 1 rfl) ?_
  refine q_ishr cx dX12_has_2 (fun y4 ry4 ey4 => ?_)
  refine q_iconst cx dX12_has_3 ?_
  refine q_iandm cx 1 (by decide) rfl dX12_has_4 (fun y5 ly5 uy5 ey5 => ?_)
  refine q_iconst cx dX12_has_5 ?_
  refine q_icne (tgt := 13) cx ⟨by omega, by omega⟩ ⟨by decide, by decide⟩ dX12_has_6 (by decide) (fun c6 => ?_) (fun c6 => ?_)
  · refine q_iconst cx dX12_has_13 ?_
    refine q_zret cx hr hlk hB dX12_has_14 (by decide) (by decide) ?_
    exact (Or.inr ⟨rfl, rfl, (tk_has_n (by omega) (by omega) ey4 ey5 (by omega))⟩)
  · refine q_iconst cx dX12_has_9 ?_
    refine lv_goto (tgt := 14) cx.1 cx.2.1 dX12_has_10 (by decide) ?_
    refine q_zret cx hr hlk hB dX12_has_14 (by decide) (by decide) ?_
    exact (Or.inl ⟨rfl, rfl, (tk_has_y (by omega) (by omega) ey4 ey5 (by omega))⟩)
set_option maxHeartbeats 4000000 in
set_option maxRecDepth 100000 in
theorem f_monce1 (l : Launch) (g : q_G) {K : Nat → Nat} {L : List Nat} (hN : L.Nodup) {f : Nat → va_E} (hT : q_Ty g K L f) (B : Nat → Int) (tA : tk_A) (mo : Nat) (hmo : mo ∈ L) (kmo : K mo = 12) (a0 : Int) (la0 : 1 ≤ a0) (ua0 : a0 ≤ 1) (sr : Nat) (hsr : sr ∈ L) (ksr : K sr = 151) (nm : Nat) (hnm : nm ∈ L) (knm : K nm = 156) (bu : Nat) (hbu : bu ∈ L) (kbu : K bu = 150) (tn : Int) (ltn : 0 ≤ tn) (utn : tn ≤ 600) (ss : Int) (lss : 0 ≤ ss) (uss : ss ≤ 600) (so9 : Int) (lso9 : 1 ≤ so9) (uso9 : so9 ≤ 1) (hf0 : q_is (q_z f mo 3) tn) (hf1 : q_is (q_z f mo 5) ss) (hf2 : q_is (q_z f mo 8) 0) (hf3 : q_is (q_z f mo 9) (-1)) (hf4 : q_is (q_z f mo 6) so9) (hr0 : q_ir (q_r f mo 13) sr) (hr1 : q_ir (q_r f mo 18) nm) (hr2 : q_ir (q_r f mo 1) bu) (htr : tk_tr f mo B tn) (hub : tk_ub f bu B tn) (htm : tk_tm f mo sr nm tA) : q_Ct l g K L yX12_once cX12_once 2 none 2 43 [.ref mo, .int (q_i a0)] f [(12, 4, 9), (12, 12, 12), (12, 23, 23)] (q_Pv (fun (f1 : Nat → va_E) => (q_is (q_z f1 mo 8) 0 ∧ q_is (q_z f1 mo 9) (-1) ∧ (tk_co tA = false) ∧ (q_z f1 mo 5 = tk_nx B tn ss) ∧ (tk_tm f1 mo sr nm (tk_sc tA)) ∧ (tk_tr f1 mo B tn)) ∨ (q_is (q_z f1 mo 8) 3 ∧ q_is (q_z f1 mo 9) ss ∧ (tk_co tA = true) ∧ (tk_tr f1 mo B tn)))) := by
  obtain rfl : a0 = 1 := by omega
  refine q_ofb (by decide +kernel) hN hT (Nat.le_of_ble_eq_true rfl) ?_
  intro p e s m below meth c ls cx hr hlk hB hl
  have hl : lv_has ls 2 [(0, .ref mo), (1, .int (q_i 1))] := hl
  obtain ⟨H, hH⟩ : ∃ H : Heap, H = s.heap := ⟨_, rfl⟩
  obtain ⟨locs, hlocs⟩ : ∃ z : List Loc, z = [] := ⟨_, rfl⟩
  rw [← hH, ← hlocs] at hB
  rw [← hH, ← hlocs]
  refine q_ald_n cx dX12_once_0 rfl (lv_at hl 0 rfl) ?_
  obtain ⟨x82, ex82⟩ : ∃ zz, q_is (q_z f mo 23) zz := ⟨_, q_isr _⟩
  refine q_gX12_182 cx hB hmo kmo ex82 dX12_once_1 (fun lb83 ub83 => ?_)
  refine q_ild_n cx dX12_once_4 rfl (lv_at hl 1 rfl) ?_
  refine q_cSi (As := [.int (q_i x82), .int (q_i 1)]) (rest := []) cx hB (fun _ h => h) hN (f_mhasb1 l g hN hB.2.1 x82 (by omega) (by omega) 1 (by decide) (by decide)) q_cX12_185 q_dX12_has (by decide) rfl rfl hl.1 rfl (Nat.le_of_ble_eq_true rfl) dX12_once_5 (fun y85 H locs f84 ry85 h86 hF hB => ?_)
  rcases h86 with h87 | h88
  · obtain ⟨rfl, qy85, t89⟩ := h87
    subst qy85
    refine q_ifeq (tgt := 16) cx ⟨by decide, by decide⟩ dX12_once_8 (by decide) (fun c90 => ?_) (fun c90 => ?_)
    · exact absurd c90 (by omega)
    · refine q_ald_n cx dX12_once_11 rfl (lv_at hl 0 rfl) ?_
      refine q_iconst cx dX12_once_12 ?_
      refine q_cVv (As := [.int (q_i 3)]) (rest := []) cx hB (fun _ h => h) hN hmo kmo (by decide) rfl (f_mwrongk l g hN hB.2.1 mo hmo kmo 3 (by decide) (by decide) ss (by omega) (by omega) so9 (by omega) (by omega) hf1 hf4 hf2 hf3) q_cX12_137 q_dX12_wrong (by decide) rfl rfl hl.1 rfl (Nat.le_of_ble_eq_true rfl) dX12_once_13 (fun H locs f91 h93 hF hB => ?_)
      obtain ⟨z94, z95⟩ := h93
      have z96 : q_is (q_z f91 mo 3) tn := Eq.trans (hF.z hmo (by rw [kmo]; rfl)) hf0
      have z97 : q_is (q_z f91 mo 5) ss := Eq.trans (hF.z hmo (by rw [kmo]; rfl)) hf1
      have z98 : q_is (q_z f91 mo 6) so9 := Eq.trans (hF.z hmo (by rw [kmo]; rfl)) hf4
      have z99 : q_is (q_z f91 mo 23) x82 := Eq.trans (hF.z hmo (by rw [kmo]; rfl)) ex82
      have z100 : q_ir (q_r f91 mo 13) sr := Eq.trans (hF.r hmo (by rw [kmo]; rfl)) hr0
      have z101 : q_ir (q_r f91 mo 18) nm := Eq.trans (hF.r hmo (by rw [kmo]; rfl)) hr1
      have z102 : q_ir (q_r f91 mo 1) bu := Eq.trans (hF.r hmo (by rw [kmo]; rfl)) hr2
      have g103 : tk_tr f91 mo B tn := tk_tr_tr htr (hF.z hmo (by rw [kmo]; rfl)) (hF.z hmo (by rw [kmo]; rfl)) (hF.z hmo (by rw [kmo]; rfl)) (hF.z hmo (by rw [kmo]; rfl)) (hF.j hmo (by rw [kmo]; rfl))
      have g104 : tk_ub f91 bu B tn := tk_ub_tr hub (fun i9 => hF.z hbu (by rw [kbu]; rfl))
      have g105 : tk_tm f91 mo sr nm tA := tk_tm_tr htm (hF.z hmo (by rw [kmo]; rfl)) (fun i9 h9 k9 => hF.z hsr (by rw [ksr]; exact q_inWr rfl h9 k9)) (fun i9 h9 k9 => hF.z hsr (by rw [ksr]; exact q_inWr rfl h9 k9)) (fun i9 => hF.j hnm (by rw [knm]; rfl))
      refine q_ald_n cx dX12_once_16 rfl (lv_at hl 0 rfl) ?_
      refine lv_dup cx.1 cx.2.1 dX12_once_17 rfl ?_
      refine q_gX12_182 cx hB hmo kmo z99 dX12_once_18 (fun lb106 ub106 => ?_)
      refine q_iconst cx dX12_once_21 ?_
      refine q_ild_n cx dX12_once_22 rfl (lv_at hl 1 rfl) ?_
      refine lv_ishl cx.1 cx.2.1 dX12_once_23 ?_
      rw [show q_i 1 <<< (q_i 1 &&& 31) = q_i 2 from by decide]
      refine q_ior cx dX12_once_24 (fun y108 ry108 ey108 => ?_)
      refine q_pX12_182 cx hB hmo kmo ⟨by omega, by omega⟩ (by omega) (by omega) rfl dX12_once_25 (fun H locs f109 ef109 z110 hB => ?_)
      have z111 : q_is (q_z f109 mo 3) tn := by rw [ef109, q_setz (Or.inr (by decide))]; exact z96
      have z112 : q_is (q_z f109 mo 5) ss := by rw [ef109, q_setz (Or.inr (by decide))]; exact z97
      have z113 : q_is (q_z f109 mo 6) so9 := by rw [ef109, q_setz (Or.inr (by decide))]; exact z98
      have z114 : q_is (q_z f109 mo 8) 3 := by rw [ef109, q_setz (Or.inr (by decide))]; exact z94
      have z115 : q_is (q_z f109 mo 9) ss := by rw [ef109, q_setz (Or.inr (by decide))]; exact z95
      have z116 : q_ir (q_r f109 mo 13) sr := by rw [ef109, q_setr (Or.inr (by decide))]; exact z100
      have z117 : q_ir (q_r f109 mo 18) nm := by rw [ef109, q_setr (Or.inr (by decide))]; exact z101
      have z118 : q_ir (q_r f109 mo 1) bu := by rw [ef109, q_setr (Or.inr (by decide))]; exact z102
      have g119 : tk_tr f109 mo B tn := tk_tr_tr g103 (by rw [ef109, q_setz (Or.inr (by decide))]) (by rw [ef109, q_setz (Or.inr (by decide))]) (by rw [ef109, q_setz (Or.inr (by decide))]) (by rw [ef109, q_setz (Or.inr (by decide))]) (by rw [ef109, q_setj (Or.inr (by decide))])
      have g120 : tk_ub f109 bu B tn := tk_ub_tr g104 (fun i9 => by rw [ef109, q_setz (Or.inl (fun q => by rw [q, kmo] at kbu; exact absurd kbu (by decide)))])
      have g121 : tk_tm f109 mo sr nm (tk_sc tA) := tk_tm_s1 g105 z99 z110 (tk_or9 (b := 1) (by decide) (by decide) (by decide : q_i 1 <<< (q_i 1 &&& 31) = q_i 2) ey108) (fun i9 h9 k9 => by rw [ef109, q_setz (Or.inl (fun q => by rw [q, kmo] at ksr; exact absurd ksr (by decide)))]) (fun i9 h9 k9 => by rw [ef109, q_setz (Or.inl (fun q => by rw [q, kmo] at ksr; exact absurd ksr (by decide)))]) (fun i9 => by rw [ef109, q_setj (Or.inl (fun q => by rw [q, kmo] at knm; exact absurd knm (by decide)))])
      refine q_ald_n cx dX12_once_28 rfl (lv_at hl 0 rfl) ?_
      refine q_cVi (As := []) (rest := []) cx hB (fun _ h => h) hN hmo kmo (by decide) rfl (r_isGood1 l g hN hB.2.1 mo hmo kmo 3 (by decide) (by decide) z114) q_cX12_130 q_dX12_isGood (by decide) rfl rfl hl.1 rfl (Nat.le_of_ble_eq_true rfl) dX12_once_29 (fun y123 H locs f122 ry123 h124 hF hB => ?_)
      obtain ⟨rfl, qy123⟩ := h124
      subst qy123
      refine q_ifeq (tgt := 39) cx ⟨by decide, by decide⟩ dX12_once_32 (by decide) (fun c125 => ?_) (fun c125 => ?_)
      · refine q_vret cx hr hlk hB dX12_once_39 ?_
        exact (Or.inr ⟨z114, z115, (tk_tm_b1 htm ex82 t89), g119⟩)
      · exact absurd c125 (by omega)
  · obtain ⟨rfl, qy85, t126⟩ := h88
    subst qy85
    refine q_ifeq (tgt := 16) cx ⟨by decide, by decide⟩ dX12_once_8 (by decide) (fun c127 => ?_) (fun c127 => ?_)
    · refine q_ald_n cx dX12_once_16 rfl (lv_at hl 0 rfl) ?_
      refine lv_dup cx.1 cx.2.1 dX12_once_17 rfl ?_
      refine q_gX12_182 cx hB hmo kmo ex82 dX12_once_18 (fun lb128 ub128 => ?_)
      refine q_iconst cx dX12_once_21 ?_
      refine q_ild_n cx dX12_once_22 rfl (lv_at hl 1 rfl) ?_
      refine lv_ishl cx.1 cx.2.1 dX12_once_23 ?_
      rw [show q_i 1 <<< (q_i 1 &&& 31) = q_i 2 from by decide]
      refine q_ior cx dX12_once_24 (fun y130 ry130 ey130 => ?_)
      refine q_pX12_182 cx hB hmo kmo ⟨by omega, by omega⟩ (by omega) (by omega) rfl dX12_once_25 (fun H locs f131 ef131 z132 hB => ?_)
      have z133 : q_is (q_z f131 mo 3) tn := by rw [ef131, q_setz (Or.inr (by decide))]; exact hf0
      have z134 : q_is (q_z f131 mo 5) ss := by rw [ef131, q_setz (Or.inr (by decide))]; exact hf1
      have z135 : q_is (q_z f131 mo 8) 0 := by rw [ef131, q_setz (Or.inr (by decide))]; exact hf2
      have z136 : q_is (q_z f131 mo 9) (-1) := by rw [ef131, q_setz (Or.inr (by decide))]; exact hf3
      have z137 : q_is (q_z f131 mo 6) so9 := by rw [ef131, q_setz (Or.inr (by decide))]; exact hf4
      have z138 : q_ir (q_r f131 mo 13) sr := by rw [ef131, q_setr (Or.inr (by decide))]; exact hr0
      have z139 : q_ir (q_r f131 mo 18) nm := by rw [ef131, q_setr (Or.inr (by decide))]; exact hr1
      have z140 : q_ir (q_r f131 mo 1) bu := by rw [ef131, q_setr (Or.inr (by decide))]; exact hr2
      have g141 : tk_tr f131 mo B tn := tk_tr_tr htr (by rw [ef131, q_setz (Or.inr (by decide))]) (by rw [ef131, q_setz (Or.inr (by decide))]) (by rw [ef131, q_setz (Or.inr (by decide))]) (by rw [ef131, q_setz (Or.inr (by decide))]) (by rw [ef131, q_setj (Or.inr (by decide))])
      have g142 : tk_ub f131 bu B tn := tk_ub_tr hub (fun i9 => by rw [ef131, q_setz (Or.inl (fun q => by rw [q, kmo] at kbu; exact absurd kbu (by decide)))])
      have g143 : tk_tm f131 mo sr nm (tk_sc tA) := tk_tm_s1 htm ex82 z132 (tk_or9 (b := 1) (by decide) (by decide) (by decide : q_i 1 <<< (q_i 1 &&& 31) = q_i 2) ey130) (fun i9 h9 k9 => by rw [ef131, q_setz (Or.inl (fun q => by rw [q, kmo] at ksr; exact absurd ksr (by decide)))]) (fun i9 h9 k9 => by rw [ef131, q_setz (Or.inl (fun q => by rw [q, kmo] at ksr; exact absurd ksr (by decide)))]) (fun i9 => by rw [ef131, q_setj (Or.inl (fun q => by rw [q, kmo] at knm; exact absurd knm (by decide)))])
      refine q_ald_n cx dX12_once_28 rfl (lv_at hl 0 rfl) ?_
      refine q_cVi (As := []) (rest := []) cx hB (fun _ h => h) hN hmo kmo (by decide) rfl (f_misGood l g hN hB.2.1 mo hmo kmo z135) q_cX12_130 q_dX12_isGood (by decide) rfl rfl hl.1 rfl (Nat.le_of_ble_eq_true rfl) dX12_once_29 (fun y145 H locs f144 ry145 h146 hF hB => ?_)
      obtain ⟨rfl, qy145⟩ := h146
      subst qy145
      refine q_ifeq (tgt := 39) cx ⟨by decide, by decide⟩ dX12_once_32 (by decide) (fun c147 => ?_) (fun c147 => ?_)
      · exact absurd c147 (by omega)
      · refine q_ald_n cx dX12_once_35 rfl (lv_at hl 0 rfl) ?_
        refine q_cVv (As := []) (rest := []) cx hB (fun _ h => h) hN hmo kmo (by decide) rfl (f_mon l g hN hB.2.1 B mo hmo kmo bu hbu kbu tn (by omega) (by omega) ss (by omega) (by omega) z133 z134 z140 g141 g142) q_cX12_140 q_dX12_goOn (by decide) rfl rfl hl.1 rfl (Nat.le_of_ble_eq_true rfl) dX12_once_36 (fun H locs f148 h150 hF hB => ?_)
        obtain ⟨t151, g152⟩ := h150
        have z153 : q_is (q_z f148 mo 3) tn := Eq.trans (hF.z hmo (by rw [kmo]; rfl)) z133
        have z154 : q_is (q_z f148 mo 8) 0 := Eq.trans (hF.z hmo (by rw [kmo]; rfl)) z135
        have z155 : q_is (q_z f148 mo 9) (-1) := Eq.trans (hF.z hmo (by rw [kmo]; rfl)) z136
        have z156 : q_is (q_z f148 mo 23) y130 := Eq.trans (hF.z hmo (by rw [kmo]; rfl)) z132
        have z157 : q_ir (q_r f148 mo 13) sr := Eq.trans (hF.r hmo (by rw [kmo]; rfl)) z138
        have z158 : q_ir (q_r f148 mo 18) nm := Eq.trans (hF.r hmo (by rw [kmo]; rfl)) z139
        have z159 : q_ir (q_r f148 mo 1) bu := Eq.trans (hF.r hmo (by rw [kmo]; rfl)) z140
        have g160 : tk_ub f148 bu B tn := tk_ub_tr g142 (fun i9 => hF.z hbu (by rw [kbu]; rfl))
        have g161 : tk_tm f148 mo sr nm (tk_sc tA) := tk_tm_tr g143 (hF.z hmo (by rw [kmo]; rfl)) (fun i9 h9 k9 => hF.z hsr (by rw [ksr]; exact q_inWr rfl h9 k9)) (fun i9 h9 k9 => hF.z hsr (by rw [ksr]; exact q_inWr rfl h9 k9)) (fun i9 => hF.j hnm (by rw [knm]; rfl))
        obtain ⟨x162, ex162⟩ : ∃ zz, q_is (q_z f148 mo 5) zz := ⟨_, q_isr _⟩
        obtain ⟨lx162, ux162⟩ := q_isb ex162 (q_fib hB.2.1 hmo kmo (by decide) rfl)
        obtain ⟨-, l0x162, u0x162, -, -⟩ := tk_tr_n g152 ex162
        refine q_vret cx hr hlk hB dX12_once_39 ?_
        exact (Or.inl ⟨z154, z155, (tk_tm_b1 htm ex82 t126), t151, g161, g152⟩)
    · exact absurd c127 (by omega)
set_option maxHeartbeats 4000000 in
set_option maxRecDepth 100000 in
theorem f_mhasb2 (l : Launch) (g : q_G) {K : Nat → Nat} {L : List Nat} (hN : L.Nodup) {f : Nat → va_E} (hT : q_Ty g K L f) (a0 : Int) (la0 : (-2147483648) ≤ a0) (ua0 : a0 ≤ 2147483647) (b0 : Int) (lb0 : 2 ≤ b0) (ub0 : b0 ≤ 2) : q_Ct l g K L yX12_has cX12_has 2 (some .boolean) 0 0 [.int (q_i a0), .int (q_i b0)] f [] (q_Pi (fun (z : Int) (f1 : Nat → va_E) => (f = f1 ∧ z = 1 ∧ (tk_bt a0 (Int.toNat 2) = true)) ∨ (f = f1 ∧ z = 0 ∧ (tk_bt a0 (Int.toNat 2) = false)))) := by
  obtain rfl : b0 = 2 := by omega
  refine q_ofb (by decide +kernel) hN hT (Nat.le_of_ble_eq_true rfl) ?_
  intro p e s m below meth c ls cx hr hlk hB hl
  have hl : lv_has ls 2 [(0, .int (q_i a0)), (1, .int (q_i 2))] := hl
  obtain ⟨H, hH⟩ : ∃ H : Heap, H = s.heap := ⟨_, rfl⟩
  obtain ⟨locs, hlocs⟩ : ∃ z : List Loc, z = [] := ⟨_, rfl⟩
  rw [← hH, ← hlocs] at hB
  rw [← hH, ← hlocs]
  refine q_ild_n cx dX12_has_0 rfl (lv_at hl 0 rfl) ?_
  refine q_ild_n cx dX12_has_1 rfl (lv_at hl 1 rfl) ?_
  refine q_ishr cx dX12_has_2 (fun y4 ry4 ey4 => ?_)
  refine q_iconst cx dX12_has_3 ?_
  refine q_iandm cx 1 (by decide) rfl dX12_has_4 (fun y5 ly5 uy5 ey5 => ?_)
  refine q_iconst cx dX12_has_5 ?_
  refine q_icne (tgt := 13) cx ⟨by omega, by omega⟩ ⟨by decide, by decide⟩ dX12_has_6 (by decide) (fun c6 => ?_) (fun c6 => ?_)
  · refine q_iconst cx dX12_has_13 ?_
    refine q_zret cx hr hlk hB dX12_has_14 (by decide) (by decide) ?_
    exact (Or.inr ⟨rfl, rfl, (tk_has_n (by omega) (by omega) ey4 ey5 (by omega))⟩)
  · refine q_iconst cx dX12_has_9 ?_
    refine lv_goto (tgt := 14) cx.1 cx.2.1 dX12_has_10 (by decide) ?_
    refine q_zret cx hr hlk hB dX12_has_14 (by decide) (by decide) ?_
    exact (Or.inl ⟨rfl, rfl, (tk_has_y (by omega) (by omega) ey4 ey5 (by omega))⟩)
set_option maxHeartbeats 4000000 in
set_option maxRecDepth 100000 in
theorem f_monce2 (l : Launch) (g : q_G) {K : Nat → Nat} {L : List Nat} (hN : L.Nodup) {f : Nat → va_E} (hT : q_Ty g K L f) (B : Nat → Int) (tA : tk_A) (mo : Nat) (hmo : mo ∈ L) (kmo : K mo = 12) (a0 : Int) (la0 : 2 ≤ a0) (ua0 : a0 ≤ 2) (sr : Nat) (hsr : sr ∈ L) (ksr : K sr = 151) (nm : Nat) (hnm : nm ∈ L) (knm : K nm = 156) (bu : Nat) (hbu : bu ∈ L) (kbu : K bu = 150) (tn : Int) (ltn : 0 ≤ tn) (utn : tn ≤ 600) (ss : Int) (lss : 0 ≤ ss) (uss : ss ≤ 600) (so9 : Int) (lso9 : 1 ≤ so9) (uso9 : so9 ≤ 1) (hf0 : q_is (q_z f mo 3) tn) (hf1 : q_is (q_z f mo 5) ss) (hf2 : q_is (q_z f mo 8) 0) (hf3 : q_is (q_z f mo 9) (-1)) (hf4 : q_is (q_z f mo 6) so9) (hr0 : q_ir (q_r f mo 13) sr) (hr1 : q_ir (q_r f mo 18) nm) (hr2 : q_ir (q_r f mo 1) bu) (htr : tk_tr f mo B tn) (hub : tk_ub f bu B tn) (htm : tk_tm f mo sr nm tA) : q_Ct l g K L yX12_once cX12_once 2 none 2 43 [.ref mo, .int (q_i a0)] f [(12, 4, 9), (12, 12, 12), (12, 23, 23)] (q_Pv (fun (f1 : Nat → va_E) => (q_is (q_z f1 mo 8) 0 ∧ q_is (q_z f1 mo 9) (-1) ∧ (tk_mi tA = false) ∧ (q_z f1 mo 5 = tk_nx B tn ss) ∧ (tk_tm f1 mo sr nm (tk_sm tA)) ∧ (tk_tr f1 mo B tn)) ∨ (q_is (q_z f1 mo 8) 3 ∧ q_is (q_z f1 mo 9) ss ∧ (tk_mi tA = true) ∧ (tk_tr f1 mo B tn)))) := by
  obtain rfl : a0 = 2 := by omega
  refine q_ofb (by decide +kernel) hN hT (Nat.le_of_ble_eq_true rfl) ?_
  intro p e s m below meth c ls cx hr hlk hB hl
  have hl : lv_has ls 2 [(0, .ref mo), (1, .int (q_i 2))] := hl
  obtain ⟨H, hH⟩ : ∃ H : Heap, H = s.heap := ⟨_, rfl⟩
  obtain ⟨locs, hlocs⟩ : ∃ z : List Loc, z = [] := ⟨_, rfl⟩
  rw [← hH, ← hlocs] at hB
  rw [← hH, ← hlocs]
  refine q_ald_n cx dX12_once_0 rfl (lv_at hl 0 rfl) ?_
  obtain ⟨x82, ex82⟩ : ∃ zz, q_is (q_z f mo 23) zz := ⟨_, q_isr _⟩
  refine q_gX12_182 cx hB hmo kmo ex82 dX12_once_1 (fun lb83 ub83 => ?_)
  refine q_ild_n cx dX12_once_4 rfl (lv_at hl 1 rfl) ?_
  refine q_cSi (As := [.int (q_i x82), .int (q_i 2)]) (rest := []) cx hB (fun _ h => h) hN (f_mhasb2 l g hN hB.2.1 x82 (by omega) (by omega) 2 (by decide) (by decide)) q_cX12_185 q_dX12_has (by decide) rfl rfl hl.1 rfl (Nat.le_of_ble_eq_true rfl) dX12_once_5 (fun y85 H locs f84 ry85 h86 hF hB => ?_)
  rcases h86 with h87 | h88
  · obtain ⟨rfl, qy85, t89⟩ := h87
    subst qy85
    refine q_ifeq (tgt := 16) cx ⟨by decide, by decide⟩ dX12_once_8 (by decide) (fun c90 => ?_) (fun c90 => ?_)
    · exact absurd c90 (by omega)
    · refine q_ald_n cx dX12_once_11 rfl (lv_at hl 0 rfl) ?_
      refine q_iconst cx dX12_once_12 ?_
      refine q_cVv (As := [.int (q_i 3)]) (rest := []) cx hB (fun _ h => h) hN hmo kmo (by decide) rfl (f_mwrongk l g hN hB.2.1 mo hmo kmo 3 (by decide) (by decide) ss (by omega) (by omega) so9 (by omega) (by omega) hf1 hf4 hf2 hf3) q_cX12_137 q_dX12_wrong (by decide) rfl rfl hl.1 rfl (Nat.le_of_ble_eq_true rfl) dX12_once_13 (fun H locs f91 h93 hF hB => ?_)
      obtain ⟨z94, z95⟩ := h93
      have z96 : q_is (q_z f91 mo 3) tn := Eq.trans (hF.z hmo (by rw [kmo]; rfl)) hf0
      have z97 : q_is (q_z f91 mo 5) ss := Eq.trans (hF.z hmo (by rw [kmo]; rfl)) hf1
      have z98 : q_is (q_z f91 mo 6) so9 := Eq.trans (hF.z hmo (by rw [kmo]; rfl)) hf4
      have z99 : q_is (q_z f91 mo 23) x82 := Eq.trans (hF.z hmo (by rw [kmo]; rfl)) ex82
      have z100 : q_ir (q_r f91 mo 13) sr := Eq.trans (hF.r hmo (by rw [kmo]; rfl)) hr0
      have z101 : q_ir (q_r f91 mo 18) nm := Eq.trans (hF.r hmo (by rw [kmo]; rfl)) hr1
      have z102 : q_ir (q_r f91 mo 1) bu := Eq.trans (hF.r hmo (by rw [kmo]; rfl)) hr2
      have g103 : tk_tr f91 mo B tn := tk_tr_tr htr (hF.z hmo (by rw [kmo]; rfl)) (hF.z hmo (by rw [kmo]; rfl)) (hF.z hmo (by rw [kmo]; rfl)) (hF.z hmo (by rw [kmo]; rfl)) (hF.j hmo (by rw [kmo]; rfl))
      have g104 : tk_ub f91 bu B tn := tk_ub_tr hub (fun i9 => hF.z hbu (by rw [kbu]; rfl))
      have g105 : tk_tm f91 mo sr nm tA := tk_tm_tr htm (hF.z hmo (by rw [kmo]; rfl)) (fun i9 h9 k9 => hF.z hsr (by rw [ksr]; exact q_inWr rfl h9 k9)) (fun i9 h9 k9 => hF.z hsr (by rw [ksr]; exact q_inWr rfl h9 k9)) (fun i9 => hF.j hnm (by rw [knm]; rfl))
      refine q_ald_n cx dX12_once_16 rfl (lv_at hl 0 rfl) ?_
      refine lv_dup cx.1 cx.2.1 dX12_once_17 rfl ?_
      refine q_gX12_182 cx hB hmo kmo z99 dX12_once_18 (fun lb106 ub106 => ?_)
      refine q_iconst cx dX12_once_21 ?_
      refine q_ild_n cx dX12_once_22 rfl (lv_at hl 1 rfl) ?_
      refine lv_ishl cx.1 cx.2.1 dX12_once_23 ?_
      rw [show q_i 1 <<< (q_i 2 &&& 31) = q_i 4 from by decide]
      refine q_ior cx dX12_once_24 (fun y108 ry108 ey108 => ?_)
      refine q_pX12_182 cx hB hmo kmo ⟨by omega, by omega⟩ (by omega) (by omega) rfl dX12_once_25 (fun H locs f109 ef109 z110 hB => ?_)
      have z111 : q_is (q_z f109 mo 3) tn := by rw [ef109, q_setz (Or.inr (by decide))]; exact z96
      have z112 : q_is (q_z f109 mo 5) ss := by rw [ef109, q_setz (Or.inr (by decide))]; exact z97
      have z113 : q_is (q_z f109 mo 6) so9 := by rw [ef109, q_setz (Or.inr (by decide))]; exact z98
      have z114 : q_is (q_z f109 mo 8) 3 := by rw [ef109, q_setz (Or.inr (by decide))]; exact z94
      have z115 : q_is (q_z f109 mo 9) ss := by rw [ef109, q_setz (Or.inr (by decide))]; exact z95
      have z116 : q_ir (q_r f109 mo 13) sr := by rw [ef109, q_setr (Or.inr (by decide))]; exact z100
      have z117 : q_ir (q_r f109 mo 18) nm := by rw [ef109, q_setr (Or.inr (by decide))]; exact z101
      have z118 : q_ir (q_r f109 mo 1) bu := by rw [ef109, q_setr (Or.inr (by decide))]; exact z102
      have g119 : tk_tr f109 mo B tn := tk_tr_tr g103 (by rw [ef109, q_setz (Or.inr (by decide))]) (by rw [ef109, q_setz (Or.inr (by decide))]) (by rw [ef109, q_setz (Or.inr (by decide))]) (by rw [ef109, q_setz (Or.inr (by decide))]) (by rw [ef109, q_setj (Or.inr (by decide))])
      have g120 : tk_ub f109 bu B tn := tk_ub_tr g104 (fun i9 => by rw [ef109, q_setz (Or.inl (fun q => by rw [q, kmo] at kbu; exact absurd kbu (by decide)))])
      have g121 : tk_tm f109 mo sr nm (tk_sm tA) := tk_tm_s2 g105 z99 z110 (tk_or9 (b := 2) (by decide) (by decide) (by decide : q_i 1 <<< (q_i 2 &&& 31) = q_i 4) ey108) (fun i9 h9 k9 => by rw [ef109, q_setz (Or.inl (fun q => by rw [q, kmo] at ksr; exact absurd ksr (by decide)))]) (fun i9 h9 k9 => by rw [ef109, q_setz (Or.inl (fun q => by rw [q, kmo] at ksr; exact absurd ksr (by decide)))]) (fun i9 => by rw [ef109, q_setj (Or.inl (fun q => by rw [q, kmo] at knm; exact absurd knm (by decide)))])
      refine q_ald_n cx dX12_once_28 rfl (lv_at hl 0 rfl) ?_
      refine q_cVi (As := []) (rest := []) cx hB (fun _ h => h) hN hmo kmo (by decide) rfl (r_isGood1 l g hN hB.2.1 mo hmo kmo 3 (by decide) (by decide) z114) q_cX12_130 q_dX12_isGood (by decide) rfl rfl hl.1 rfl (Nat.le_of_ble_eq_true rfl) dX12_once_29 (fun y123 H locs f122 ry123 h124 hF hB => ?_)
      obtain ⟨rfl, qy123⟩ := h124
      subst qy123
      refine q_ifeq (tgt := 39) cx ⟨by decide, by decide⟩ dX12_once_32 (by decide) (fun c125 => ?_) (fun c125 => ?_)
      · refine q_vret cx hr hlk hB dX12_once_39 ?_
        exact (Or.inr ⟨z114, z115, (tk_tm_b2 htm ex82 t89), g119⟩)
      · exact absurd c125 (by omega)
  · obtain ⟨rfl, qy85, t126⟩ := h88
    subst qy85
    refine q_ifeq (tgt := 16) cx ⟨by decide, by decide⟩ dX12_once_8 (by decide) (fun c127 => ?_) (fun c127 => ?_)
    · refine q_ald_n cx dX12_once_16 rfl (lv_at hl 0 rfl) ?_
      refine lv_dup cx.1 cx.2.1 dX12_once_17 rfl ?_
      refine q_gX12_182 cx hB hmo kmo ex82 dX12_once_18 (fun lb128 ub128 => ?_)
      refine q_iconst cx dX12_once_21 ?_
      refine q_ild_n cx dX12_once_22 rfl (lv_at hl 1 rfl) ?_
      refine lv_ishl cx.1 cx.2.1 dX12_once_23 ?_
      rw [show q_i 1 <<< (q_i 2 &&& 31) = q_i 4 from by decide]
      refine q_ior cx dX12_once_24 (fun y130 ry130 ey130 => ?_)
      refine q_pX12_182 cx hB hmo kmo ⟨by omega, by omega⟩ (by omega) (by omega) rfl dX12_once_25 (fun H locs f131 ef131 z132 hB => ?_)
      have z133 : q_is (q_z f131 mo 3) tn := by rw [ef131, q_setz (Or.inr (by decide))]; exact hf0
      have z134 : q_is (q_z f131 mo 5) ss := by rw [ef131, q_setz (Or.inr (by decide))]; exact hf1
      have z135 : q_is (q_z f131 mo 8) 0 := by rw [ef131, q_setz (Or.inr (by decide))]; exact hf2
      have z136 : q_is (q_z f131 mo 9) (-1) := by rw [ef131, q_setz (Or.inr (by decide))]; exact hf3
      have z137 : q_is (q_z f131 mo 6) so9 := by rw [ef131, q_setz (Or.inr (by decide))]; exact hf4
      have z138 : q_ir (q_r f131 mo 13) sr := by rw [ef131, q_setr (Or.inr (by decide))]; exact hr0
      have z139 : q_ir (q_r f131 mo 18) nm := by rw [ef131, q_setr (Or.inr (by decide))]; exact hr1
      have z140 : q_ir (q_r f131 mo 1) bu := by rw [ef131, q_setr (Or.inr (by decide))]; exact hr2
      have g141 : tk_tr f131 mo B tn := tk_tr_tr htr (by rw [ef131, q_setz (Or.inr (by decide))]) (by rw [ef131, q_setz (Or.inr (by decide))]) (by rw [ef131, q_setz (Or.inr (by decide))]) (by rw [ef131, q_setz (Or.inr (by decide))]) (by rw [ef131, q_setj (Or.inr (by decide))])
      have g142 : tk_ub f131 bu B tn := tk_ub_tr hub (fun i9 => by rw [ef131, q_setz (Or.inl (fun q => by rw [q, kmo] at kbu; exact absurd kbu (by decide)))])
      have g143 : tk_tm f131 mo sr nm (tk_sm tA) := tk_tm_s2 htm ex82 z132 (tk_or9 (b := 2) (by decide) (by decide) (by decide : q_i 1 <<< (q_i 2 &&& 31) = q_i 4) ey130) (fun i9 h9 k9 => by rw [ef131, q_setz (Or.inl (fun q => by rw [q, kmo] at ksr; exact absurd ksr (by decide)))]) (fun i9 h9 k9 => by rw [ef131, q_setz (Or.inl (fun q => by rw [q, kmo] at ksr; exact absurd ksr (by decide)))]) (fun i9 => by rw [ef131, q_setj (Or.inl (fun q => by rw [q, kmo] at knm; exact absurd knm (by decide)))])
      refine q_ald_n cx dX12_once_28 rfl (lv_at hl 0 rfl) ?_
      refine q_cVi (As := []) (rest := []) cx hB (fun _ h => h) hN hmo kmo (by decide) rfl (f_misGood l g hN hB.2.1 mo hmo kmo z135) q_cX12_130 q_dX12_isGood (by decide) rfl rfl hl.1 rfl (Nat.le_of_ble_eq_true rfl) dX12_once_29 (fun y145 H locs f144 ry145 h146 hF hB => ?_)
      obtain ⟨rfl, qy145⟩ := h146
      subst qy145
      refine q_ifeq (tgt := 39) cx ⟨by decide, by decide⟩ dX12_once_32 (by decide) (fun c147 => ?_) (fun c147 => ?_)
      · exact absurd c147 (by omega)
      · refine q_ald_n cx dX12_once_35 rfl (lv_at hl 0 rfl) ?_
        refine q_cVv (As := []) (rest := []) cx hB (fun _ h => h) hN hmo kmo (by decide) rfl (f_mon l g hN hB.2.1 B mo hmo kmo bu hbu kbu tn (by omega) (by omega) ss (by omega) (by omega) z133 z134 z140 g141 g142) q_cX12_140 q_dX12_goOn (by decide) rfl rfl hl.1 rfl (Nat.le_of_ble_eq_true rfl) dX12_once_36 (fun H locs f148 h150 hF hB => ?_)
        obtain ⟨t151, g152⟩ := h150
        have z153 : q_is (q_z f148 mo 3) tn := Eq.trans (hF.z hmo (by rw [kmo]; rfl)) z133
        have z154 : q_is (q_z f148 mo 8) 0 := Eq.trans (hF.z hmo (by rw [kmo]; rfl)) z135
        have z155 : q_is (q_z f148 mo 9) (-1) := Eq.trans (hF.z hmo (by rw [kmo]; rfl)) z136
        have z156 : q_is (q_z f148 mo 23) y130 := Eq.trans (hF.z hmo (by rw [kmo]; rfl)) z132
        have z157 : q_ir (q_r f148 mo 13) sr := Eq.trans (hF.r hmo (by rw [kmo]; rfl)) z138
        have z158 : q_ir (q_r f148 mo 18) nm := Eq.trans (hF.r hmo (by rw [kmo]; rfl)) z139
        have z159 : q_ir (q_r f148 mo 1) bu := Eq.trans (hF.r hmo (by rw [kmo]; rfl)) z140
        have g160 : tk_ub f148 bu B tn := tk_ub_tr g142 (fun i9 => hF.z hbu (by rw [kbu]; rfl))
        have g161 : tk_tm f148 mo sr nm (tk_sm tA) := tk_tm_tr g143 (hF.z hmo (by rw [kmo]; rfl)) (fun i9 h9 k9 => hF.z hsr (by rw [ksr]; exact q_inWr rfl h9 k9)) (fun i9 h9 k9 => hF.z hsr (by rw [ksr]; exact q_inWr rfl h9 k9)) (fun i9 => hF.j hnm (by rw [knm]; rfl))
        obtain ⟨x162, ex162⟩ : ∃ zz, q_is (q_z f148 mo 5) zz := ⟨_, q_isr _⟩
        obtain ⟨lx162, ux162⟩ := q_isb ex162 (q_fib hB.2.1 hmo kmo (by decide) rfl)
        obtain ⟨-, l0x162, u0x162, -, -⟩ := tk_tr_n g152 ex162
        refine q_vret cx hr hlk hB dX12_once_39 ?_
        exact (Or.inl ⟨z154, z155, (tk_tm_b2 htm ex82 t126), t151, g161, g152⟩)
    · exact absurd c127 (by omega)
