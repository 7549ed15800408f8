set_option maxHeartbeats 4000000 in
set_option maxRecDepth 100000 in
theorem f_mreadsNumbers6 (l : Launch) (g : q_G) {K : Nat → Nat} {L : List Nat} (hN : L.Nodup) {f : Nat → va_E} (hT : q_Ty g K L f) (B : Nat → Int) (nl9 : List (List Int)) (mo : Nat) (hmo : mo ∈ L) (kmo : K mo = 12) (a0 : Int) (la0 : 0 ≤ a0) (ua0 : a0 ≤ 58) (b0 : Int) (lb0 : 6 ≤ b0) (ub0 : b0 ≤ 6) (sr : Nat) (hsr : sr ∈ L) (ksr : K sr = 151) (nm : Nat) (hnm : nm ∈ L) (knm : K nm = 156) (bu : Nat) (hbu : bu ∈ L) (kbu : K bu = 150) (c1 : Nat) (hc1 : c1 ∈ L) (kc1 : K c1 = 162) (c2 : Nat) (hc2 : c2 ∈ L) (kc2 : K c2 = 163) (c3 : Nat) (hc3 : c3 ∈ L) (kc3 : K c3 = 164) (tn : Int) (ltn : 0 ≤ tn) (utn : tn ≤ 600) (ss : Int) (lss : 0 ≤ ss) (uss : ss ≤ 600) (xc : Int) (lxc : 0 ≤ xc) (uxc : xc ≤ 10) (hf0 : q_is (q_z f mo 3) tn) (hf1 : q_is (q_z f mo 5) ss) (hf2 : q_is (q_z f mo 8) 0) (hf3 : q_is (q_z f mo 9) (-1)) (hf4 : q_is (q_z f sr 0) xc) (hr0 : q_ir (q_r f mo 13) sr) (hr1 : q_ir (q_r f mo 18) nm) (hr2 : q_ir (q_r f mo 1) bu) (hr3 : q_ir (q_r f mo 30) c1) (hr4 : q_ir (q_r f mo 31) c2) (hr5 : q_ir (q_r f mo 32) c3) (hp0 : (nl9.length : Int) = xc) (htr : tk_tr f mo B tn) (hub : tk_ub f bu B tn) (hrn : tk_nq f nm nl9) : q_Ct l g K L yX12_readsNumbers cX12_readsNumbers 3 none 3 70 [.ref mo, .int (q_i a0), .int (q_i b0)] f [(12, 4, 9), (12, 12, 12), (162, 0, 58)] (q_Pv (fun (f1 : Nat → va_E) => (q_is (q_z f1 mo 8) 0 ∧ q_is (q_z f1 mo 9) (-1) ∧ (tk_rd B tn nl9 6 ss = tk_ok (q_z f1 mo 5)) ∧ (k_cc b0 f1 c1 c2 (Int.toNat a0)) ∧ (k_bl f f1 c1 c2 a0) ∧ (tk_tr f1 mo B tn)) ∨ (1 ≤ q_z f1 mo 8 ∧ q_z f1 mo 8 ≤ 5 ∧ (tk_rd B tn nl9 6 ss = tk_er (q_z f1 mo 8) (q_z f1 mo 9)) ∧ (tk_tr f1 mo B tn)))) := by
  obtain rfl : b0 = 6 := by omega
  refine q_ofb (by decide +kernel) hN hT (Nat.le_of_ble_eq_true rfl) ?_
  intro p e s m below meth c ls cx hr hlk hB hl
  have hl : lv_has ls 3 [(0, .ref mo), (1, .int (q_i a0)), (2, .int (q_i 6))] := hl
  obtain ⟨H, hH⟩ : ∃ H : Heap, H = s.heap := ⟨_, rfl⟩
  obtain ⟨locs, hlocs⟩ : ∃ z : List Loc, z = [] := ⟨_, rfl⟩
  rw [← hH, ← hlocs] at hB
  rw [← hH, ← hlocs]
  have hbl : k_bl f f c1 c2 a0 := k_bl_rf _ _ _ _
  refine q_ild_n cx dX12_readsNumbers_0 rfl (lv_at hl 2 rfl) ?_
  refine q_ifne (tgt := 14) cx ⟨by decide, by decide⟩ dX12_readsNumbers_1 (by decide) (fun c131 => ?_) (fun c131 => ?_)
  · refine q_ild_n cx dX12_readsNumbers_14 rfl (lv_at hl 2 rfl) ?_
    refine q_iconst cx dX12_readsNumbers_15 ?_
    refine q_iclt (tgt := 34) cx ⟨by decide, by decide⟩ ⟨by decide, by decide⟩ dX12_readsNumbers_16 (by decide) (fun c132 => ?_) (fun c132 => ?_)
    · exact absurd c132 (by omega)
    · refine q_ild_n cx dX12_readsNumbers_19 rfl (lv_at hl 2 rfl) ?_
      refine q_iconst cx dX12_readsNumbers_20 ?_
      refine q_icgt (tgt := 34) cx ⟨by decide, by decide⟩ ⟨by decide, by decide⟩ dX12_readsNumbers_21 (by decide) (fun c133 => ?_) (fun c133 => ?_)
      · refine q_ild_n cx dX12_readsNumbers_34 rfl (lv_at hl 2 rfl) ?_
        refine q_iconst cx dX12_readsNumbers_35 ?_
        refine q_iceq (tgt := 44) cx ⟨by decide, by decide⟩ ⟨by decide, by decide⟩ dX12_readsNumbers_36 (by decide) (fun c134 => ?_) (fun c134 => ?_)
        · exact absurd c134 (by omega)
        · refine q_ild_n cx dX12_readsNumbers_39 rfl (lv_at hl 2 rfl) ?_
          refine q_iconst cx dX12_readsNumbers_40 ?_
          refine q_icne (tgt := 54) cx ⟨by decide, by decide⟩ ⟨by decide, by decide⟩ dX12_readsNumbers_41 (by decide) (fun c135 => ?_) (fun c135 => ?_)
          · refine q_ild_n cx dX12_readsNumbers_54 rfl (lv_at hl 2 rfl) ?_
            refine q_iconst cx dX12_readsNumbers_55 ?_
            refine q_iclt (tgt := 74) cx ⟨by decide, by decide⟩ ⟨by decide, by decide⟩ dX12_readsNumbers_56 (by decide) (fun c136 => ?_) (fun c136 => ?_)
            · exact absurd c136 (by omega)
            · refine q_ild_n cx dX12_readsNumbers_59 rfl (lv_at hl 2 rfl) ?_
              refine q_iconst cx dX12_readsNumbers_60 ?_
              refine q_icgt (tgt := 74) cx ⟨by decide, by decide⟩ ⟨by decide, by decide⟩ dX12_readsNumbers_61 (by decide) (fun c137 => ?_) (fun c137 => ?_)
              · refine q_ild_n cx dX12_readsNumbers_74 rfl (lv_at hl 2 rfl) ?_
                refine q_iconst cx dX12_readsNumbers_75 ?_
                refine q_iceq (tgt := 84) cx ⟨by decide, by decide⟩ ⟨by decide, by decide⟩ dX12_readsNumbers_76 (by decide) (fun c138 => ?_) (fun c138 => ?_)
                · exact absurd c138 (by omega)
                · refine q_ild_n cx dX12_readsNumbers_79 rfl (lv_at hl 2 rfl) ?_
                  refine q_iconst cx dX12_readsNumbers_80 ?_
                  refine q_icne (tgt := 94) cx ⟨by decide, by decide⟩ ⟨by decide, by decide⟩ dX12_readsNumbers_81 (by decide) (fun c139 => ?_) (fun c139 => ?_)
                  · refine q_ild_n cx dX12_readsNumbers_94 rfl (lv_at hl 2 rfl) ?_
                    refine q_bipush cx dX12_readsNumbers_95 rfl ?_
                    refine q_icne (tgt := 113) cx ⟨by decide, by decide⟩ ⟨by decide, by decide⟩ dX12_readsNumbers_97 (by decide) (fun c140 => ?_) (fun c140 => ?_)
                    · exact absurd c140 (by omega)
                    · refine q_ald_n cx dX12_readsNumbers_100 rfl (lv_at hl 0 rfl) ?_
                      refine q_gX12_54 cx hB hmo kmo hr3 dX12_readsNumbers_101 (fun hb141 kb141 => ?_)
                      refine q_ild_n cx dX12_readsNumbers_104 rfl (lv_at hl 1 rfl) ?_
                      refine q_ald_n cx dX12_readsNumbers_105 rfl (lv_at hl 0 rfl) ?_
                      refine q_iconst cx dX12_readsNumbers_106 ?_
                      refine q_bipush cx dX12_readsNumbers_107 rfl ?_
                      refine q_cVi (As := [.int (q_i 1), .int (q_i 20)]) (rest := [.int (q_i a0), .ref c1]) cx hB (fun _ h => h) hN hmo kmo (by decide) rfl (f_mnumber l g hN hB.2.1 B mo hmo kmo 1 (by decide) (by decide) 20 (by decide) (by decide) bu hbu kbu tn (by omega) (by omega) ss (by omega) (by omega) hf0 hf1 hf2 hf3 hr2 htr hub) q_cX12_193 q_dX12_number (by decide) rfl rfl hl.1 rfl (Nat.le_of_ble_eq_true rfl) dX12_readsNumbers_109 (fun y143 H locs f142 ry143 h144 hF hB => ?_)
                      rcases h144 with h145 | h146
                      · obtain ⟨z147, z148, t149, t150, t151, g152⟩ := h145
                        have z153 : q_is (q_z f142 mo 3) tn := Eq.trans (hF.z hmo (by rw [kmo]; rfl)) hf0
                        have z154 : q_is (q_z f142 sr 0) xc := Eq.trans (hF.z hsr (by rw [ksr]; rfl)) hf4
                        have z155 : q_ir (q_r f142 mo 13) sr := Eq.trans (hF.r hmo (by rw [kmo]; rfl)) hr0
                        have z156 : q_ir (q_r f142 mo 18) nm := Eq.trans (hF.r hmo (by rw [kmo]; rfl)) hr1
                        have z157 : q_ir (q_r f142 mo 1) bu := Eq.trans (hF.r hmo (by rw [kmo]; rfl)) hr2
                        have z158 : q_ir (q_r f142 mo 30) c1 := Eq.trans (hF.r hmo (by rw [kmo]; rfl)) hr3
                        have z159 : q_ir (q_r f142 mo 31) c2 := Eq.trans (hF.r hmo (by rw [kmo]; rfl)) hr4
                        have z160 : q_ir (q_r f142 mo 32) c3 := Eq.trans (hF.r hmo (by rw [kmo]; rfl)) hr5
                        have g161 : tk_ub f142 bu B tn := tk_ub_tr hub (fun i9 => hF.z hbu (by rw [kbu]; rfl))
                        have g162 : tk_nq f142 nm nl9 := tk_nq_tr hrn (fun i9 => hF.j hnm (by rw [knm]; rfl))
                        have g163 : k_bl f f142 c1 c2 a0 := k_bl_tr hbl (fun i9 => hF.z hc1 (by rw [kc1]; rfl)) (fun i9 => hF.z hc2 (by rw [kc2]; rfl))
                        obtain ⟨x164, ex164⟩ : ∃ zz, q_is (q_z f142 mo 5) zz := ⟨_, q_isr _⟩
                        obtain ⟨lx164, ux164⟩ := q_isb ex164 (q_fib hB.2.1 hmo kmo (by decide) rfl)
                        obtain ⟨-, l0x164, u0x164, -, -⟩ := tk_tr_n g152 ex164
                        refine q_iast (lo := (-2147483648)) (hi := 2147483647) (n := 60) cx hB hc1 kc1 (by decide) rfl rfl (by omega) (by omega) (by decide) rfl ⟨by omega, by omega⟩ (by omega) (by omega) (q_inWi (lo := 0) (hi := 58) (by decide) (by omega) (by omega)) dX12_readsNumbers_112 (fun H locs f165 ef165 z166 hB => ?_)
                        have z167 : q_is (q_z f165 mo 3) tn := by rw [ef165, q_setz (Or.inl (fun q => by rw [q, kc1] at kmo; exact absurd kmo (by decide)))]; exact z153
                        have z168 : q_is (q_z f165 sr 0) xc := by rw [ef165, q_setz (Or.inl (fun q => by rw [q, kc1] at ksr; exact absurd ksr (by decide)))]; exact z154
                        have z169 : q_is (q_z f165 mo 8) 0 := by rw [ef165, q_setz (Or.inl (fun q => by rw [q, kc1] at kmo; exact absurd kmo (by decide)))]; exact z147
                        have z170 : q_is (q_z f165 mo 9) (-1) := by rw [ef165, q_setz (Or.inl (fun q => by rw [q, kc1] at kmo; exact absurd kmo (by decide)))]; exact z148
                        have z171 : q_is (q_z f165 mo 5) x164 := by rw [ef165, q_setz (Or.inl (fun q => by rw [q, kc1] at kmo; exact absurd kmo (by decide)))]; exact ex164
                        have z172 : q_ir (q_r f165 mo 13) sr := by rw [ef165, q_setr (Or.inl (fun q => by rw [q, kc1] at kmo; exact absurd kmo (by decide)))]; exact z155
                        have z173 : q_ir (q_r f165 mo 18) nm := by rw [ef165, q_setr (Or.inl (fun q => by rw [q, kc1] at kmo; exact absurd kmo (by decide)))]; exact z156
                        have z174 : q_ir (q_r f165 mo 1) bu := by rw [ef165, q_setr (Or.inl (fun q => by rw [q, kc1] at kmo; exact absurd kmo (by decide)))]; exact z157
                        have z175 : q_ir (q_r f165 mo 30) c1 := by rw [ef165, q_setr (Or.inl (fun q => by rw [q, kc1] at kmo; exact absurd kmo (by decide)))]; exact z158
                        have z176 : q_ir (q_r f165 mo 31) c2 := by rw [ef165, q_setr (Or.inl (fun q => by rw [q, kc1] at kmo; exact absurd kmo (by decide)))]; exact z159
                        have z177 : q_ir (q_r f165 mo 32) c3 := by rw [ef165, q_setr (Or.inl (fun q => by rw [q, kc1] at kmo; exact absurd kmo (by decide)))]; exact z160
                        have g178 : tk_ub f165 bu B tn := tk_ub_tr g161 (fun i9 => by rw [ef165, q_setz (Or.inl (fun q => by rw [q, kc1] at kbu; exact absurd kbu (by decide)))])
                        have g179 : tk_nq f165 nm nl9 := tk_nq_tr g162 (fun i9 => by rw [ef165, q_setj (Or.inl (fun q => by rw [q, kc1] at knm; exact absurd knm (by decide)))])
                        have g180 : k_bl f f165 c1 c2 a0 := k_bl_s1 g163 ef165 (by omega) (fun q => q_kne (k := 163) (k2 := 162) (by decide) kc2 kc1 q)
                        have g181 : tk_tr f165 mo B tn := tk_tr_tr g152 (by rw [ef165, q_setz (Or.inl (fun q => by rw [q, kc1] at kmo; exact absurd kmo (by decide)))]) (by rw [ef165, q_setz (Or.inl (fun q => by rw [q, kc1] at kmo; exact absurd kmo (by decide)))]) (by rw [ef165, q_setz (Or.inl (fun q => by rw [q, kc1] at kmo; exact absurd kmo (by decide)))]) (by rw [ef165, q_setz (Or.inl (fun q => by rw [q, kc1] at kmo; exact absurd kmo (by decide)))]) (by rw [ef165, q_setj (Or.inl (fun q => by rw [q, kc1] at kmo; exact absurd kmo (by decide)))])
                        refine q_ild_n cx dX12_readsNumbers_113 rfl (lv_at hl 2 rfl) ?_
                        refine q_bipush cx dX12_readsNumbers_114 rfl ?_
                        refine q_icne (tgt := 125) cx ⟨by decide, by decide⟩ ⟨by decide, by decide⟩ dX12_readsNumbers_116 (by decide) (fun c182 => ?_) (fun c182 => ?_)
                        · exact absurd c182 (by omega)
                        · refine q_ald_n cx dX12_readsNumbers_119 rfl (lv_at hl 0 rfl) ?_
                          refine q_bipush cx dX12_readsNumbers_120 rfl ?_
                          refine q_cVv (As := [.int (q_i 40)]) (rest := []) cx hB (fun _ h => h) hN hmo kmo (by decide) rfl (f_mmustSign l g hN hB.2.1 B mo hmo kmo 40 (by decide) (by decide) bu hbu kbu tn (by omega) (by omega) x164 (by omega) (by omega) z167 z171 z169 z170 z174 (by omega) g181 g178) q_cX12_241 q_dX12_mustSign (by decide) rfl rfl hl.1 rfl (Nat.le_of_ble_eq_true rfl) dX12_readsNumbers_122 (fun H locs f183 h185 hF hB => ?_)
                          rcases h185 with h186 | h187
                          · obtain ⟨z188, z189, t190, g191⟩ := h186
                            have z192 : q_is (q_z f183 mo 3) tn := Eq.trans (hF.z hmo (by rw [kmo]; rfl)) z167
                            have z193 : q_is (q_z f183 sr 0) xc := Eq.trans (hF.z hsr (by rw [ksr]; rfl)) z168
                            have z194 : q_is (q_z f183 c1 (Int.toNat a0)) y143 := Eq.trans (hF.z hc1 (by rw [kc1]; rfl)) z166
                            have z195 : q_ir (q_r f183 mo 13) sr := Eq.trans (hF.r hmo (by rw [kmo]; rfl)) z172
                            have z196 : q_ir (q_r f183 mo 18) nm := Eq.trans (hF.r hmo (by rw [kmo]; rfl)) z173
                            have z197 : q_ir (q_r f183 mo 1) bu := Eq.trans (hF.r hmo (by rw [kmo]; rfl)) z174
                            have z198 : q_ir (q_r f183 mo 30) c1 := Eq.trans (hF.r hmo (by rw [kmo]; rfl)) z175
                            have z199 : q_ir (q_r f183 mo 31) c2 := Eq.trans (hF.r hmo (by rw [kmo]; rfl)) z176
                            have z200 : q_ir (q_r f183 mo 32) c3 := Eq.trans (hF.r hmo (by rw [kmo]; rfl)) z177
                            have g201 : tk_ub f183 bu B tn := tk_ub_tr g178 (fun i9 => hF.z hbu (by rw [kbu]; rfl))
                            have g202 : tk_nq f183 nm nl9 := tk_nq_tr g179 (fun i9 => hF.j hnm (by rw [knm]; rfl))
                            have g203 : k_bl f f183 c1 c2 a0 := k_bl_tr g180 (fun i9 => hF.z hc1 (by rw [kc1]; rfl)) (fun i9 => hF.z hc2 (by rw [kc2]; rfl))
                            obtain ⟨x204, ex204⟩ : ∃ zz, q_is (q_z f183 mo 5) zz := ⟨_, q_isr _⟩
                            obtain ⟨lx204, ux204⟩ := q_isb ex204 (q_fib hB.2.1 hmo kmo (by decide) rfl)
                            obtain ⟨-, l0x204, u0x204, -, -⟩ := tk_tr_n g191 ex204
                            refine q_vret cx hr hlk hB dX12_readsNumbers_125 ?_
                            exact (Or.inl ⟨z188, z189, (tk_okr (tk_rd_6 rfl (tk_ob_ok (tk_okx t149 ex164) (tk_okx t190 ex204))) ex204), (by have h70 : _ = _ := z194; unfold k_cc; omega), g203, g191⟩)
                          · obtain ⟨lz205, uz205, t206, g207⟩ := h187
                            have z208 : q_is (q_z f183 mo 3) tn := Eq.trans (hF.z hmo (by rw [kmo]; rfl)) z167
                            have z209 : q_is (q_z f183 sr 0) xc := Eq.trans (hF.z hsr (by rw [ksr]; rfl)) z168
                            have z210 : q_is (q_z f183 c1 (Int.toNat a0)) y143 := Eq.trans (hF.z hc1 (by rw [kc1]; rfl)) z166
                            have z211 : q_ir (q_r f183 mo 13) sr := Eq.trans (hF.r hmo (by rw [kmo]; rfl)) z172
                            have z212 : q_ir (q_r f183 mo 18) nm := Eq.trans (hF.r hmo (by rw [kmo]; rfl)) z173
                            have z213 : q_ir (q_r f183 mo 1) bu := Eq.trans (hF.r hmo (by rw [kmo]; rfl)) z174
                            have z214 : q_ir (q_r f183 mo 30) c1 := Eq.trans (hF.r hmo (by rw [kmo]; rfl)) z175
                            have z215 : q_ir (q_r f183 mo 31) c2 := Eq.trans (hF.r hmo (by rw [kmo]; rfl)) z176
                            have z216 : q_ir (q_r f183 mo 32) c3 := Eq.trans (hF.r hmo (by rw [kmo]; rfl)) z177
                            have g217 : tk_ub f183 bu B tn := tk_ub_tr g178 (fun i9 => hF.z hbu (by rw [kbu]; rfl))
                            have g218 : tk_nq f183 nm nl9 := tk_nq_tr g179 (fun i9 => hF.j hnm (by rw [knm]; rfl))
                            have g219 : k_bl f f183 c1 c2 a0 := k_bl_tr g180 (fun i9 => hF.z hc1 (by rw [kc1]; rfl)) (fun i9 => hF.z hc2 (by rw [kc2]; rfl))
                            obtain ⟨x220, ex220⟩ : ∃ zz, q_is (q_z f183 mo 8) zz := ⟨_, q_isr _⟩
                            obtain ⟨lx220, ux220⟩ := q_isb ex220 ⟨lz205, uz205⟩
                            obtain ⟨x221, ex221⟩ : ∃ zz, q_is (q_z f183 mo 5) zz := ⟨_, q_isr _⟩
                            obtain ⟨lx221, ux221⟩ := q_isb ex221 (q_fib hB.2.1 hmo kmo (by decide) rfl)
                            obtain ⟨x222, ex222⟩ : ∃ zz, q_is (q_z f183 mo 9) zz := ⟨_, q_isr _⟩
                            obtain ⟨lx222, ux222⟩ := q_isb ex222 (q_fib hB.2.1 hmo kmo (by decide) rfl)
                            obtain ⟨-, l0x221, u0x221, -, -⟩ := tk_tr_n g207 ex221
                            refine q_vret cx hr hlk hB dX12_readsNumbers_125 ?_
                            exact (Or.inr ⟨(q_isl ex220 (by omega)), (q_isu ex220 (by omega)), (tk_erp (tk_rd_6 rfl (tk_ob_e2 (tk_okx t149 ex164) (tk_erx t206 ex220 ex222))) ex220 ex222), g207⟩)
                      · obtain ⟨lz223, uz223, t224, g225⟩ := h146
                        have z226 : q_is (q_z f142 mo 3) tn := Eq.trans (hF.z hmo (by rw [kmo]; rfl)) hf0
                        have z227 : q_is (q_z f142 sr 0) xc := Eq.trans (hF.z hsr (by rw [ksr]; rfl)) hf4
                        have z228 : q_ir (q_r f142 mo 13) sr := Eq.trans (hF.r hmo (by rw [kmo]; rfl)) hr0
                        have z229 : q_ir (q_r f142 mo 18) nm := Eq.trans (hF.r hmo (by rw [kmo]; rfl)) hr1
                        have z230 : q_ir (q_r f142 mo 1) bu := Eq.trans (hF.r hmo (by rw [kmo]; rfl)) hr2
                        have z231 : q_ir (q_r f142 mo 30) c1 := Eq.trans (hF.r hmo (by rw [kmo]; rfl)) hr3
                        have z232 : q_ir (q_r f142 mo 31) c2 := Eq.trans (hF.r hmo (by rw [kmo]; rfl)) hr4
                        have z233 : q_ir (q_r f142 mo 32) c3 := Eq.trans (hF.r hmo (by rw [kmo]; rfl)) hr5
                        have g234 : tk_ub f142 bu B tn := tk_ub_tr hub (fun i9 => hF.z hbu (by rw [kbu]; rfl))
                        have g235 : tk_nq f142 nm nl9 := tk_nq_tr hrn (fun i9 => hF.j hnm (by rw [knm]; rfl))
                        have g236 : k_bl f f142 c1 c2 a0 := k_bl_tr hbl (fun i9 => hF.z hc1 (by rw [kc1]; rfl)) (fun i9 => hF.z hc2 (by rw [kc2]; rfl))
                        obtain ⟨x237, ex237⟩ : ∃ zz, q_is (q_z f142 mo 8) zz := ⟨_, q_isr _⟩
                        obtain ⟨lx237, ux237⟩ := q_isb ex237 ⟨lz223, uz223⟩
                        obtain ⟨x238, ex238⟩ : ∃ zz, q_is (q_z f142 mo 5) zz := ⟨_, q_isr _⟩
                        obtain ⟨lx238, ux238⟩ := q_isb ex238 (q_fib hB.2.1 hmo kmo (by decide) rfl)
                        obtain ⟨x239, ex239⟩ : ∃ zz, q_is (q_z f142 mo 9) zz := ⟨_, q_isr _⟩
                        obtain ⟨lx239, ux239⟩ := q_isb ex239 (q_fib hB.2.1 hmo kmo (by decide) rfl)
                        obtain ⟨-, l0x238, u0x238, -, -⟩ := tk_tr_n g225 ex238
                        refine q_iast (lo := (-2147483648)) (hi := 2147483647) (n := 60) cx hB hc1 kc1 (by decide) rfl rfl (by omega) (by omega) (by decide) rfl ⟨by omega, by omega⟩ (by omega) (by omega) (q_inWi (lo := 0) (hi := 58) (by decide) (by omega) (by omega)) dX12_readsNumbers_112 (fun H locs f240 ef240 z241 hB => ?_)
                        have z242 : q_is (q_z f240 mo 3) tn := by rw [ef240, q_setz (Or.inl (fun q => by rw [q, kc1] at kmo; exact absurd kmo (by decide)))]; exact z226
                        have z243 : q_is (q_z f240 sr 0) xc := by rw [ef240, q_setz (Or.inl (fun q => by rw [q, kc1] at ksr; exact absurd ksr (by decide)))]; exact z227
                        have z244 : q_is (q_z f240 mo 8) x237 := by rw [ef240, q_setz (Or.inl (fun q => by rw [q, kc1] at kmo; exact absurd kmo (by decide)))]; exact ex237
                        have z245 : q_is (q_z f240 mo 5) x238 := by rw [ef240, q_setz (Or.inl (fun q => by rw [q, kc1] at kmo; exact absurd kmo (by decide)))]; exact ex238
                        have z246 : q_is (q_z f240 mo 9) x239 := by rw [ef240, q_setz (Or.inl (fun q => by rw [q, kc1] at kmo; exact absurd kmo (by decide)))]; exact ex239
                        have z247 : q_ir (q_r f240 mo 13) sr := by rw [ef240, q_setr (Or.inl (fun q => by rw [q, kc1] at kmo; exact absurd kmo (by decide)))]; exact z228
                        have z248 : q_ir (q_r f240 mo 18) nm := by rw [ef240, q_setr (Or.inl (fun q => by rw [q, kc1] at kmo; exact absurd kmo (by decide)))]; exact z229
                        have z249 : q_ir (q_r f240 mo 1) bu := by rw [ef240, q_setr (Or.inl (fun q => by rw [q, kc1] at kmo; exact absurd kmo (by decide)))]; exact z230
                        have z250 : q_ir (q_r f240 mo 30) c1 := by rw [ef240, q_setr (Or.inl (fun q => by rw [q, kc1] at kmo; exact absurd kmo (by decide)))]; exact z231
                        have z251 : q_ir (q_r f240 mo 31) c2 := by rw [ef240, q_setr (Or.inl (fun q => by rw [q, kc1] at kmo; exact absurd kmo (by decide)))]; exact z232
                        have z252 : q_ir (q_r f240 mo 32) c3 := by rw [ef240, q_setr (Or.inl (fun q => by rw [q, kc1] at kmo; exact absurd kmo (by decide)))]; exact z233
                        have g253 : tk_ub f240 bu B tn := tk_ub_tr g234 (fun i9 => by rw [ef240, q_setz (Or.inl (fun q => by rw [q, kc1] at kbu; exact absurd kbu (by decide)))])
                        have g254 : tk_nq f240 nm nl9 := tk_nq_tr g235 (fun i9 => by rw [ef240, q_setj (Or.inl (fun q => by rw [q, kc1] at knm; exact absurd knm (by decide)))])
                        have g255 : k_bl f f240 c1 c2 a0 := k_bl_s1 g236 ef240 (by omega) (fun q => q_kne (k := 163) (k2 := 162) (by decide) kc2 kc1 q)
                        have g256 : tk_tr f240 mo B tn := tk_tr_tr g225 (by rw [ef240, q_setz (Or.inl (fun q => by rw [q, kc1] at kmo; exact absurd kmo (by decide)))]) (by rw [ef240, q_setz (Or.inl (fun q => by rw [q, kc1] at kmo; exact absurd kmo (by decide)))]) (by rw [ef240, q_setz (Or.inl (fun q => by rw [q, kc1] at kmo; exact absurd kmo (by decide)))]) (by rw [ef240, q_setz (Or.inl (fun q => by rw [q, kc1] at kmo; exact absurd kmo (by decide)))]) (by rw [ef240, q_setj (Or.inl (fun q => by rw [q, kc1] at kmo; exact absurd kmo (by decide)))])
                        refine q_ild_n cx dX12_readsNumbers_113 rfl (lv_at hl 2 rfl) ?_
                        refine q_bipush cx dX12_readsNumbers_114 rfl ?_
                        refine q_icne (tgt := 125) cx ⟨by decide, by decide⟩ ⟨by decide, by decide⟩ dX12_readsNumbers_116 (by decide) (fun c257 => ?_) (fun c257 => ?_)
                        · exact absurd c257 (by omega)
                        · refine q_ald_n cx dX12_readsNumbers_119 rfl (lv_at hl 0 rfl) ?_
                          refine q_bipush cx dX12_readsNumbers_120 rfl ?_
                          refine q_cVv (As := [.int (q_i 40)]) (rest := []) cx hB (fun _ h => h) hN hmo kmo (by decide) rfl (r_mustSign1 l g hN hB.2.1 mo hmo kmo 40 (by decide) (by decide) x237 (by omega) (by omega) z244) q_cX12_241 q_dX12_mustSign (by decide) rfl rfl hl.1 rfl (Nat.le_of_ble_eq_true rfl) dX12_readsNumbers_122 (fun H locs f258 h260 hF hB => ?_)
                          obtain rfl := h260
                          refine q_vret cx hr hlk hB dX12_readsNumbers_125 ?_
                          exact (Or.inr ⟨(q_isl z244 (by omega)), (q_isu z244 (by omega)), (tk_erp (tk_rd_6 rfl (tk_ob_e1 (tk_erx t224 ex237 ex239))) z244 z246), g256⟩)
                  · exact absurd c139 (by omega)
              · exact absurd c137 (by omega)
          · exact absurd c135 (by omega)
      · exact absurd c133 (by omega)
  · exact absurd c131 (by omega)
