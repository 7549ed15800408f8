set_option maxHeartbeats 4000000 in
set_option maxRecDepth 100000 in
theorem r_readsNumbers4 (l : Launch) (g : q_G) {K : Nat → Nat} {L : List Nat} (hN : L.Nodup) {f : Nat → va_E} (hT : q_Ty g K L f) (mo : Nat) (hmo : mo ∈ L) (kmo : K mo = 12) (a0 : Int) (la0 : 0 ≤ a0) (ua0 : a0 ≤ 58) (b0 : Int) (lb0 : 4 ≤ b0) (ub0 : b0 ≤ 4) (sr : Nat) (hsr : sr ∈ L) (ksr : K sr = 151) (nm : Nat) (hnm : nm ∈ L) (knm : K nm = 156) (bu : Nat) (hbu : bu ∈ L) (kbu : K bu = 150) (c1 : Nat) (hc1 : c1 ∈ L) (kc1 : K c1 = 162) (c2 : Nat) (hc2 : c2 ∈ L) (kc2 : K c2 = 163) (c3 : Nat) (hc3 : c3 ∈ L) (kc3 : K c3 = 164) (xp : Int) (lxp : 0 ≤ xp) (uxp : xp ≤ 600) (hf0 : q_is (q_z f mo 8) 0) (hf1 : q_is (q_z f mo 4) xp) (hr0 : q_ir (q_r f mo 13) sr) (hr1 : q_ir (q_r f mo 18) nm) (hr2 : q_ir (q_r f mo 1) bu) (hr3 : q_ir (q_r f mo 30) c1) (hr4 : q_ir (q_r f mo 31) c2) (hr5 : q_ir (q_r f mo 32) c3) : q_Ct l g K L yX12_readsNumbers cX12_readsNumbers 3 none 4 90 [.ref mo, .int (q_i a0), .int (q_i b0)] f [(12, 4, 9), (12, 12, 12), (162, 0, 58), (163, 0, 58)] (q_Pv (fun (f1 : Nat → va_E) => (q_is (q_z f1 mo 8) 0 ∧ (xp ≤ q_z f1 mo 4) ∧ (k_po (q_z f1 mo 6) (q_z f1 mo 4) xp) ∧ (k_cc b0 f1 c1 c2 (Int.toNat a0)) ∧ (k_bl f f1 c1 c2 a0)) ∨ (1 ≤ q_z f1 mo 8 ∧ q_z f1 mo 8 ≤ 5))) := by
  obtain rfl : b0 = 4 := by omega
  refine q_ofb (by decide +kernel) hN hT (Nat.le_of_ble_eq_true rfl) ?_
  intro p e s m below meth c ls cx hr hlk hB hl
  have hl : lv_has ls 3 [(0, .ref mo), (1, .int (q_i a0)), (2, .int (q_i 4))] := hl
  obtain ⟨H, hH⟩ : ∃ H : Heap, H = s.heap := ⟨_, rfl⟩
  obtain ⟨locs, hlocs⟩ : ∃ z : List Loc, z = [] := ⟨_, rfl⟩
  rw [← hH, ← hlocs] at hB
  rw [← hH, ← hlocs]
  have hbl : k_bl f f c1 c2 a0 := k_bl_rf _ _ _ _
  refine q_ild_n cx dX12_readsNumbers_0 rfl (lv_at hl 2 rfl) ?_
  refine q_ifne (tgt := 14) cx ⟨by decide, by decide⟩ dX12_readsNumbers_1 (by decide) (fun c151 => ?_) (fun c151 => ?_)
  · refine q_ild_n cx dX12_readsNumbers_14 rfl (lv_at hl 2 rfl) ?_
    refine q_iconst cx dX12_readsNumbers_15 ?_
    refine q_iclt (tgt := 34) cx ⟨by decide, by decide⟩ ⟨by decide, by decide⟩ dX12_readsNumbers_16 (by decide) (fun c152 => ?_) (fun c152 => ?_)
    · exact absurd c152 (by omega)
    · refine q_ild_n cx dX12_readsNumbers_19 rfl (lv_at hl 2 rfl) ?_
      refine q_iconst cx dX12_readsNumbers_20 ?_
      refine q_icgt (tgt := 34) cx ⟨by decide, by decide⟩ ⟨by decide, by decide⟩ dX12_readsNumbers_21 (by decide) (fun c153 => ?_) (fun c153 => ?_)
      · exact absurd c153 (by omega)
      · refine q_ald_n cx dX12_readsNumbers_24 rfl (lv_at hl 0 rfl) ?_
        refine q_gX12_54 cx hB hmo kmo hr3 dX12_readsNumbers_25 (fun hb154 kb154 => ?_)
        refine q_ild_n cx dX12_readsNumbers_28 rfl (lv_at hl 1 rfl) ?_
        refine q_ald_n cx dX12_readsNumbers_29 rfl (lv_at hl 0 rfl) ?_
        refine q_cVi (As := []) (rest := [.int (q_i a0), .ref c1]) cx hB (fun _ h => h) hN hmo kmo (by decide) rfl (r_told0 l g hN hB.2.1 mo hmo kmo sr hsr ksr nm hnm knm bu hbu kbu xp (by omega) (by omega) hf0 hf1 hr0 hr1 hr2) q_cX12_213 q_dX12_told (by decide) rfl rfl hl.1 rfl (Nat.le_of_ble_eq_true rfl) dX12_readsNumbers_30 (fun y156 H locs f155 ry156 h157 hF hB => ?_)
        rcases h157 with h158 | h159
        · obtain ⟨ly156, uy156, z160, t161, t162⟩ := h158
          have z163 : q_ir (q_r f155 mo 13) sr := Eq.trans (hF.r hmo (by rw [kmo]; rfl)) hr0
          have z164 : q_ir (q_r f155 mo 18) nm := Eq.trans (hF.r hmo (by rw [kmo]; rfl)) hr1
          have z165 : q_ir (q_r f155 mo 1) bu := Eq.trans (hF.r hmo (by rw [kmo]; rfl)) hr2
          have z166 : q_ir (q_r f155 mo 30) c1 := Eq.trans (hF.r hmo (by rw [kmo]; rfl)) hr3
          have z167 : q_ir (q_r f155 mo 31) c2 := Eq.trans (hF.r hmo (by rw [kmo]; rfl)) hr4
          have z168 : q_ir (q_r f155 mo 32) c3 := Eq.trans (hF.r hmo (by rw [kmo]; rfl)) hr5
          have g169 : k_bl f f155 c1 c2 a0 := k_bl_tr hbl (fun i9 => hF.z hc1 (by rw [kc1]; rfl)) (fun i9 => hF.z hc2 (by rw [kc2]; rfl))
          obtain ⟨x170, ex170⟩ : ∃ zz, q_is (q_z f155 mo 4) zz := ⟨_, q_isr _⟩
          obtain ⟨lx170, ux170⟩ := q_isb ex170 (q_fib hB.2.1 hmo kmo (by decide) rfl)
          obtain ⟨x171, ex171⟩ : ∃ zz, q_is (q_z f155 mo 6) zz := ⟨_, q_isr _⟩
          obtain ⟨lx171, ux171⟩ := q_isb ex171 (q_fib hB.2.1 hmo kmo (by decide) rfl)
          replace t161 := q_isl9 ex170 t161
          replace t162 := k_po_si ex171 ex170 t162
          refine q_iast (lo := (-2147483648)) (hi := 2147483647) (n := 60) cx hB hc1 kc1 (by decide) rfl rfl (by omega) (by omega) (by decide) rfl ⟨by omega, by omega⟩ (by omega) (by omega) (q_inWi (lo := 0) (hi := 58) (by decide) (by omega) (by omega)) dX12_readsNumbers_33 (fun H locs f172 ef172 z173 hB => ?_)
          have z174 : q_is (q_z f172 mo 8) 0 := by rw [ef172, q_setz (Or.inl (fun q => by rw [q, kc1] at kmo; exact absurd kmo (by decide)))]; exact z160
          have z175 : q_is (q_z f172 mo 4) x170 := by rw [ef172, q_setz (Or.inl (fun q => by rw [q, kc1] at kmo; exact absurd kmo (by decide)))]; exact ex170
          have z176 : q_is (q_z f172 mo 6) x171 := by rw [ef172, q_setz (Or.inl (fun q => by rw [q, kc1] at kmo; exact absurd kmo (by decide)))]; exact ex171
          have z177 : q_ir (q_r f172 mo 13) sr := by rw [ef172, q_setr (Or.inl (fun q => by rw [q, kc1] at kmo; exact absurd kmo (by decide)))]; exact z163
          have z178 : q_ir (q_r f172 mo 18) nm := by rw [ef172, q_setr (Or.inl (fun q => by rw [q, kc1] at kmo; exact absurd kmo (by decide)))]; exact z164
          have z179 : q_ir (q_r f172 mo 1) bu := by rw [ef172, q_setr (Or.inl (fun q => by rw [q, kc1] at kmo; exact absurd kmo (by decide)))]; exact z165
          have z180 : q_ir (q_r f172 mo 30) c1 := by rw [ef172, q_setr (Or.inl (fun q => by rw [q, kc1] at kmo; exact absurd kmo (by decide)))]; exact z166
          have z181 : q_ir (q_r f172 mo 31) c2 := by rw [ef172, q_setr (Or.inl (fun q => by rw [q, kc1] at kmo; exact absurd kmo (by decide)))]; exact z167
          have z182 : q_ir (q_r f172 mo 32) c3 := by rw [ef172, q_setr (Or.inl (fun q => by rw [q, kc1] at kmo; exact absurd kmo (by decide)))]; exact z168
          have g183 : k_bl f f172 c1 c2 a0 := k_bl_s1 g169 ef172 (by omega) (fun q => q_kne (k := 163) (k2 := 162) (by decide) kc2 kc1 q)
          refine q_ild_n cx dX12_readsNumbers_34 rfl (lv_at hl 2 rfl) ?_
          refine q_iconst cx dX12_readsNumbers_35 ?_
          refine q_iceq (tgt := 44) cx ⟨by decide, by decide⟩ ⟨by decide, by decide⟩ dX12_readsNumbers_36 (by decide) (fun c184 => ?_) (fun c184 => ?_)
          · exact absurd c184 (by omega)
          · refine q_ild_n cx dX12_readsNumbers_39 rfl (lv_at hl 2 rfl) ?_
            refine q_iconst cx dX12_readsNumbers_40 ?_
            refine q_icne (tgt := 54) cx ⟨by decide, by decide⟩ ⟨by decide, by decide⟩ dX12_readsNumbers_41 (by decide) (fun c185 => ?_) (fun c185 => ?_)
            · refine q_ild_n cx dX12_readsNumbers_54 rfl (lv_at hl 2 rfl) ?_
              refine q_iconst cx dX12_readsNumbers_55 ?_
              refine q_iclt (tgt := 74) cx ⟨by decide, by decide⟩ ⟨by decide, by decide⟩ dX12_readsNumbers_56 (by decide) (fun c186 => ?_) (fun c186 => ?_)
              · exact absurd c186 (by omega)
              · refine q_ild_n cx dX12_readsNumbers_59 rfl (lv_at hl 2 rfl) ?_
                refine q_iconst cx dX12_readsNumbers_60 ?_
                refine q_icgt (tgt := 74) cx ⟨by decide, by decide⟩ ⟨by decide, by decide⟩ dX12_readsNumbers_61 (by decide) (fun c187 => ?_) (fun c187 => ?_)
                · exact absurd c187 (by omega)
                · refine q_ald_n cx dX12_readsNumbers_64 rfl (lv_at hl 0 rfl) ?_
                  refine q_gX12_57 cx hB hmo kmo z181 dX12_readsNumbers_65 (fun hb188 kb188 => ?_)
                  refine q_ild_n cx dX12_readsNumbers_68 rfl (lv_at hl 1 rfl) ?_
                  refine q_ald_n cx dX12_readsNumbers_69 rfl (lv_at hl 0 rfl) ?_
                  refine q_cVi (As := []) (rest := [.int (q_i a0), .ref c2]) cx hB (fun _ h => h) hN hmo kmo (by decide) rfl (r_any0 l g hN hB.2.1 mo hmo kmo bu hbu kbu x170 (by omega) (by omega) z174 z175 z179) q_cX12_482 q_dX12_any (by decide) rfl rfl hl.1 rfl (Nat.le_of_ble_eq_true rfl) dX12_readsNumbers_70 (fun y190 H locs f189 ry190 h191 hF hB => ?_)
                  rcases h191 with h192 | h193
                  · obtain ⟨ly190, uy190, z194, t195, t196⟩ := h192
                    have z197 : q_is (q_z f189 c1 (Int.toNat a0)) y156 := Eq.trans (hF.z hc1 (by rw [kc1]; rfl)) z173
                    have z198 : q_ir (q_r f189 mo 13) sr := Eq.trans (hF.r hmo (by rw [kmo]; rfl)) z177
                    have z199 : q_ir (q_r f189 mo 18) nm := Eq.trans (hF.r hmo (by rw [kmo]; rfl)) z178
                    have z200 : q_ir (q_r f189 mo 1) bu := Eq.trans (hF.r hmo (by rw [kmo]; rfl)) z179
                    have z201 : q_ir (q_r f189 mo 30) c1 := Eq.trans (hF.r hmo (by rw [kmo]; rfl)) z180
                    have z202 : q_ir (q_r f189 mo 31) c2 := Eq.trans (hF.r hmo (by rw [kmo]; rfl)) z181
                    have z203 : q_ir (q_r f189 mo 32) c3 := Eq.trans (hF.r hmo (by rw [kmo]; rfl)) z182
                    have g204 : k_bl f f189 c1 c2 a0 := k_bl_tr g183 (fun i9 => hF.z hc1 (by rw [kc1]; rfl)) (fun i9 => hF.z hc2 (by rw [kc2]; rfl))
                    obtain ⟨x205, ex205⟩ : ∃ zz, q_is (q_z f189 mo 4) zz := ⟨_, q_isr _⟩
                    obtain ⟨lx205, ux205⟩ := q_isb ex205 (q_fib hB.2.1 hmo kmo (by decide) rfl)
                    obtain ⟨x206, ex206⟩ : ∃ zz, q_is (q_z f189 mo 6) zz := ⟨_, q_isr _⟩
                    obtain ⟨lx206, ux206⟩ := q_isb ex206 (q_fib hB.2.1 hmo kmo (by decide) rfl)
                    replace t195 := q_isl9 ex205 t195
                    replace t196 := k_po_si ex206 ex205 t196
                    refine q_iast (lo := (-2147483648)) (hi := 2147483647) (n := 60) cx hB hc2 kc2 (by decide) rfl rfl (by omega) (by omega) (by decide) rfl ⟨by omega, by omega⟩ (by omega) (by omega) (q_inWi (lo := 0) (hi := 58) (by decide) (by omega) (by omega)) dX12_readsNumbers_73 (fun H locs f207 ef207 z208 hB => ?_)
                    have z209 : q_is (q_z f207 c1 (Int.toNat a0)) y156 := by rw [ef207, q_setz (Or.inl (fun q => by rw [q, kc2] at kc1; exact absurd kc1 (by decide)))]; exact z197
                    have z210 : q_is (q_z f207 mo 8) 0 := by rw [ef207, q_setz (Or.inl (fun q => by rw [q, kc2] at kmo; exact absurd kmo (by decide)))]; exact z194
                    have z211 : q_is (q_z f207 mo 4) x205 := by rw [ef207, q_setz (Or.inl (fun q => by rw [q, kc2] at kmo; exact absurd kmo (by decide)))]; exact ex205
                    have z212 : q_is (q_z f207 mo 6) x206 := by rw [ef207, q_setz (Or.inl (fun q => by rw [q, kc2] at kmo; exact absurd kmo (by decide)))]; exact ex206
                    have z213 : q_ir (q_r f207 mo 13) sr := by rw [ef207, q_setr (Or.inl (fun q => by rw [q, kc2] at kmo; exact absurd kmo (by decide)))]; exact z198
                    have z214 : q_ir (q_r f207 mo 18) nm := by rw [ef207, q_setr (Or.inl (fun q => by rw [q, kc2] at kmo; exact absurd kmo (by decide)))]; exact z199
                    have z215 : q_ir (q_r f207 mo 1) bu := by rw [ef207, q_setr (Or.inl (fun q => by rw [q, kc2] at kmo; exact absurd kmo (by decide)))]; exact z200
                    have z216 : q_ir (q_r f207 mo 30) c1 := by rw [ef207, q_setr (Or.inl (fun q => by rw [q, kc2] at kmo; exact absurd kmo (by decide)))]; exact z201
                    have z217 : q_ir (q_r f207 mo 31) c2 := by rw [ef207, q_setr (Or.inl (fun q => by rw [q, kc2] at kmo; exact absurd kmo (by decide)))]; exact z202
                    have z218 : q_ir (q_r f207 mo 32) c3 := by rw [ef207, q_setr (Or.inl (fun q => by rw [q, kc2] at kmo; exact absurd kmo (by decide)))]; exact z203
                    have g219 : k_bl f f207 c1 c2 a0 := k_bl_s2 g204 ef207 (by omega) (fun q => q_kne (k := 162) (k2 := 163) (by decide) kc1 kc2 q)
                    refine q_ild_n cx dX12_readsNumbers_74 rfl (lv_at hl 2 rfl) ?_
                    refine q_iconst cx dX12_readsNumbers_75 ?_
                    refine q_iceq (tgt := 84) cx ⟨by decide, by decide⟩ ⟨by decide, by decide⟩ dX12_readsNumbers_76 (by decide) (fun c220 => ?_) (fun c220 => ?_)
                    · exact absurd c220 (by omega)
                    · refine q_ild_n cx dX12_readsNumbers_79 rfl (lv_at hl 2 rfl) ?_
                      refine q_iconst cx dX12_readsNumbers_80 ?_
                      refine q_icne (tgt := 94) cx ⟨by decide, by decide⟩ ⟨by decide, by decide⟩ dX12_readsNumbers_81 (by decide) (fun c221 => ?_) (fun c221 => ?_)
                      · refine q_ild_n cx dX12_readsNumbers_94 rfl (lv_at hl 2 rfl) ?_
                        refine q_bipush cx dX12_readsNumbers_95 rfl ?_
                        refine q_icne (tgt := 113) cx ⟨by decide, by decide⟩ ⟨by decide, by decide⟩ dX12_readsNumbers_97 (by decide) (fun c222 => ?_) (fun c222 => ?_)
                        · refine q_ild_n cx dX12_readsNumbers_113 rfl (lv_at hl 2 rfl) ?_
                          refine q_bipush cx dX12_readsNumbers_114 rfl ?_
                          refine q_icne (tgt := 125) cx ⟨by decide, by decide⟩ ⟨by decide, by decide⟩ dX12_readsNumbers_116 (by decide) (fun c223 => ?_) (fun c223 => ?_)
                          · refine q_vret cx hr hlk hB dX12_readsNumbers_125 ?_
                            exact (Or.inl ⟨z210, (q_isl z211 (by omega)), (k_po_is z212 z211 (k_po_mono t196 (by omega))), (by have h70 : _ = _ := z209; have h71 : _ = _ := z208; unfold k_cc; omega), g219⟩)
                          · exact absurd c223 (by omega)
                        · exact absurd c222 (by omega)
                      · exact absurd c221 (by omega)
                  · obtain ⟨lz224, uz224⟩ := h193
                    have z225 : q_is (q_z f189 c1 (Int.toNat a0)) y156 := Eq.trans (hF.z hc1 (by rw [kc1]; rfl)) z173
                    have z226 : q_ir (q_r f189 mo 13) sr := Eq.trans (hF.r hmo (by rw [kmo]; rfl)) z177
                    have z227 : q_ir (q_r f189 mo 18) nm := Eq.trans (hF.r hmo (by rw [kmo]; rfl)) z178
                    have z228 : q_ir (q_r f189 mo 1) bu := Eq.trans (hF.r hmo (by rw [kmo]; rfl)) z179
                    have z229 : q_ir (q_r f189 mo 30) c1 := Eq.trans (hF.r hmo (by rw [kmo]; rfl)) z180
                    have z230 : q_ir (q_r f189 mo 31) c2 := Eq.trans (hF.r hmo (by rw [kmo]; rfl)) z181
                    have z231 : q_ir (q_r f189 mo 32) c3 := Eq.trans (hF.r hmo (by rw [kmo]; rfl)) z182
                    have g232 : k_bl f f189 c1 c2 a0 := k_bl_tr g183 (fun i9 => hF.z hc1 (by rw [kc1]; rfl)) (fun i9 => hF.z hc2 (by rw [kc2]; rfl))
                    obtain ⟨x233, ex233⟩ : ∃ zz, q_is (q_z f189 mo 8) zz := ⟨_, q_isr _⟩
                    obtain ⟨lx233, ux233⟩ := q_isb ex233 ⟨lz224, uz224⟩
                    obtain ⟨x234, ex234⟩ : ∃ zz, q_is (q_z f189 mo 4) zz := ⟨_, q_isr _⟩
                    obtain ⟨lx234, ux234⟩ := q_isb ex234 (q_fib hB.2.1 hmo kmo (by decide) rfl)
                    obtain ⟨x235, ex235⟩ : ∃ zz, q_is (q_z f189 mo 6) zz := ⟨_, q_isr _⟩
                    obtain ⟨lx235, ux235⟩ := q_isb ex235 (q_fib hB.2.1 hmo kmo (by decide) rfl)
                    refine q_iast (lo := (-2147483648)) (hi := 2147483647) (n := 60) cx hB hc2 kc2 (by decide) rfl rfl (by omega) (by omega) (by decide) rfl ⟨by omega, by omega⟩ (by omega) (by omega) (q_inWi (lo := 0) (hi := 58) (by decide) (by omega) (by omega)) dX12_readsNumbers_73 (fun H locs f236 ef236 z237 hB => ?_)
                    have z238 : q_is (q_z f236 c1 (Int.toNat a0)) y156 := by rw [ef236, q_setz (Or.inl (fun q => by rw [q, kc2] at kc1; exact absurd kc1 (by decide)))]; exact z225
                    have z239 : q_is (q_z f236 mo 8) x233 := by rw [ef236, q_setz (Or.inl (fun q => by rw [q, kc2] at kmo; exact absurd kmo (by decide)))]; exact ex233
                    have z240 : q_is (q_z f236 mo 4) x234 := by rw [ef236, q_setz (Or.inl (fun q => by rw [q, kc2] at kmo; exact absurd kmo (by decide)))]; exact ex234
                    have z241 : q_is (q_z f236 mo 6) x235 := by rw [ef236, q_setz (Or.inl (fun q => by rw [q, kc2] at kmo; exact absurd kmo (by decide)))]; exact ex235
                    have z242 : q_ir (q_r f236 mo 13) sr := by rw [ef236, q_setr (Or.inl (fun q => by rw [q, kc2] at kmo; exact absurd kmo (by decide)))]; exact z226
                    have z243 : q_ir (q_r f236 mo 18) nm := by rw [ef236, q_setr (Or.inl (fun q => by rw [q, kc2] at kmo; exact absurd kmo (by decide)))]; exact z227
                    have z244 : q_ir (q_r f236 mo 1) bu := by rw [ef236, q_setr (Or.inl (fun q => by rw [q, kc2] at kmo; exact absurd kmo (by decide)))]; exact z228
                    have z245 : q_ir (q_r f236 mo 30) c1 := by rw [ef236, q_setr (Or.inl (fun q => by rw [q, kc2] at kmo; exact absurd kmo (by decide)))]; exact z229
                    have z246 : q_ir (q_r f236 mo 31) c2 := by rw [ef236, q_setr (Or.inl (fun q => by rw [q, kc2] at kmo; exact absurd kmo (by decide)))]; exact z230
                    have z247 : q_ir (q_r f236 mo 32) c3 := by rw [ef236, q_setr (Or.inl (fun q => by rw [q, kc2] at kmo; exact absurd kmo (by decide)))]; exact z231
                    have g248 : k_bl f f236 c1 c2 a0 := k_bl_s2 g232 ef236 (by omega) (fun q => q_kne (k := 162) (k2 := 163) (by decide) kc1 kc2 q)
                    refine q_ild_n cx dX12_readsNumbers_74 rfl (lv_at hl 2 rfl) ?_
                    refine q_iconst cx dX12_readsNumbers_75 ?_
                    refine q_iceq (tgt := 84) cx ⟨by decide, by decide⟩ ⟨by decide, by decide⟩ dX12_readsNumbers_76 (by decide) (fun c249 => ?_) (fun c249 => ?_)
                    · exact absurd c249 (by omega)
                    · refine q_ild_n cx dX12_readsNumbers_79 rfl (lv_at hl 2 rfl) ?_
                      refine q_iconst cx dX12_readsNumbers_80 ?_
                      refine q_icne (tgt := 94) cx ⟨by decide, by decide⟩ ⟨by decide, by decide⟩ dX12_readsNumbers_81 (by decide) (fun c250 => ?_) (fun c250 => ?_)
                      · refine q_ild_n cx dX12_readsNumbers_94 rfl (lv_at hl 2 rfl) ?_
                        refine q_bipush cx dX12_readsNumbers_95 rfl ?_
                        refine q_icne (tgt := 113) cx ⟨by decide, by decide⟩ ⟨by decide, by decide⟩ dX12_readsNumbers_97 (by decide) (fun c251 => ?_) (fun c251 => ?_)
                        · refine q_ild_n cx dX12_readsNumbers_113 rfl (lv_at hl 2 rfl) ?_
                          refine q_bipush cx dX12_readsNumbers_114 rfl ?_
                          refine q_icne (tgt := 125) cx ⟨by decide, by decide⟩ ⟨by decide, by decide⟩ dX12_readsNumbers_116 (by decide) (fun c252 => ?_) (fun c252 => ?_)
                          · refine q_vret cx hr hlk hB dX12_readsNumbers_125 ?_
                            exact (Or.inr ⟨(q_isl z239 (by omega)), (q_isu z239 (by omega))⟩)
                          · exact absurd c252 (by omega)
                        · exact absurd c251 (by omega)
                      · exact absurd c250 (by omega)
            · exact absurd c185 (by omega)
        · obtain ⟨ly156, uy156, lz253, uz253⟩ := h159
          have z254 : q_ir (q_r f155 mo 13) sr := Eq.trans (hF.r hmo (by rw [kmo]; rfl)) hr0
          have z255 : q_ir (q_r f155 mo 18) nm := Eq.trans (hF.r hmo (by rw [kmo]; rfl)) hr1
          have z256 : q_ir (q_r f155 mo 1) bu := Eq.trans (hF.r hmo (by rw [kmo]; rfl)) hr2
          have z257 : q_ir (q_r f155 mo 30) c1 := Eq.trans (hF.r hmo (by rw [kmo]; rfl)) hr3
          have z258 : q_ir (q_r f155 mo 31) c2 := Eq.trans (hF.r hmo (by rw [kmo]; rfl)) hr4
          have z259 : q_ir (q_r f155 mo 32) c3 := Eq.trans (hF.r hmo (by rw [kmo]; rfl)) hr5
          have g260 : k_bl f f155 c1 c2 a0 := k_bl_tr hbl (fun i9 => hF.z hc1 (by rw [kc1]; rfl)) (fun i9 => hF.z hc2 (by rw [kc2]; rfl))
          obtain ⟨x261, ex261⟩ : ∃ zz, q_is (q_z f155 mo 8) zz := ⟨_, q_isr _⟩
          obtain ⟨lx261, ux261⟩ := q_isb ex261 ⟨lz253, uz253⟩
          obtain ⟨x262, ex262⟩ : ∃ zz, q_is (q_z f155 mo 4) zz := ⟨_, q_isr _⟩
          obtain ⟨lx262, ux262⟩ := q_isb ex262 (q_fib hB.2.1 hmo kmo (by decide) rfl)
          obtain ⟨x263, ex263⟩ : ∃ zz, q_is (q_z f155 mo 6) zz := ⟨_, q_isr _⟩
          obtain ⟨lx263, ux263⟩ := q_isb ex263 (q_fib hB.2.1 hmo kmo (by decide) rfl)
          refine q_iast (lo := (-2147483648)) (hi := 2147483647) (n := 60) cx hB hc1 kc1 (by decide) rfl rfl (by omega) (by omega) (by decide) rfl ⟨by omega, by omega⟩ (by omega) (by omega) (q_inWi (lo := 0) (hi := 58) (by decide) (by omega) (by omega)) dX12_readsNumbers_33 (fun H locs f264 ef264 z265 hB => ?_)
          have z266 : q_is (q_z f264 mo 8) x261 := by rw [ef264, q_setz (Or.inl (fun q => by rw [q, kc1] at kmo; exact absurd kmo (by decide)))]; exact ex261
          have z267 : q_is (q_z f264 mo 4) x262 := by rw [ef264, q_setz (Or.inl (fun q => by rw [q, kc1] at kmo; exact absurd kmo (by decide)))]; exact ex262
          have z268 : q_is (q_z f264 mo 6) x263 := by rw [ef264, q_setz (Or.inl (fun q => by rw [q, kc1] at kmo; exact absurd kmo (by decide)))]; exact ex263
          have z269 : q_ir (q_r f264 mo 13) sr := by rw [ef264, q_setr (Or.inl (fun q => by rw [q, kc1] at kmo; exact absurd kmo (by decide)))]; exact z254
          have z270 : q_ir (q_r f264 mo 18) nm := by rw [ef264, q_setr (Or.inl (fun q => by rw [q, kc1] at kmo; exact absurd kmo (by decide)))]; exact z255
          have z271 : q_ir (q_r f264 mo 1) bu := by rw [ef264, q_setr (Or.inl (fun q => by rw [q, kc1] at kmo; exact absurd kmo (by decide)))]; exact z256
          have z272 : q_ir (q_r f264 mo 30) c1 := by rw [ef264, q_setr (Or.inl (fun q => by rw [q, kc1] at kmo; exact absurd kmo (by decide)))]; exact z257
          have z273 : q_ir (q_r f264 mo 31) c2 := by rw [ef264, q_setr (Or.inl (fun q => by rw [q, kc1] at kmo; exact absurd kmo (by decide)))]; exact z258
          have z274 : q_ir (q_r f264 mo 32) c3 := by rw [ef264, q_setr (Or.inl (fun q => by rw [q, kc1] at kmo; exact absurd kmo (by decide)))]; exact z259
          have g275 : k_bl f f264 c1 c2 a0 := k_bl_s1 g260 ef264 (by omega) (fun q => q_kne (k := 163) (k2 := 162) (by decide) kc2 kc1 q)
          refine q_ild_n cx dX12_readsNumbers_34 rfl (lv_at hl 2 rfl) ?_
          refine q_iconst cx dX12_readsNumbers_35 ?_
          refine q_iceq (tgt := 44) cx ⟨by decide, by decide⟩ ⟨by decide, by decide⟩ dX12_readsNumbers_36 (by decide) (fun c276 => ?_) (fun c276 => ?_)
          · exact absurd c276 (by omega)
          · refine q_ild_n cx dX12_readsNumbers_39 rfl (lv_at hl 2 rfl) ?_
            refine q_iconst cx dX12_readsNumbers_40 ?_
            refine q_icne (tgt := 54) cx ⟨by decide, by decide⟩ ⟨by decide, by decide⟩ dX12_readsNumbers_41 (by decide) (fun c277 => ?_) (fun c277 => ?_)
            · refine q_ild_n cx dX12_readsNumbers_54 rfl (lv_at hl 2 rfl) ?_
              refine q_iconst cx dX12_readsNumbers_55 ?_
              refine q_iclt (tgt := 74) cx ⟨by decide, by decide⟩ ⟨by decide, by decide⟩ dX12_readsNumbers_56 (by decide) (fun c278 => ?_) (fun c278 => ?_)
              · exact absurd c278 (by omega)
              · refine q_ild_n cx dX12_readsNumbers_59 rfl (lv_at hl 2 rfl) ?_
                refine q_iconst cx dX12_readsNumbers_60 ?_
                refine q_icgt (tgt := 74) cx ⟨by decide, by decide⟩ ⟨by decide, by decide⟩ dX12_readsNumbers_61 (by decide) (fun c279 => ?_) (fun c279 => ?_)
                · exact absurd c279 (by omega)
                · refine q_ald_n cx dX12_readsNumbers_64 rfl (lv_at hl 0 rfl) ?_
                  refine q_gX12_57 cx hB hmo kmo z273 dX12_readsNumbers_65 (fun hb280 kb280 => ?_)
                  refine q_ild_n cx dX12_readsNumbers_68 rfl (lv_at hl 1 rfl) ?_
                  refine q_ald_n cx dX12_readsNumbers_69 rfl (lv_at hl 0 rfl) ?_
                  refine q_cVi (As := []) (rest := [.int (q_i a0), .ref c2]) cx hB (fun _ h => h) hN hmo kmo (by decide) rfl (r_any1 l g hN hB.2.1 mo hmo kmo x261 (by omega) (by omega) z266) q_cX12_482 q_dX12_any (by decide) rfl rfl hl.1 rfl (Nat.le_of_ble_eq_true rfl) dX12_readsNumbers_70 (fun y282 H locs f281 ry282 h283 hF hB => ?_)
                  obtain rfl := h283
                  refine q_iast (lo := (-2147483648)) (hi := 2147483647) (n := 60) cx hB hc2 kc2 (by decide) rfl rfl (by omega) (by omega) (by decide) rfl ⟨by omega, by omega⟩ (by omega) (by omega) (q_inWi (lo := 0) (hi := 58) (by decide) (by omega) (by omega)) dX12_readsNumbers_73 (fun H locs f284 ef284 z285 hB => ?_)
                  have z286 : q_is (q_z f284 mo 8) x261 := by rw [ef284, q_setz (Or.inl (fun q => by rw [q, kc2] at kmo; exact absurd kmo (by decide)))]; exact z266
                  have z287 : q_is (q_z f284 mo 4) x262 := by rw [ef284, q_setz (Or.inl (fun q => by rw [q, kc2] at kmo; exact absurd kmo (by decide)))]; exact z267
                  have z288 : q_is (q_z f284 mo 6) x263 := by rw [ef284, q_setz (Or.inl (fun q => by rw [q, kc2] at kmo; exact absurd kmo (by decide)))]; exact z268
                  have z289 : q_is (q_z f284 c1 (Int.toNat a0)) y156 := by rw [ef284, q_setz (Or.inl (fun q => by rw [q, kc2] at kc1; exact absurd kc1 (by decide)))]; exact z265
                  have z290 : q_ir (q_r f284 mo 13) sr := by rw [ef284, q_setr (Or.inl (fun q => by rw [q, kc2] at kmo; exact absurd kmo (by decide)))]; exact z269
                  have z291 : q_ir (q_r f284 mo 18) nm := by rw [ef284, q_setr (Or.inl (fun q => by rw [q, kc2] at kmo; exact absurd kmo (by decide)))]; exact z270
                  have z292 : q_ir (q_r f284 mo 1) bu := by rw [ef284, q_setr (Or.inl (fun q => by rw [q, kc2] at kmo; exact absurd kmo (by decide)))]; exact z271
                  have z293 : q_ir (q_r f284 mo 30) c1 := by rw [ef284, q_setr (Or.inl (fun q => by rw [q, kc2] at kmo; exact absurd kmo (by decide)))]; exact z272
                  have z294 : q_ir (q_r f284 mo 31) c2 := by rw [ef284, q_setr (Or.inl (fun q => by rw [q, kc2] at kmo; exact absurd kmo (by decide)))]; exact z273
                  have z295 : q_ir (q_r f284 mo 32) c3 := by rw [ef284, q_setr (Or.inl (fun q => by rw [q, kc2] at kmo; exact absurd kmo (by decide)))]; exact z274
                  have g296 : k_bl f f284 c1 c2 a0 := k_bl_s2 g275 ef284 (by omega) (fun q => q_kne (k := 162) (k2 := 163) (by decide) kc1 kc2 q)
                  refine q_ild_n cx dX12_readsNumbers_74 rfl (lv_at hl 2 rfl) ?_
                  refine q_iconst cx dX12_readsNumbers_75 ?_
                  refine q_iceq (tgt := 84) cx ⟨by decide, by decide⟩ ⟨by decide, by decide⟩ dX12_readsNumbers_76 (by decide) (fun c297 => ?_) (fun c297 => ?_)
                  · exact absurd c297 (by omega)
                  · refine q_ild_n cx dX12_readsNumbers_79 rfl (lv_at hl 2 rfl) ?_
                    refine q_iconst cx dX12_readsNumbers_80 ?_
                    refine q_icne (tgt := 94) cx ⟨by decide, by decide⟩ ⟨by decide, by decide⟩ dX12_readsNumbers_81 (by decide) (fun c298 => ?_) (fun c298 => ?_)
                    · refine q_ild_n cx dX12_readsNumbers_94 rfl (lv_at hl 2 rfl) ?_
                      refine q_bipush cx dX12_readsNumbers_95 rfl ?_
                      refine q_icne (tgt := 113) cx ⟨by decide, by decide⟩ ⟨by decide, by decide⟩ dX12_readsNumbers_97 (by decide) (fun c299 => ?_) (fun c299 => ?_)
                      · refine q_ild_n cx dX12_readsNumbers_113 rfl (lv_at hl 2 rfl) ?_
                        refine q_bipush cx dX12_readsNumbers_114 rfl ?_
                        refine q_icne (tgt := 125) cx ⟨by decide, by decide⟩ ⟨by decide, by decide⟩ dX12_readsNumbers_116 (by decide) (fun c300 => ?_) (fun c300 => ?_)
                        · refine q_vret cx hr hlk hB dX12_readsNumbers_125 ?_
                          exact (Or.inr ⟨(q_isl z286 (by omega)), (q_isu z286 (by omega))⟩)
                        · exact absurd c300 (by omega)
                      · exact absurd c299 (by omega)
                    · exact absurd c298 (by omega)
            · exact absurd c277 (by omega)
  · exact absurd c151 (by omega)
set_option maxHeartbeats 4000000 in
set_option maxRecDepth 100000 in
theorem r_readsNumbers5 (l : Launch) (g : q_G) {K : Nat → Nat} {L : List Nat} (hN : L.Nodup) {f : Nat → va_E} (hT : q_Ty g K L f) (mo : Nat) (hmo : mo ∈ L) (kmo : K mo = 12) (a0 : Int) (la0 : 0 ≤ a0) (ua0 : a0 ≤ 58) (b0 : Int) (lb0 : 5 ≤ b0) (ub0 : b0 ≤ 5) (sr : Nat) (hsr : sr ∈ L) (ksr : K sr = 151) (nm : Nat) (hnm : nm ∈ L) (knm : K nm = 156) (bu : Nat) (hbu : bu ∈ L) (kbu : K bu = 150) (c1 : Nat) (hc1 : c1 ∈ L) (kc1 : K c1 = 162) (c2 : Nat) (hc2 : c2 ∈ L) (kc2 : K c2 = 163) (c3 : Nat) (hc3 : c3 ∈ L) (kc3 : K c3 = 164) (xp : Int) (lxp : 0 ≤ xp) (uxp : xp ≤ 600) (hf0 : q_is (q_z f mo 8) 0) (hf1 : q_is (q_z f mo 4) xp) (hr0 : q_ir (q_r f mo 13) sr) (hr1 : q_ir (q_r f mo 18) nm) (hr2 : q_ir (q_r f mo 1) bu) (hr3 : q_ir (q_r f mo 30) c1) (hr4 : q_ir (q_r f mo 31) c2) (hr5 : q_ir (q_r f mo 32) c3) : q_Ct l g K L yX12_readsNumbers cX12_readsNumbers 3 none 4 90 [.ref mo, .int (q_i a0), .int (q_i b0)] f [(12, 4, 9), (12, 12, 12), (162, 0, 58), (163, 0, 58)] (q_Pv (fun (f1 : Nat → va_E) => (q_is (q_z f1 mo 8) 0 ∧ (xp ≤ q_z f1 mo 4) ∧ (k_po (q_z f1 mo 6) (q_z f1 mo 4) xp) ∧ (k_cc b0 f1 c1 c2 (Int.toNat a0)) ∧ (k_bl f f1 c1 c2 a0)) ∨ (1 ≤ q_z f1 mo 8 ∧ q_z f1 mo 8 ≤ 5))) := by
  obtain rfl : b0 = 5 := by omega
  refine q_ofb (by decide +kernel) hN hT (Nat.le_of_ble_eq_true rfl) ?_
  intro p e s m below meth c ls cx hr hlk hB hl
  have hl : lv_has ls 3 [(0, .ref mo), (1, .int (q_i a0)), (2, .int (q_i 5))] := hl
  obtain ⟨H, hH⟩ : ∃ H : Heap, H = s.heap := ⟨_, rfl⟩
  obtain ⟨locs, hlocs⟩ : ∃ z : List Loc, z = [] := ⟨_, rfl⟩
  rw [← hH, ← hlocs] at hB
  rw [← hH, ← hlocs]
  have hbl : k_bl f f c1 c2 a0 := k_bl_rf _ _ _ _
  refine q_ild_n cx dX12_readsNumbers_0 rfl (lv_at hl 2 rfl) ?_
  refine q_ifne (tgt := 14) cx ⟨by decide, by decide⟩ dX12_readsNumbers_1 (by decide) (fun c151 => ?_) (fun c151 => ?_)
  · refine q_ild_n cx dX12_readsNumbers_14 rfl (lv_at hl 2 rfl) ?_
    refine q_iconst cx dX12_readsNumbers_15 ?_
    refine q_iclt (tgt := 34) cx ⟨by decide, by decide⟩ ⟨by decide, by decide⟩ dX12_readsNumbers_16 (by decide) (fun c152 => ?_) (fun c152 => ?_)
    · exact absurd c152 (by omega)
    · refine q_ild_n cx dX12_readsNumbers_19 rfl (lv_at hl 2 rfl) ?_
      refine q_iconst cx dX12_readsNumbers_20 ?_
      refine q_icgt (tgt := 34) cx ⟨by decide, by decide⟩ ⟨by decide, by decide⟩ dX12_readsNumbers_21 (by decide) (fun c153 => ?_) (fun c153 => ?_)
      · exact absurd c153 (by omega)
      · refine q_ald_n cx dX12_readsNumbers_24 rfl (lv_at hl 0 rfl) ?_
        refine q_gX12_54 cx hB hmo kmo hr3 dX12_readsNumbers_25 (fun hb154 kb154 => ?_)
        refine q_ild_n cx dX12_readsNumbers_28 rfl (lv_at hl 1 rfl) ?_
        refine q_ald_n cx dX12_readsNumbers_29 rfl (lv_at hl 0 rfl) ?_
        refine q_cVi (As := []) (rest := [.int (q_i a0), .ref c1]) cx hB (fun _ h => h) hN hmo kmo (by decide) rfl (r_told0 l g hN hB.2.1 mo hmo kmo sr hsr ksr nm hnm knm bu hbu kbu xp (by omega) (by omega) hf0 hf1 hr0 hr1 hr2) q_cX12_213 q_dX12_told (by decide) rfl rfl hl.1 rfl (Nat.le_of_ble_eq_true rfl) dX12_readsNumbers_30 (fun y156 H locs f155 ry156 h157 hF hB => ?_)
        rcases h157 with h158 | h159
        · obtain ⟨ly156, uy156, z160, t161, t162⟩ := h158
          have z163 : q_ir (q_r f155 mo 13) sr := Eq.trans (hF.r hmo (by rw [kmo]; rfl)) hr0
          have z164 : q_ir (q_r f155 mo 18) nm := Eq.trans (hF.r hmo (by rw [kmo]; rfl)) hr1
          have z165 : q_ir (q_r f155 mo 1) bu := Eq.trans (hF.r hmo (by rw [kmo]; rfl)) hr2
          have z166 : q_ir (q_r f155 mo 30) c1 := Eq.trans (hF.r hmo (by rw [kmo]; rfl)) hr3
          have z167 : q_ir (q_r f155 mo 31) c2 := Eq.trans (hF.r hmo (by rw [kmo]; rfl)) hr4
          have z168 : q_ir (q_r f155 mo 32) c3 := Eq.trans (hF.r hmo (by rw [kmo]; rfl)) hr5
          have g169 : k_bl f f155 c1 c2 a0 := k_bl_tr hbl (fun i9 => hF.z hc1 (by rw [kc1]; rfl)) (fun i9 => hF.z hc2 (by rw [kc2]; rfl))
          obtain ⟨x170, ex170⟩ : ∃ zz, q_is (q_z f155 mo 4) zz := ⟨_, q_isr _⟩
          obtain ⟨lx170, ux170⟩ := q_isb ex170 (q_fib hB.2.1 hmo kmo (by decide) rfl)
          obtain ⟨x171, ex171⟩ : ∃ zz, q_is (q_z f155 mo 6) zz := ⟨_, q_isr _⟩
          obtain ⟨lx171, ux171⟩ := q_isb ex171 (q_fib hB.2.1 hmo kmo (by decide) rfl)
          replace t161 := q_isl9 ex170 t161
          replace t162 := k_po_si ex171 ex170 t162
          refine q_iast (lo := (-2147483648)) (hi := 2147483647) (n := 60) cx hB hc1 kc1 (by decide) rfl rfl (by omega) (by omega) (by decide) rfl ⟨by omega, by omega⟩ (by omega) (by omega) (q_inWi (lo := 0) (hi := 58) (by decide) (by omega) (by omega)) dX12_readsNumbers_33 (fun H locs f172 ef172 z173 hB => ?_)
          have z174 : q_is (q_z f172 mo 8) 0 := by rw [ef172, q_setz (Or.inl (fun q => by rw [q, kc1] at kmo; exact absurd kmo (by decide)))]; exact z160
          have z175 : q_is (q_z f172 mo 4) x170 := by rw [ef172, q_setz (Or.inl (fun q => by rw [q, kc1] at kmo; exact absurd kmo (by decide)))]; exact ex170
          have z176 : q_is (q_z f172 mo 6) x171 := by rw [ef172, q_setz (Or.inl (fun q => by rw [q, kc1] at kmo; exact absurd kmo (by decide)))]; exact ex171
          have z177 : q_ir (q_r f172 mo 13) sr := by rw [ef172, q_setr (Or.inl (fun q => by rw [q, kc1] at kmo; exact absurd kmo (by decide)))]; exact z163
          have z178 : q_ir (q_r f172 mo 18) nm := by rw [ef172, q_setr (Or.inl (fun q => by rw [q, kc1] at kmo; exact absurd kmo (by decide)))]; exact z164
          have z179 : q_ir (q_r f172 mo 1) bu := by rw [ef172, q_setr (Or.inl (fun q => by rw [q, kc1] at kmo; exact absurd kmo (by decide)))]; exact z165
          have z180 : q_ir (q_r f172 mo 30) c1 := by rw [ef172, q_setr (Or.inl (fun q => by rw [q, kc1] at kmo; exact absurd kmo (by decide)))]; exact z166
          have z181 : q_ir (q_r f172 mo 31) c2 := by rw [ef172, q_setr (Or.inl (fun q => by rw [q, kc1] at kmo; exact absurd kmo (by decide)))]; exact z167
          have z182 : q_ir (q_r f172 mo 32) c3 := by rw [ef172, q_setr (Or.inl (fun q => by rw [q, kc1] at kmo; exact absurd kmo (by decide)))]; exact z168
          have g183 : k_bl f f172 c1 c2 a0 := k_bl_s1 g169 ef172 (by omega) (fun q => q_kne (k := 163) (k2 := 162) (by decide) kc2 kc1 q)
          refine q_ild_n cx dX12_readsNumbers_34 rfl (lv_at hl 2 rfl) ?_
          refine q_iconst cx dX12_readsNumbers_35 ?_
          refine q_iceq (tgt := 44) cx ⟨by decide, by decide⟩ ⟨by decide, by decide⟩ dX12_readsNumbers_36 (by decide) (fun c184 => ?_) (fun c184 => ?_)
          · exact absurd c184 (by omega)
          · refine q_ild_n cx dX12_readsNumbers_39 rfl (lv_at hl 2 rfl) ?_
            refine q_iconst cx dX12_readsNumbers_40 ?_
            refine q_icne (tgt := 54) cx ⟨by decide, by decide⟩ ⟨by decide, by decide⟩ dX12_readsNumbers_41 (by decide) (fun c185 => ?_) (fun c185 => ?_)
            · refine q_ild_n cx dX12_readsNumbers_54 rfl (lv_at hl 2 rfl) ?_
              refine q_iconst cx dX12_readsNumbers_55 ?_
              refine q_iclt (tgt := 74) cx ⟨by decide, by decide⟩ ⟨by decide, by decide⟩ dX12_readsNumbers_56 (by decide) (fun c186 => ?_) (fun c186 => ?_)
              · exact absurd c186 (by omega)
              · refine q_ild_n cx dX12_readsNumbers_59 rfl (lv_at hl 2 rfl) ?_
                refine q_iconst cx dX12_readsNumbers_60 ?_
                refine q_icgt (tgt := 74) cx ⟨by decide, by decide⟩ ⟨by decide, by decide⟩ dX12_readsNumbers_61 (by decide) (fun c187 => ?_) (fun c187 => ?_)
                · exact absurd c187 (by omega)
                · refine q_ald_n cx dX12_readsNumbers_64 rfl (lv_at hl 0 rfl) ?_
                  refine q_gX12_57 cx hB hmo kmo z181 dX12_readsNumbers_65 (fun hb188 kb188 => ?_)
                  refine q_ild_n cx dX12_readsNumbers_68 rfl (lv_at hl 1 rfl) ?_
                  refine q_ald_n cx dX12_readsNumbers_69 rfl (lv_at hl 0 rfl) ?_
                  refine q_cVi (As := []) (rest := [.int (q_i a0), .ref c2]) cx hB (fun _ h => h) hN hmo kmo (by decide) rfl (r_any0 l g hN hB.2.1 mo hmo kmo bu hbu kbu x170 (by omega) (by omega) z174 z175 z179) q_cX12_482 q_dX12_any (by decide) rfl rfl hl.1 rfl (Nat.le_of_ble_eq_true rfl) dX12_readsNumbers_70 (fun y190 H locs f189 ry190 h191 hF hB => ?_)
                  rcases h191 with h192 | h193
                  · obtain ⟨ly190, uy190, z194, t195, t196⟩ := h192
                    have z197 : q_is (q_z f189 c1 (Int.toNat a0)) y156 := Eq.trans (hF.z hc1 (by rw [kc1]; rfl)) z173
                    have z198 : q_ir (q_r f189 mo 13) sr := Eq.trans (hF.r hmo (by rw [kmo]; rfl)) z177
                    have z199 : q_ir (q_r f189 mo 18) nm := Eq.trans (hF.r hmo (by rw [kmo]; rfl)) z178
                    have z200 : q_ir (q_r f189 mo 1) bu := Eq.trans (hF.r hmo (by rw [kmo]; rfl)) z179
                    have z201 : q_ir (q_r f189 mo 30) c1 := Eq.trans (hF.r hmo (by rw [kmo]; rfl)) z180
                    have z202 : q_ir (q_r f189 mo 31) c2 := Eq.trans (hF.r hmo (by rw [kmo]; rfl)) z181
                    have z203 : q_ir (q_r f189 mo 32) c3 := Eq.trans (hF.r hmo (by rw [kmo]; rfl)) z182
                    have g204 : k_bl f f189 c1 c2 a0 := k_bl_tr g183 (fun i9 => hF.z hc1 (by rw [kc1]; rfl)) (fun i9 => hF.z hc2 (by rw [kc2]; rfl))
                    obtain ⟨x205, ex205⟩ : ∃ zz, q_is (q_z f189 mo 4) zz := ⟨_, q_isr _⟩
                    obtain ⟨lx205, ux205⟩ := q_isb ex205 (q_fib hB.2.1 hmo kmo (by decide) rfl)
                    obtain ⟨x206, ex206⟩ : ∃ zz, q_is (q_z f189 mo 6) zz := ⟨_, q_isr _⟩
                    obtain ⟨lx206, ux206⟩ := q_isb ex206 (q_fib hB.2.1 hmo kmo (by decide) rfl)
                    replace t195 := q_isl9 ex205 t195
                    replace t196 := k_po_si ex206 ex205 t196
                    refine q_iast (lo := (-2147483648)) (hi := 2147483647) (n := 60) cx hB hc2 kc2 (by decide) rfl rfl (by omega) (by omega) (by decide) rfl ⟨by omega, by omega⟩ (by omega) (by omega) (q_inWi (lo := 0) (hi := 58) (by decide) (by omega) (by omega)) dX12_readsNumbers_73 (fun H locs f207 ef207 z208 hB => ?_)
                    have z209 : q_is (q_z f207 c1 (Int.toNat a0)) y156 := by rw [ef207, q_setz (Or.inl (fun q => by rw [q, kc2] at kc1; exact absurd kc1 (by decide)))]; exact z197
                    have z210 : q_is (q_z f207 mo 8) 0 := by rw [ef207, q_setz (Or.inl (fun q => by rw [q, kc2] at kmo; exact absurd kmo (by decide)))]; exact z194
                    have z211 : q_is (q_z f207 mo 4) x205 := by rw [ef207, q_setz (Or.inl (fun q => by rw [q, kc2] at kmo; exact absurd kmo (by decide)))]; exact ex205
                    have z212 : q_is (q_z f207 mo 6) x206 := by rw [ef207, q_setz (Or.inl (fun q => by rw [q, kc2] at kmo; exact absurd kmo (by decide)))]; exact ex206
                    have z213 : q_ir (q_r f207 mo 13) sr := by rw [ef207, q_setr (Or.inl (fun q => by rw [q, kc2] at kmo; exact absurd kmo (by decide)))]; exact z198
                    have z214 : q_ir (q_r f207 mo 18) nm := by rw [ef207, q_setr (Or.inl (fun q => by rw [q, kc2] at kmo; exact absurd kmo (by decide)))]; exact z199
                    have z215 : q_ir (q_r f207 mo 1) bu := by rw [ef207, q_setr (Or.inl (fun q => by rw [q, kc2] at kmo; exact absurd kmo (by decide)))]; exact z200
                    have z216 : q_ir (q_r f207 mo 30) c1 := by rw [ef207, q_setr (Or.inl (fun q => by rw [q, kc2] at kmo; exact absurd kmo (by decide)))]; exact z201
                    have z217 : q_ir (q_r f207 mo 31) c2 := by rw [ef207, q_setr (Or.inl (fun q => by rw [q, kc2] at kmo; exact absurd kmo (by decide)))]; exact z202
                    have z218 : q_ir (q_r f207 mo 32) c3 := by rw [ef207, q_setr (Or.inl (fun q => by rw [q, kc2] at kmo; exact absurd kmo (by decide)))]; exact z203
                    have g219 : k_bl f f207 c1 c2 a0 := k_bl_s2 g204 ef207 (by omega) (fun q => q_kne (k := 162) (k2 := 163) (by decide) kc1 kc2 q)
                    refine q_ild_n cx dX12_readsNumbers_74 rfl (lv_at hl 2 rfl) ?_
                    refine q_iconst cx dX12_readsNumbers_75 ?_
                    refine q_iceq (tgt := 84) cx ⟨by decide, by decide⟩ ⟨by decide, by decide⟩ dX12_readsNumbers_76 (by decide) (fun c220 => ?_) (fun c220 => ?_)
                    · exact absurd c220 (by omega)
                    · refine q_ild_n cx dX12_readsNumbers_79 rfl (lv_at hl 2 rfl) ?_
                      refine q_iconst cx dX12_readsNumbers_80 ?_
                      refine q_icne (tgt := 94) cx ⟨by decide, by decide⟩ ⟨by decide, by decide⟩ dX12_readsNumbers_81 (by decide) (fun c221 => ?_) (fun c221 => ?_)
                      · refine q_ild_n cx dX12_readsNumbers_94 rfl (lv_at hl 2 rfl) ?_
                        refine q_bipush cx dX12_readsNumbers_95 rfl ?_
                        refine q_icne (tgt := 113) cx ⟨by decide, by decide⟩ ⟨by decide, by decide⟩ dX12_readsNumbers_97 (by decide) (fun c222 => ?_) (fun c222 => ?_)
                        · refine q_ild_n cx dX12_readsNumbers_113 rfl (lv_at hl 2 rfl) ?_
                          refine q_bipush cx dX12_readsNumbers_114 rfl ?_
                          refine q_icne (tgt := 125) cx ⟨by decide, by decide⟩ ⟨by decide, by decide⟩ dX12_readsNumbers_116 (by decide) (fun c223 => ?_) (fun c223 => ?_)
                          · refine q_vret cx hr hlk hB dX12_readsNumbers_125 ?_
                            exact (Or.inl ⟨z210, (q_isl z211 (by omega)), (k_po_is z212 z211 (k_po_mono t196 (by omega))), (by have h70 : _ = _ := z209; have h71 : _ = _ := z208; unfold k_cc; omega), g219⟩)
                          · exact absurd c223 (by omega)
                        · exact absurd c222 (by omega)
                      · exact absurd c221 (by omega)
                  · obtain ⟨lz224, uz224⟩ := h193
                    have z225 : q_is (q_z f189 c1 (Int.toNat a0)) y156 := Eq.trans (hF.z hc1 (by rw [kc1]; rfl)) z173
                    have z226 : q_ir (q_r f189 mo 13) sr := Eq.trans (hF.r hmo (by rw [kmo]; rfl)) z177
                    have z227 : q_ir (q_r f189 mo 18) nm := Eq.trans (hF.r hmo (by rw [kmo]; rfl)) z178
                    have z228 : q_ir (q_r f189 mo 1) bu := Eq.trans (hF.r hmo (by rw [kmo]; rfl)) z179
                    have z229 : q_ir (q_r f189 mo 30) c1 := Eq.trans (hF.r hmo (by rw [kmo]; rfl)) z180
                    have z230 : q_ir (q_r f189 mo 31) c2 := Eq.trans (hF.r hmo (by rw [kmo]; rfl)) z181
                    have z231 : q_ir (q_r f189 mo 32) c3 := Eq.trans (hF.r hmo (by rw [kmo]; rfl)) z182
                    have g232 : k_bl f f189 c1 c2 a0 := k_bl_tr g183 (fun i9 => hF.z hc1 (by rw [kc1]; rfl)) (fun i9 => hF.z hc2 (by rw [kc2]; rfl))
                    obtain ⟨x233, ex233⟩ : ∃ zz, q_is (q_z f189 mo 8) zz := ⟨_, q_isr _⟩
                    obtain ⟨lx233, ux233⟩ := q_isb ex233 ⟨lz224, uz224⟩
                    obtain ⟨x234, ex234⟩ : ∃ zz, q_is (q_z f189 mo 4) zz := ⟨_, q_isr _⟩
                    obtain ⟨lx234, ux234⟩ := q_isb ex234 (q_fib hB.2.1 hmo kmo (by decide) rfl)
                    obtain ⟨x235, ex235⟩ : ∃ zz, q_is (q_z f189 mo 6) zz := ⟨_, q_isr _⟩
                    obtain ⟨lx235, ux235⟩ := q_isb ex235 (q_fib hB.2.1 hmo kmo (by decide) rfl)
                    refine q_iast (lo := (-2147483648)) (hi := 2147483647) (n := 60) cx hB hc2 kc2 (by decide) rfl rfl (by omega) (by omega) (by decide) rfl ⟨by omega, by omega⟩ (by omega) (by omega) (q_inWi (lo := 0) (hi := 58) (by decide) (by omega) (by omega)) dX12_readsNumbers_73 (fun H locs f236 ef236 z237 hB => ?_)
                    have z238 : q_is (q_z f236 c1 (Int.toNat a0)) y156 := by rw [ef236, q_setz (Or.inl (fun q => by rw [q, kc2] at kc1; exact absurd kc1 (by decide)))]; exact z225
                    have z239 : q_is (q_z f236 mo 8) x233 := by rw [ef236, q_setz (Or.inl (fun q => by rw [q, kc2] at kmo; exact absurd kmo (by decide)))]; exact ex233
                    have z240 : q_is (q_z f236 mo 4) x234 := by rw [ef236, q_setz (Or.inl (fun q => by rw [q, kc2] at kmo; exact absurd kmo (by decide)))]; exact ex234
                    have z241 : q_is (q_z f236 mo 6) x235 := by rw [ef236, q_setz (Or.inl (fun q => by rw [q, kc2] at kmo; exact absurd kmo (by decide)))]; exact ex235
                    have z242 : q_ir (q_r f236 mo 13) sr := by rw [ef236, q_setr (Or.inl (fun q => by rw [q, kc2] at kmo; exact absurd kmo (by decide)))]; exact z226
                    have z243 : q_ir (q_r f236 mo 18) nm := by rw [ef236, q_setr (Or.inl (fun q => by rw [q, kc2] at kmo; exact absurd kmo (by decide)))]; exact z227
                    have z244 : q_ir (q_r f236 mo 1) bu := by rw [ef236, q_setr (Or.inl (fun q => by rw [q, kc2] at kmo; exact absurd kmo (by decide)))]; exact z228
                    have z245 : q_ir (q_r f236 mo 30) c1 := by rw [ef236, q_setr (Or.inl (fun q => by rw [q, kc2] at kmo; exact absurd kmo (by decide)))]; exact z229
                    have z246 : q_ir (q_r f236 mo 31) c2 := by rw [ef236, q_setr (Or.inl (fun q => by rw [q, kc2] at kmo; exact absurd kmo (by decide)))]; exact z230
                    have z247 : q_ir (q_r f236 mo 32) c3 := by rw [ef236, q_setr (Or.inl (fun q => by rw [q, kc2] at kmo; exact absurd kmo (by decide)))]; exact z231
                    have g248 : k_bl f f236 c1 c2 a0 := k_bl_s2 g232 ef236 (by omega) (fun q => q_kne (k := 162) (k2 := 163) (by decide) kc1 kc2 q)
                    refine q_ild_n cx dX12_readsNumbers_74 rfl (lv_at hl 2 rfl) ?_
                    refine q_iconst cx dX12_readsNumbers_75 ?_
                    refine q_iceq (tgt := 84) cx ⟨by decide, by decide⟩ ⟨by decide, by decide⟩ dX12_readsNumbers_76 (by decide) (fun c249 => ?_) (fun c249 => ?_)
                    · exact absurd c249 (by omega)
                    · refine q_ild_n cx dX12_readsNumbers_79 rfl (lv_at hl 2 rfl) ?_
                      refine q_iconst cx dX12_readsNumbers_80 ?_
                      refine q_icne (tgt := 94) cx ⟨by decide, by decide⟩ ⟨by decide, by decide⟩ dX12_readsNumbers_81 (by decide) (fun c250 => ?_) (fun c250 => ?_)
                      · refine q_ild_n cx dX12_readsNumbers_94 rfl (lv_at hl 2 rfl) ?_
                        refine q_bipush cx dX12_readsNumbers_95 rfl ?_
                        refine q_icne (tgt := 113) cx ⟨by decide, by decide⟩ ⟨by decide, by decide⟩ dX12_readsNumbers_97 (by decide) (fun c251 => ?_) (fun c251 => ?_)
                        · refine q_ild_n cx dX12_readsNumbers_113 rfl (lv_at hl 2 rfl) ?_
                          refine q_bipush cx dX12_readsNumbers_114 rfl ?_
                          refine q_icne (tgt := 125) cx ⟨by decide, by decide⟩ ⟨by decide, by decide⟩ dX12_readsNumbers_116 (by decide) (fun c252 => ?_) (fun c252 => ?_)
                          · refine q_vret cx hr hlk hB dX12_readsNumbers_125 ?_
                            exact (Or.inr ⟨(q_isl z239 (by omega)), (q_isu z239 (by omega))⟩)
                          · exact absurd c252 (by omega)
                        · exact absurd c251 (by omega)
                      · exact absurd c250 (by omega)
            · exact absurd c185 (by omega)
        · obtain ⟨ly156, uy156, lz253, uz253⟩ := h159
          have z254 : q_ir (q_r f155 mo 13) sr := Eq.trans (hF.r hmo (by rw [kmo]; rfl)) hr0
          have z255 : q_ir (q_r f155 mo 18) nm := Eq.trans (hF.r hmo (by rw [kmo]; rfl)) hr1
          have z256 : q_ir (q_r f155 mo 1) bu := Eq.trans (hF.r hmo (by rw [kmo]; rfl)) hr2
          have z257 : q_ir (q_r f155 mo 30) c1 := Eq.trans (hF.r hmo (by rw [kmo]; rfl)) hr3
          have z258 : q_ir (q_r f155 mo 31) c2 := Eq.trans (hF.r hmo (by rw [kmo]; rfl)) hr4
          have z259 : q_ir (q_r f155 mo 32) c3 := Eq.trans (hF.r hmo (by rw [kmo]; rfl)) hr5
          have g260 : k_bl f f155 c1 c2 a0 := k_bl_tr hbl (fun i9 => hF.z hc1 (by rw [kc1]; rfl)) (fun i9 => hF.z hc2 (by rw [kc2]; rfl))
          obtain ⟨x261, ex261⟩ : ∃ zz, q_is (q_z f155 mo 8) zz := ⟨_, q_isr _⟩
          obtain ⟨lx261, ux261⟩ := q_isb ex261 ⟨lz253, uz253⟩
          obtain ⟨x262, ex262⟩ : ∃ zz, q_is (q_z f155 mo 4) zz := ⟨_, q_isr _⟩
          obtain ⟨lx262, ux262⟩ := q_isb ex262 (q_fib hB.2.1 hmo kmo (by decide) rfl)
          obtain ⟨x263, ex263⟩ : ∃ zz, q_is (q_z f155 mo 6) zz := ⟨_, q_isr _⟩
          obtain ⟨lx263, ux263⟩ := q_isb ex263 (q_fib hB.2.1 hmo kmo (by decide) rfl)
          refine q_iast (lo := (-2147483648)) (hi := 2147483647) (n := 60) cx hB hc1 kc1 (by decide) rfl rfl (by omega) (by omega) (by decide) rfl ⟨by omega, by omega⟩ (by omega) (by omega) (q_inWi (lo := 0) (hi := 58) (by decide) (by omega) (by omega)) dX12_readsNumbers_33 (fun H locs f264 ef264 z265 hB => ?_)
          have z266 : q_is (q_z f264 mo 8) x261 := by rw [ef264, q_setz (Or.inl (fun q => by rw [q, kc1] at kmo; exact absurd kmo (by decide)))]; exact ex261
          have z267 : q_is (q_z f264 mo 4) x262 := by rw [ef264, q_setz (Or.inl (fun q => by rw [q, kc1] at kmo; exact absurd kmo (by decide)))]; exact ex262
          have z268 : q_is (q_z f264 mo 6) x263 := by rw [ef264, q_setz (Or.inl (fun q => by rw [q, kc1] at kmo; exact absurd kmo (by decide)))]; exact ex263
          have z269 : q_ir (q_r f264 mo 13) sr := by rw [ef264, q_setr (Or.inl (fun q => by rw [q, kc1] at kmo; exact absurd kmo (by decide)))]; exact z254
          have z270 : q_ir (q_r f264 mo 18) nm := by rw [ef264, q_setr (Or.inl (fun q => by rw [q, kc1] at kmo; exact absurd kmo (by decide)))]; exact z255
          have z271 : q_ir (q_r f264 mo 1) bu := by rw [ef264, q_setr (Or.inl (fun q => by rw [q, kc1] at kmo; exact absurd kmo (by decide)))]; exact z256
          have z272 : q_ir (q_r f264 mo 30) c1 := by rw [ef264, q_setr (Or.inl (fun q => by rw [q, kc1] at kmo; exact absurd kmo (by decide)))]; exact z257
          have z273 : q_ir (q_r f264 mo 31) c2 := by rw [ef264, q_setr (Or.inl (fun q => by rw [q, kc1] at kmo; exact absurd kmo (by decide)))]; exact z258
          have z274 : q_ir (q_r f264 mo 32) c3 := by rw [ef264, q_setr (Or.inl (fun q => by rw [q, kc1] at kmo; exact absurd kmo (by decide)))]; exact z259
          have g275 : k_bl f f264 c1 c2 a0 := k_bl_s1 g260 ef264 (by omega) (fun q => q_kne (k := 163) (k2 := 162) (by decide) kc2 kc1 q)
          refine q_ild_n cx dX12_readsNumbers_34 rfl (lv_at hl 2 rfl) ?_
          refine q_iconst cx dX12_readsNumbers_35 ?_
          refine q_iceq (tgt := 44) cx ⟨by decide, by decide⟩ ⟨by decide, by decide⟩ dX12_readsNumbers_36 (by decide) (fun c276 => ?_) (fun c276 => ?_)
          · exact absurd c276 (by omega)
          · refine q_ild_n cx dX12_readsNumbers_39 rfl (lv_at hl 2 rfl) ?_
            refine q_iconst cx dX12_readsNumbers_40 ?_
            refine q_icne (tgt := 54) cx ⟨by decide, by decide⟩ ⟨by decide, by decide⟩ dX12_readsNumbers_41 (by decide) (fun c277 => ?_) (fun c277 => ?_)
            · refine q_ild_n cx dX12_readsNumbers_54 rfl (lv_at hl 2 rfl) ?_
              refine q_iconst cx dX12_readsNumbers_55 ?_
              refine q_iclt (tgt := 74) cx ⟨by decide, by decide⟩ ⟨by decide, by decide⟩ dX12_readsNumbers_56 (by decide) (fun c278 => ?_) (fun c278 => ?_)
              · exact absurd c278 (by omega)
              · refine q_ild_n cx dX12_readsNumbers_59 rfl (lv_at hl 2 rfl) ?_
                refine q_iconst cx dX12_readsNumbers_60 ?_
                refine q_icgt (tgt := 74) cx ⟨by decide, by decide⟩ ⟨by decide, by decide⟩ dX12_readsNumbers_61 (by decide) (fun c279 => ?_) (fun c279 => ?_)
                · exact absurd c279 (by omega)
                · refine q_ald_n cx dX12_readsNumbers_64 rfl (lv_at hl 0 rfl) ?_
                  refine q_gX12_57 cx hB hmo kmo z273 dX12_readsNumbers_65 (fun hb280 kb280 => ?_)
                  refine q_ild_n cx dX12_readsNumbers_68 rfl (lv_at hl 1 rfl) ?_
                  refine q_ald_n cx dX12_readsNumbers_69 rfl (lv_at hl 0 rfl) ?_
                  refine q_cVi (As := []) (rest := [.int (q_i a0), .ref c2]) cx hB (fun _ h => h) hN hmo kmo (by decide) rfl (r_any1 l g hN hB.2.1 mo hmo kmo x261 (by omega) (by omega) z266) q_cX12_482 q_dX12_any (by decide) rfl rfl hl.1 rfl (Nat.le_of_ble_eq_true rfl) dX12_readsNumbers_70 (fun y282 H locs f281 ry282 h283 hF hB => ?_)
                  obtain rfl := h283
                  refine q_iast (lo := (-2147483648)) (hi := 2147483647) (n := 60) cx hB hc2 kc2 (by decide) rfl rfl (by omega) (by omega) (by decide) rfl ⟨by omega, by omega⟩ (by omega) (by omega) (q_inWi (lo := 0) (hi := 58) (by decide) (by omega) (by omega)) dX12_readsNumbers_73 (fun H locs f284 ef284 z285 hB => ?_)
                  have z286 : q_is (q_z f284 mo 8) x261 := by rw [ef284, q_setz (Or.inl (fun q => by rw [q, kc2] at kmo; exact absurd kmo (by decide)))]; exact z266
                  have z287 : q_is (q_z f284 mo 4) x262 := by rw [ef284, q_setz (Or.inl (fun q => by rw [q, kc2] at kmo; exact absurd kmo (by decide)))]; exact z267
                  have z288 : q_is (q_z f284 mo 6) x263 := by rw [ef284, q_setz (Or.inl (fun q => by rw [q, kc2] at kmo; exact absurd kmo (by decide)))]; exact z268
                  have z289 : q_is (q_z f284 c1 (Int.toNat a0)) y156 := by rw [ef284, q_setz (Or.inl (fun q => by rw [q, kc2] at kc1; exact absurd kc1 (by decide)))]; exact z265
                  have z290 : q_ir (q_r f284 mo 13) sr := by rw [ef284, q_setr (Or.inl (fun q => by rw [q, kc2] at kmo; exact absurd kmo (by decide)))]; exact z269
                  have z291 : q_ir (q_r f284 mo 18) nm := by rw [ef284, q_setr (Or.inl (fun q => by rw [q, kc2] at kmo; exact absurd kmo (by decide)))]; exact z270
                  have z292 : q_ir (q_r f284 mo 1) bu := by rw [ef284, q_setr (Or.inl (fun q => by rw [q, kc2] at kmo; exact absurd kmo (by decide)))]; exact z271
                  have z293 : q_ir (q_r f284 mo 30) c1 := by rw [ef284, q_setr (Or.inl (fun q => by rw [q, kc2] at kmo; exact absurd kmo (by decide)))]; exact z272
                  have z294 : q_ir (q_r f284 mo 31) c2 := by rw [ef284, q_setr (Or.inl (fun q => by rw [q, kc2] at kmo; exact absurd kmo (by decide)))]; exact z273
                  have z295 : q_ir (q_r f284 mo 32) c3 := by rw [ef284, q_setr (Or.inl (fun q => by rw [q, kc2] at kmo; exact absurd kmo (by decide)))]; exact z274
                  have g296 : k_bl f f284 c1 c2 a0 := k_bl_s2 g275 ef284 (by omega) (fun q => q_kne (k := 162) (k2 := 163) (by decide) kc1 kc2 q)
                  refine q_ild_n cx dX12_readsNumbers_74 rfl (lv_at hl 2 rfl) ?_
                  refine q_iconst cx dX12_readsNumbers_75 ?_
                  refine q_iceq (tgt := 84) cx ⟨by decide, by decide⟩ ⟨by decide, by decide⟩ dX12_readsNumbers_76 (by decide) (fun c297 => ?_) (fun c297 => ?_)
                  · exact absurd c297 (by omega)
                  · refine q_ild_n cx dX12_readsNumbers_79 rfl (lv_at hl 2 rfl) ?_
                    refine q_iconst cx dX12_readsNumbers_80 ?_
                    refine q_icne (tgt := 94) cx ⟨by decide, by decide⟩ ⟨by decide, by decide⟩ dX12_readsNumbers_81 (by decide) (fun c298 => ?_) (fun c298 => ?_)
                    · refine q_ild_n cx dX12_readsNumbers_94 rfl (lv_at hl 2 rfl) ?_
                      refine q_bipush cx dX12_readsNumbers_95 rfl ?_
                      refine q_icne (tgt := 113) cx ⟨by decide, by decide⟩ ⟨by decide, by decide⟩ dX12_readsNumbers_97 (by decide) (fun c299 => ?_) (fun c299 => ?_)
                      · refine q_ild_n cx dX12_readsNumbers_113 rfl (lv_at hl 2 rfl) ?_
                        refine q_bipush cx dX12_readsNumbers_114 rfl ?_
                        refine q_icne (tgt := 125) cx ⟨by decide, by decide⟩ ⟨by decide, by decide⟩ dX12_readsNumbers_116 (by decide) (fun c300 => ?_) (fun c300 => ?_)
                        · refine q_vret cx hr hlk hB dX12_readsNumbers_125 ?_
                          exact (Or.inr ⟨(q_isl z286 (by omega)), (q_isu z286 (by omega))⟩)
                        · exact absurd c300 (by omega)
                      · exact absurd c299 (by omega)
                    · exact absurd c298 (by omega)
            · exact absurd c277 (by omega)
  · exact absurd c151 (by omega)
set_option maxHeartbeats 4000000 in
set_option maxRecDepth 100000 in
theorem r_readsNumbers6 (l : Launch) (g : q_G) {K : Nat → Nat} {L : List Nat} (hN : L.Nodup) {f : Nat → va_E} (hT : q_Ty g K L f) (mo : Nat) (hmo : mo ∈ L) (kmo : K mo = 12) (a0 : Int) (la0 : 0 ≤ a0) (ua0 : a0 ≤ 58) (b0 : Int) (lb0 : 6 ≤ b0) (ub0 : b0 ≤ 6) (sr : Nat) (hsr : sr ∈ L) (ksr : K sr = 151) (nm : Nat) (hnm : nm ∈ L) (knm : K nm = 156) (bu : Nat) (hbu : bu ∈ L) (kbu : K bu = 150) (c1 : Nat) (hc1 : c1 ∈ L) (kc1 : K c1 = 162) (c2 : Nat) (hc2 : c2 ∈ L) (kc2 : K c2 = 163) (c3 : Nat) (hc3 : c3 ∈ L) (kc3 : K c3 = 164) (xp : Int) (lxp : 0 ≤ xp) (uxp : xp ≤ 600) (hf0 : q_is (q_z f mo 8) 0) (hf1 : q_is (q_z f mo 4) xp) (hr0 : q_ir (q_r f mo 13) sr) (hr1 : q_ir (q_r f mo 18) nm) (hr2 : q_ir (q_r f mo 1) bu) (hr3 : q_ir (q_r f mo 30) c1) (hr4 : q_ir (q_r f mo 31) c2) (hr5 : q_ir (q_r f mo 32) c3) : q_Ct l g K L yX12_readsNumbers cX12_readsNumbers 3 none 3 70 [.ref mo, .int (q_i a0), .int (q_i b0)] f [(12, 4, 9), (12, 12, 12), (162, 0, 58)] (q_Pv (fun (f1 : Nat → va_E) => (q_is (q_z f1 mo 8) 0 ∧ (xp < q_z f1 mo 4) ∧ (k_cc b0 f1 c1 c2 (Int.toNat a0)) ∧ (k_bl f f1 c1 c2 a0)) ∨ (1 ≤ q_z f1 mo 8 ∧ q_z f1 mo 8 ≤ 5))) := by
  obtain rfl : b0 = 6 := by omega
  refine q_ofb (by decide +kernel) hN hT (Nat.le_of_ble_eq_true rfl) ?_
  intro p e s m below meth c ls cx hr hlk hB hl
  have hl : lv_has ls 3 [(0, .ref mo), (1, .int (q_i a0)), (2, .int (q_i 6))] := hl
  obtain ⟨H, hH⟩ : ∃ H : Heap, H = s.heap := ⟨_, rfl⟩
  obtain ⟨locs, hlocs⟩ : ∃ z : List Loc, z = [] := ⟨_, rfl⟩
  rw [← hH, ← hlocs] at hB
  rw [← hH, ← hlocs]
  have hbl : k_bl f f c1 c2 a0 := k_bl_rf _ _ _ _
  refine q_ild_n cx dX12_readsNumbers_0 rfl (lv_at hl 2 rfl) ?_
  refine q_ifne (tgt := 14) cx ⟨by decide, by decide⟩ dX12_readsNumbers_1 (by decide) (fun c102 => ?_) (fun c102 => ?_)
  · refine q_ild_n cx dX12_readsNumbers_14 rfl (lv_at hl 2 rfl) ?_
    refine q_iconst cx dX12_readsNumbers_15 ?_
    refine q_iclt (tgt := 34) cx ⟨by decide, by decide⟩ ⟨by decide, by decide⟩ dX12_readsNumbers_16 (by decide) (fun c103 => ?_) (fun c103 => ?_)
    · exact absurd c103 (by omega)
    · refine q_ild_n cx dX12_readsNumbers_19 rfl (lv_at hl 2 rfl) ?_
      refine q_iconst cx dX12_readsNumbers_20 ?_
      refine q_icgt (tgt := 34) cx ⟨by decide, by decide⟩ ⟨by decide, by decide⟩ dX12_readsNumbers_21 (by decide) (fun c104 => ?_) (fun c104 => ?_)
      · refine q_ild_n cx dX12_readsNumbers_34 rfl (lv_at hl 2 rfl) ?_
        refine q_iconst cx dX12_readsNumbers_35 ?_
        refine q_iceq (tgt := 44) cx ⟨by decide, by decide⟩ ⟨by decide, by decide⟩ dX12_readsNumbers_36 (by decide) (fun c105 => ?_) (fun c105 => ?_)
        · exact absurd c105 (by omega)
        · refine q_ild_n cx dX12_readsNumbers_39 rfl (lv_at hl 2 rfl) ?_
          refine q_iconst cx dX12_readsNumbers_40 ?_
          refine q_icne (tgt := 54) cx ⟨by decide, by decide⟩ ⟨by decide, by decide⟩ dX12_readsNumbers_41 (by decide) (fun c106 => ?_) (fun c106 => ?_)
          · refine q_ild_n cx dX12_readsNumbers_54 rfl (lv_at hl 2 rfl) ?_
            refine q_iconst cx dX12_readsNumbers_55 ?_
            refine q_iclt (tgt := 74) cx ⟨by decide, by decide⟩ ⟨by decide, by decide⟩ dX12_readsNumbers_56 (by decide) (fun c107 => ?_) (fun c107 => ?_)
            · exact absurd c107 (by omega)
            · refine q_ild_n cx dX12_readsNumbers_59 rfl (lv_at hl 2 rfl) ?_
              refine q_iconst cx dX12_readsNumbers_60 ?_
              refine q_icgt (tgt := 74) cx ⟨by decide, by decide⟩ ⟨by decide, by decide⟩ dX12_readsNumbers_61 (by decide) (fun c108 => ?_) (fun c108 => ?_)
              · refine q_ild_n cx dX12_readsNumbers_74 rfl (lv_at hl 2 rfl) ?_
                refine q_iconst cx dX12_readsNumbers_75 ?_
                refine q_iceq (tgt := 84) cx ⟨by decide, by decide⟩ ⟨by decide, by decide⟩ dX12_readsNumbers_76 (by decide) (fun c109 => ?_) (fun c109 => ?_)
                · exact absurd c109 (by omega)
                · refine q_ild_n cx dX12_readsNumbers_79 rfl (lv_at hl 2 rfl) ?_
                  refine q_iconst cx dX12_readsNumbers_80 ?_
                  refine q_icne (tgt := 94) cx ⟨by decide, by decide⟩ ⟨by decide, by decide⟩ dX12_readsNumbers_81 (by decide) (fun c110 => ?_) (fun c110 => ?_)
                  · refine q_ild_n cx dX12_readsNumbers_94 rfl (lv_at hl 2 rfl) ?_
                    refine q_bipush cx dX12_readsNumbers_95 rfl ?_
                    refine q_icne (tgt := 113) cx ⟨by decide, by decide⟩ ⟨by decide, by decide⟩ dX12_readsNumbers_97 (by decide) (fun c111 => ?_) (fun c111 => ?_)
                    · exact absurd c111 (by omega)
                    · refine q_ald_n cx dX12_readsNumbers_100 rfl (lv_at hl 0 rfl) ?_
                      refine q_gX12_54 cx hB hmo kmo hr3 dX12_readsNumbers_101 (fun hb112 kb112 => ?_)
                      refine q_ild_n cx dX12_readsNumbers_104 rfl (lv_at hl 1 rfl) ?_
                      refine q_ald_n cx dX12_readsNumbers_105 rfl (lv_at hl 0 rfl) ?_
                      refine q_iconst cx dX12_readsNumbers_106 ?_
                      refine q_bipush cx dX12_readsNumbers_107 rfl ?_
                      refine q_cVi (As := [.int (q_i 1), .int (q_i 20)]) (rest := [.int (q_i a0), .ref c1]) cx hB (fun _ h => h) hN hmo kmo (by decide) rfl (r_number0 l g hN hB.2.1 mo hmo kmo 1 (by decide) (by decide) 20 (by decide) (by decide) bu hbu kbu xp (by omega) (by omega) hf0 hf1 hr2) q_cX12_193 q_dX12_number (by decide) rfl rfl hl.1 rfl (Nat.le_of_ble_eq_true rfl) dX12_readsNumbers_109 (fun y114 H locs f113 ry114 h115 hF hB => ?_)
                      rcases h115 with h116 | h117
                      · obtain ⟨z118, t119, t120, t121, t122⟩ := h116
                        have z123 : q_ir (q_r f113 mo 13) sr := Eq.trans (hF.r hmo (by rw [kmo]; rfl)) hr0
                        have z124 : q_ir (q_r f113 mo 18) nm := Eq.trans (hF.r hmo (by rw [kmo]; rfl)) hr1
                        have z125 : q_ir (q_r f113 mo 1) bu := Eq.trans (hF.r hmo (by rw [kmo]; rfl)) hr2
                        have z126 : q_ir (q_r f113 mo 30) c1 := Eq.trans (hF.r hmo (by rw [kmo]; rfl)) hr3
                        have z127 : q_ir (q_r f113 mo 31) c2 := Eq.trans (hF.r hmo (by rw [kmo]; rfl)) hr4
                        have z128 : q_ir (q_r f113 mo 32) c3 := Eq.trans (hF.r hmo (by rw [kmo]; rfl)) hr5
                        have g129 : k_bl f f113 c1 c2 a0 := k_bl_tr hbl (fun i9 => hF.z hc1 (by rw [kc1]; rfl)) (fun i9 => hF.z hc2 (by rw [kc2]; rfl))
                        obtain ⟨x130, ex130⟩ : ∃ zz, q_is (q_z f113 mo 4) zz := ⟨_, q_isr _⟩
                        obtain ⟨lx130, ux130⟩ := q_isb ex130 (q_fib hB.2.1 hmo kmo (by decide) rfl)
                        obtain ⟨x131, ex131⟩ : ∃ zz, q_is (q_z f113 mo 6) zz := ⟨_, q_isr _⟩
                        obtain ⟨lx131, ux131⟩ := q_isb ex131 (q_fib hB.2.1 hmo kmo (by decide) rfl)
                        replace t119 := q_isl9 ex130 t119
                        replace t120 := k_po_si ex131 ex130 t120
                        refine q_iast (lo := (-2147483648)) (hi := 2147483647) (n := 60) cx hB hc1 kc1 (by decide) rfl rfl (by omega) (by omega) (by decide) rfl ⟨by omega, by omega⟩ (by omega) (by omega) (q_inWi (lo := 0) (hi := 58) (by decide) (by omega) (by omega)) dX12_readsNumbers_112 (fun H locs f132 ef132 z133 hB => ?_)
                        have z134 : q_is (q_z f132 mo 8) 0 := by rw [ef132, q_setz (Or.inl (fun q => by rw [q, kc1] at kmo; exact absurd kmo (by decide)))]; exact z118
                        have z135 : q_is (q_z f132 mo 4) x130 := by rw [ef132, q_setz (Or.inl (fun q => by rw [q, kc1] at kmo; exact absurd kmo (by decide)))]; exact ex130
                        have z136 : q_is (q_z f132 mo 6) x131 := by rw [ef132, q_setz (Or.inl (fun q => by rw [q, kc1] at kmo; exact absurd kmo (by decide)))]; exact ex131
                        have z137 : q_ir (q_r f132 mo 13) sr := by rw [ef132, q_setr (Or.inl (fun q => by rw [q, kc1] at kmo; exact absurd kmo (by decide)))]; exact z123
                        have z138 : q_ir (q_r f132 mo 18) nm := by rw [ef132, q_setr (Or.inl (fun q => by rw [q, kc1] at kmo; exact absurd kmo (by decide)))]; exact z124
                        have z139 : q_ir (q_r f132 mo 1) bu := by rw [ef132, q_setr (Or.inl (fun q => by rw [q, kc1] at kmo; exact absurd kmo (by decide)))]; exact z125
                        have z140 : q_ir (q_r f132 mo 30) c1 := by rw [ef132, q_setr (Or.inl (fun q => by rw [q, kc1] at kmo; exact absurd kmo (by decide)))]; exact z126
                        have z141 : q_ir (q_r f132 mo 31) c2 := by rw [ef132, q_setr (Or.inl (fun q => by rw [q, kc1] at kmo; exact absurd kmo (by decide)))]; exact z127
                        have z142 : q_ir (q_r f132 mo 32) c3 := by rw [ef132, q_setr (Or.inl (fun q => by rw [q, kc1] at kmo; exact absurd kmo (by decide)))]; exact z128
                        have g143 : k_bl f f132 c1 c2 a0 := k_bl_s1 g129 ef132 (by omega) (fun q => q_kne (k := 163) (k2 := 162) (by decide) kc2 kc1 q)
                        refine q_ild_n cx dX12_readsNumbers_113 rfl (lv_at hl 2 rfl) ?_
                        refine q_bipush cx dX12_readsNumbers_114 rfl ?_
                        refine q_icne (tgt := 125) cx ⟨by decide, by decide⟩ ⟨by decide, by decide⟩ dX12_readsNumbers_116 (by decide) (fun c144 => ?_) (fun c144 => ?_)
                        · exact absurd c144 (by omega)
                        · refine q_ald_n cx dX12_readsNumbers_119 rfl (lv_at hl 0 rfl) ?_
                          refine q_bipush cx dX12_readsNumbers_120 rfl ?_
                          refine q_cVv (As := [.int (q_i 40)]) (rest := []) cx hB (fun _ h => h) hN hmo kmo (by decide) rfl (r_mustSign0 l g hN hB.2.1 mo hmo kmo 40 (by decide) (by decide) bu hbu kbu x130 (by omega) (by omega) z134 z135 z139) q_cX12_241 q_dX12_mustSign (by decide) rfl rfl hl.1 rfl (Nat.le_of_ble_eq_true rfl) dX12_readsNumbers_122 (fun H locs f145 h147 hF hB => ?_)
                          rcases h147 with h148 | h149
                          · obtain ⟨z150, t151, t152, t153⟩ := h148
                            have z154 : q_is (q_z f145 c1 (Int.toNat a0)) y114 := Eq.trans (hF.z hc1 (by rw [kc1]; rfl)) z133
                            have z155 : q_ir (q_r f145 mo 13) sr := Eq.trans (hF.r hmo (by rw [kmo]; rfl)) z137
                            have z156 : q_ir (q_r f145 mo 18) nm := Eq.trans (hF.r hmo (by rw [kmo]; rfl)) z138
                            have z157 : q_ir (q_r f145 mo 1) bu := Eq.trans (hF.r hmo (by rw [kmo]; rfl)) z139
                            have z158 : q_ir (q_r f145 mo 30) c1 := Eq.trans (hF.r hmo (by rw [kmo]; rfl)) z140
                            have z159 : q_ir (q_r f145 mo 31) c2 := Eq.trans (hF.r hmo (by rw [kmo]; rfl)) z141
                            have z160 : q_ir (q_r f145 mo 32) c3 := Eq.trans (hF.r hmo (by rw [kmo]; rfl)) z142
                            have g161 : k_bl f f145 c1 c2 a0 := k_bl_tr g143 (fun i9 => hF.z hc1 (by rw [kc1]; rfl)) (fun i9 => hF.z hc2 (by rw [kc2]; rfl))
                            obtain ⟨x162, ex162⟩ : ∃ zz, q_is (q_z f145 mo 4) zz := ⟨_, q_isr _⟩
                            obtain ⟨lx162, ux162⟩ := q_isb ex162 (q_fib hB.2.1 hmo kmo (by decide) rfl)
                            obtain ⟨x163, ex163⟩ : ∃ zz, q_is (q_z f145 mo 6) zz := ⟨_, q_isr _⟩
                            obtain ⟨lx163, ux163⟩ := q_isb ex163 (q_fib hB.2.1 hmo kmo (by decide) rfl)
                            replace t151 := q_isl9 ex162 t151
                            replace t152 := k_po_si ex163 ex162 t152
                            refine q_vret cx hr hlk hB dX12_readsNumbers_125 ?_
                            exact (Or.inl ⟨z150, (q_islt ex162 (by have h7 := k_po_lt t120 (k_ne0 z136 t153); omega)), (by have h70 : _ = _ := z154; unfold k_cc; omega), g161⟩)
                          · obtain ⟨lz164, uz164⟩ := h149
                            have z165 : q_is (q_z f145 c1 (Int.toNat a0)) y114 := Eq.trans (hF.z hc1 (by rw [kc1]; rfl)) z133
                            have z166 : q_ir (q_r f145 mo 13) sr := Eq.trans (hF.r hmo (by rw [kmo]; rfl)) z137
                            have z167 : q_ir (q_r f145 mo 18) nm := Eq.trans (hF.r hmo (by rw [kmo]; rfl)) z138
                            have z168 : q_ir (q_r f145 mo 1) bu := Eq.trans (hF.r hmo (by rw [kmo]; rfl)) z139
                            have z169 : q_ir (q_r f145 mo 30) c1 := Eq.trans (hF.r hmo (by rw [kmo]; rfl)) z140
                            have z170 : q_ir (q_r f145 mo 31) c2 := Eq.trans (hF.r hmo (by rw [kmo]; rfl)) z141
                            have z171 : q_ir (q_r f145 mo 32) c3 := Eq.trans (hF.r hmo (by rw [kmo]; rfl)) z142
                            have g172 : k_bl f f145 c1 c2 a0 := k_bl_tr g143 (fun i9 => hF.z hc1 (by rw [kc1]; rfl)) (fun i9 => hF.z hc2 (by rw [kc2]; rfl))
                            obtain ⟨x173, ex173⟩ : ∃ zz, q_is (q_z f145 mo 8) zz := ⟨_, q_isr _⟩
                            obtain ⟨lx173, ux173⟩ := q_isb ex173 ⟨lz164, uz164⟩
                            obtain ⟨x174, ex174⟩ : ∃ zz, q_is (q_z f145 mo 4) zz := ⟨_, q_isr _⟩
                            obtain ⟨lx174, ux174⟩ := q_isb ex174 (q_fib hB.2.1 hmo kmo (by decide) rfl)
                            obtain ⟨x175, ex175⟩ : ∃ zz, q_is (q_z f145 mo 6) zz := ⟨_, q_isr _⟩
                            obtain ⟨lx175, ux175⟩ := q_isb ex175 (q_fib hB.2.1 hmo kmo (by decide) rfl)
                            refine q_vret cx hr hlk hB dX12_readsNumbers_125 ?_
                            exact (Or.inr ⟨(q_isl ex173 (by omega)), (q_isu ex173 (by omega))⟩)
                      · obtain ⟨lz176, uz176⟩ := h117
                        have z177 : q_ir (q_r f113 mo 13) sr := Eq.trans (hF.r hmo (by rw [kmo]; rfl)) hr0
                        have z178 : q_ir (q_r f113 mo 18) nm := Eq.trans (hF.r hmo (by rw [kmo]; rfl)) hr1
                        have z179 : q_ir (q_r f113 mo 1) bu := Eq.trans (hF.r hmo (by rw [kmo]; rfl)) hr2
                        have z180 : q_ir (q_r f113 mo 30) c1 := Eq.trans (hF.r hmo (by rw [kmo]; rfl)) hr3
                        have z181 : q_ir (q_r f113 mo 31) c2 := Eq.trans (hF.r hmo (by rw [kmo]; rfl)) hr4
                        have z182 : q_ir (q_r f113 mo 32) c3 := Eq.trans (hF.r hmo (by rw [kmo]; rfl)) hr5
                        have g183 : k_bl f f113 c1 c2 a0 := k_bl_tr hbl (fun i9 => hF.z hc1 (by rw [kc1]; rfl)) (fun i9 => hF.z hc2 (by rw [kc2]; rfl))
                        obtain ⟨x184, ex184⟩ : ∃ zz, q_is (q_z f113 mo 8) zz := ⟨_, q_isr _⟩
                        obtain ⟨lx184, ux184⟩ := q_isb ex184 ⟨lz176, uz176⟩
                        obtain ⟨x185, ex185⟩ : ∃ zz, q_is (q_z f113 mo 4) zz := ⟨_, q_isr _⟩
                        obtain ⟨lx185, ux185⟩ := q_isb ex185 (q_fib hB.2.1 hmo kmo (by decide) rfl)
                        obtain ⟨x186, ex186⟩ : ∃ zz, q_is (q_z f113 mo 6) zz := ⟨_, q_isr _⟩
                        obtain ⟨lx186, ux186⟩ := q_isb ex186 (q_fib hB.2.1 hmo kmo (by decide) rfl)
                        refine q_iast (lo := (-2147483648)) (hi := 2147483647) (n := 60) cx hB hc1 kc1 (by decide) rfl rfl (by omega) (by omega) (by decide) rfl ⟨by omega, by omega⟩ (by omega) (by omega) (q_inWi (lo := 0) (hi := 58) (by decide) (by omega) (by omega)) dX12_readsNumbers_112 (fun H locs f187 ef187 z188 hB => ?_)
                        have z189 : q_is (q_z f187 mo 8) x184 := by rw [ef187, q_setz (Or.inl (fun q => by rw [q, kc1] at kmo; exact absurd kmo (by decide)))]; exact ex184
                        have z190 : q_is (q_z f187 mo 4) x185 := by rw [ef187, q_setz (Or.inl (fun q => by rw [q, kc1] at kmo; exact absurd kmo (by decide)))]; exact ex185
                        have z191 : q_is (q_z f187 mo 6) x186 := by rw [ef187, q_setz (Or.inl (fun q => by rw [q, kc1] at kmo; exact absurd kmo (by decide)))]; exact ex186
                        have z192 : q_ir (q_r f187 mo 13) sr := by rw [ef187, q_setr (Or.inl (fun q => by rw [q, kc1] at kmo; exact absurd kmo (by decide)))]; exact z177
                        have z193 : q_ir (q_r f187 mo 18) nm := by rw [ef187, q_setr (Or.inl (fun q => by rw [q, kc1] at kmo; exact absurd kmo (by decide)))]; exact z178
                        have z194 : q_ir (q_r f187 mo 1) bu := by rw [ef187, q_setr (Or.inl (fun q => by rw [q, kc1] at kmo; exact absurd kmo (by decide)))]; exact z179
                        have z195 : q_ir (q_r f187 mo 30) c1 := by rw [ef187, q_setr (Or.inl (fun q => by rw [q, kc1] at kmo; exact absurd kmo (by decide)))]; exact z180
                        have z196 : q_ir (q_r f187 mo 31) c2 := by rw [ef187, q_setr (Or.inl (fun q => by rw [q, kc1] at kmo; exact absurd kmo (by decide)))]; exact z181
                        have z197 : q_ir (q_r f187 mo 32) c3 := by rw [ef187, q_setr (Or.inl (fun q => by rw [q, kc1] at kmo; exact absurd kmo (by decide)))]; exact z182
                        have g198 : k_bl f f187 c1 c2 a0 := k_bl_s1 g183 ef187 (by omega) (fun q => q_kne (k := 163) (k2 := 162) (by decide) kc2 kc1 q)
                        refine q_ild_n cx dX12_readsNumbers_113 rfl (lv_at hl 2 rfl) ?_
                        refine q_bipush cx dX12_readsNumbers_114 rfl ?_
                        refine q_icne (tgt := 125) cx ⟨by decide, by decide⟩ ⟨by decide, by decide⟩ dX12_readsNumbers_116 (by decide) (fun c199 => ?_) (fun c199 => ?_)
                        · exact absurd c199 (by omega)
                        · refine q_ald_n cx dX12_readsNumbers_119 rfl (lv_at hl 0 rfl) ?_
                          refine q_bipush cx dX12_readsNumbers_120 rfl ?_
                          refine q_cVv (As := [.int (q_i 40)]) (rest := []) cx hB (fun _ h => h) hN hmo kmo (by decide) rfl (r_mustSign1 l g hN hB.2.1 mo hmo kmo 40 (by decide) (by decide) x184 (by omega) (by omega) z189) q_cX12_241 q_dX12_mustSign (by decide) rfl rfl hl.1 rfl (Nat.le_of_ble_eq_true rfl) dX12_readsNumbers_122 (fun H locs f200 h202 hF hB => ?_)
                          obtain rfl := h202
                          refine q_vret cx hr hlk hB dX12_readsNumbers_125 ?_
                          exact (Or.inr ⟨(q_isl z189 (by omega)), (q_isu z189 (by omega))⟩)
                  · exact absurd c110 (by omega)
              · exact absurd c108 (by omega)
          · exact absurd c106 (by omega)
      · exact absurd c104 (by omega)
  · exact absurd c102 (by omega)
