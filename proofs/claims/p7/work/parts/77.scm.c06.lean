set_option maxHeartbeats 4000000 in
set_option maxRecDepth 100000 in
theorem f_mcloses0 (l : Launch) (g : q_G) {K : Nat → Nat} {L : List Nat} (hN : L.Nodup) {f : Nat → va_E} (hT : q_Ty g K L f) (B : Nat → Int) (nl9 : List (List Int)) (mo : Nat) (hmo : mo ∈ L) (kmo : K mo = 12) (bu : Nat) (hbu : bu ∈ L) (kbu : K bu = 150) (cs : Nat) (hcs : cs ∈ L) (kcs : K cs = 161) (c1 : Nat) (hc1 : c1 ∈ L) (kc1 : K c1 = 162) (c2 : Nat) (hc2 : c2 ∈ L) (kc2 : K c2 = 163) (tn : Int) (ltn : 0 ≤ tn) (utn : tn ≤ 600) (ss : Int) (lss : 0 ≤ ss) (uss : ss ≤ 600) (xo : Int) (lxo : 0 ≤ xo) (uxo : xo ≤ 3) (xw : Int) (lxw : 0 ≤ xw) (uxw : xw ≤ 30) (hf0 : q_is (q_z f mo 3) tn) (hf1 : q_is (q_z f mo 5) ss) (hf2 : q_is (q_z f mo 8) 0) (hf3 : q_is (q_z f mo 9) (-1)) (hf4 : q_is (q_z f mo 37) xo) (hf5 : q_is (q_z f mo 36) xw) (hr0 : q_ir (q_r f mo 1) bu) (hr1 : q_ir (q_r f mo 29) cs) (hr2 : q_ir (q_r f mo 30) c1) (hr3 : q_ir (q_r f mo 31) c2) (htr : tk_tr f mo B tn) (hub : tk_ub f bu B tn) (hsc : q_sc f mo cs c1 c2) : q_Ct l g K L yX12_closes cX12_closes 1 none 3 64 [.ref mo] f [(12, 4, 9), (12, 12, 12), (12, 35, 35), (12, 37, 37), (161, 0, 59)] (q_Pv (fun (f1 : Nat → va_E) => (q_is (q_z f1 mo 8) 0 ∧ q_is (q_z f1 mo 9) (-1) ∧ q_is (q_z f1 mo 36) xw ∧ 0 ≤ q_z f1 mo 37 ∧ q_z f1 mo 37 ≤ 3 ∧ (tk_U B tn nl9 ss xo xw = tk_U B tn nl9 (q_z f1 mo 5) (q_z f1 mo 37) xw) ∧ (¬ (0 < q_z f1 mo 37 ∧ tk_k B tn (q_z f1 mo 5) = 41)) ∧ (ss ≤ q_z f1 mo 5) ∧ (q_z f1 mo 37 ≤ xo) ∧ (q_sc f1 mo cs c1 c2) ∧ (tk_tr f1 mo B tn)) ∨ (1 ≤ q_z f1 mo 8 ∧ q_z f1 mo 8 ≤ 5 ∧ (tk_U B tn nl9 ss xo xw = tk_er (q_z f1 mo 8) (q_z f1 mo 9)) ∧ (tk_tr f1 mo B tn)))) := by
  refine q_ofb (by decide +kernel) hN hT (Nat.le_of_ble_eq_true rfl) ?_
  intro p e s m below meth c ls cx hr hlk hB hl
  have hl : lv_has ls 1 [(0, .ref mo)] := hl
  have J0 : ∀ (n : Nat) (f0 : Nat → va_E) (w0_mo_5 : Int) (lw0_mo_5 : 0 ≤ w0_mo_5) (uw0_mo_5 : w0_mo_5 ≤ 600) (w0_mo_8 : Int) (lw0_mo_8 : 0 ≤ w0_mo_8) (uw0_mo_8 : w0_mo_8 ≤ 0) (w0_mo_9 : Int) (lw0_mo_9 : (-1) ≤ w0_mo_9) (uw0_mo_9 : w0_mo_9 ≤ (-1)) (w0_mo_37 : Int) (lw0_mo_37 : 0 ≤ w0_mo_37) (uw0_mo_37 : w0_mo_37 ≤ 3) (hj_mo_3 : q_is (q_z f0 mo 3) tn) (hj_mo_5 : q_is (q_z f0 mo 5) w0_mo_5) (hj_mo_8 : q_is (q_z f0 mo 8) w0_mo_8) (hj_mo_9 : q_is (q_z f0 mo 9) w0_mo_9) (hj_mo_37 : q_is (q_z f0 mo 37) w0_mo_37) (hj_mo_36 : q_is (q_z f0 mo 36) xw) (hq_mo_1 : q_ir (q_r f0 mo 1) bu) (hq_mo_29 : q_ir (q_r f0 mo 29) cs) (hq_mo_30 : q_ir (q_r f0 mo 30) c1) (hq_mo_31 : q_ir (q_r f0 mo 31) c2) (hsc0 : q_sc f0 mo cs c1 c2) (htr0 : tk_tr f0 mo B tn) (hub0 : tk_ub f0 bu B tn) (hrl0_0 : 0 ≤ 1 * w0_mo_5 + -1 * ss + 0) (hrl0_1 : 0 ≤ 1 * tn + -1 * w0_mo_5 + 0) (hrl0_2 : 0 ≤ 1 * xo + -1 * w0_mo_37 + 0) (hcl : tk_U B tn nl9 ss xo xw = tk_U B tn nl9 w0_mo_5 w0_mo_37 xw) (hmu : (Int.toNat (w0_mo_37)) < n) (H : Heap) (locs : List Loc) (hB : q_B g K L (fun q => q ∈ L) [(12, 4, 9), (12, 12, 12), (12, 35, 35), (12, 37, 37), (161, 0, 59)] f f0 s H locs) (ls : Array Slot) (hl : lv_has ls 1 [(0, .ref mo)]), W p l e { frames := 3, cells := 0, slots := 0, locals := 64 } s m ([.ref mo] : List Value).toArray below meth c H locs 0 0 (MQ below (q_Q g K L [(12, 4, 9), (12, 12, 12), (12, 35, 35), (12, 37, 37), (161, 0, 59)] f (q_Pv (fun (f1 : Nat → va_E) => (q_is (q_z f1 mo 8) 0 ∧ q_is (q_z f1 mo 9) (-1) ∧ q_is (q_z f1 mo 36) xw ∧ 0 ≤ q_z f1 mo 37 ∧ q_z f1 mo 37 ≤ 3 ∧ (tk_U B tn nl9 ss xo xw = tk_U B tn nl9 (q_z f1 mo 5) (q_z f1 mo 37) xw) ∧ (¬ (0 < q_z f1 mo 37 ∧ tk_k B tn (q_z f1 mo 5) = 41)) ∧ (ss ≤ q_z f1 mo 5) ∧ (q_z f1 mo 37 ≤ xo) ∧ (q_sc f1 mo cs c1 c2) ∧ (tk_tr f1 mo B tn)) ∨ (1 ≤ q_z f1 mo 8 ∧ q_z f1 mo 8 ≤ 5 ∧ (tk_U B tn nl9 ss xo xw = tk_er (q_z f1 mo 8) (q_z f1 mo 9)) ∧ (tk_tr f1 mo B tn))))) ([.ref mo] : List Value).toArray s 0 0 (fun q => q ∈ L)) (F0 m 0 ls []) := by
    intro n
    induction n with
    | zero =>
      intro f0 w0_mo_5 lw0_mo_5 uw0_mo_5 w0_mo_8 lw0_mo_8 uw0_mo_8 w0_mo_9 lw0_mo_9 uw0_mo_9 w0_mo_37 lw0_mo_37 uw0_mo_37 hj_mo_3 hj_mo_5 hj_mo_8 hj_mo_9 hj_mo_37 hj_mo_36 hq_mo_1 hq_mo_29 hq_mo_30 hq_mo_31 hsc0 htr0 hub0 hrl0_0 hrl0_1 hrl0_2 hcl hmu
      exact absurd hmu (Nat.not_lt_zero _)
    | succ n ih0 =>
      intro f0 w0_mo_5 lw0_mo_5 uw0_mo_5 w0_mo_8 lw0_mo_8 uw0_mo_8 w0_mo_9 lw0_mo_9 uw0_mo_9 w0_mo_37 lw0_mo_37 uw0_mo_37 hj_mo_3 hj_mo_5 hj_mo_8 hj_mo_9 hj_mo_37 hj_mo_36 hq_mo_1 hq_mo_29 hq_mo_30 hq_mo_31 hsc0 htr0 hub0 hrl0_0 hrl0_1 hrl0_2 hcl hmu H locs hB ls hl
      refine q_ald_n cx dX12_closes_0 rfl (lv_at hl 0 rfl) ?_
      refine q_gX12_488 cx hB hmo kmo hj_mo_37 dX12_closes_1 (fun lb130 ub130 => ?_)
      refine q_ifle (tgt := 60) cx ⟨by omega, by omega⟩ dX12_closes_4 (by decide) (fun c131 => ?_) (fun c131 => ?_)
      · refine q_vret cx hr hlk hB dX12_closes_60 ?_
        exact (Or.inl ⟨(Eq.trans hj_mo_8 (by omega)), (Eq.trans hj_mo_9 (by omega)), hj_mo_36, (q_isl hj_mo_37 (by omega)), (q_isu hj_mo_37 (by omega)), (tk_U_w hcl hj_mo_5 hj_mo_37), (tk_ncl_0 (by omega) hj_mo_5 hj_mo_37), (q_isl hj_mo_5 (by omega)), (q_isu hj_mo_37 (by omega)), hsc0, htr0⟩)
      · refine q_ald_n cx dX12_closes_7 rfl (lv_at hl 0 rfl) ?_
        refine q_bipush cx dX12_closes_8 rfl ?_
        refine q_cVi (As := [.int (q_i 41)]) (rest := []) cx hB (fun _ h => h) hN hmo kmo (by decide) rfl (f_misSign l g hN hB.2.1 B mo hmo kmo 41 (by decide) (by decide) bu hbu kbu tn (by omega) (by omega) w0_mo_5 (by omega) (by omega) hj_mo_3 hj_mo_5 (Eq.trans hj_mo_8 (by omega)) (Eq.trans hj_mo_9 (by omega)) hq_mo_1 (by omega) htr0 hub0) q_cX12_134 q_dX12_isSign (by decide) rfl rfl hl.1 rfl (Nat.le_of_ble_eq_true rfl) dX12_closes_10 (fun y133 H locs f132 ry133 h134 hF hB => ?_)
        rcases h134 with h135 | h136
        · obtain ⟨rfl, qy133, t137⟩ := h135
          subst qy133
          refine q_ifeq (tgt := 60) cx ⟨by decide, by decide⟩ dX12_closes_13 (by decide) (fun c138 => ?_) (fun c138 => ?_)
          · exact absurd c138 (by omega)
          · obtain ⟨x139, ex139⟩ : ∃ zz, q_is (q_z f0 mo 35) zz := ⟨_, q_isr _⟩
            obtain ⟨lx139, ux139⟩ := q_isb ex139 (q_fib hB.2.1 hmo kmo (by decide) rfl)
            have hq0 : x139 + w0_mo_37 ≤ 2 * xw := by have h7 := hsc0.2.2.2; have h70 : _ = _ := ex139; have h71 : _ = _ := hj_mo_36; have h72 : _ = _ := hj_mo_37; omega
            have hbx : k_bl f0 f0 c1 c2 60 := k_bl_rf _ _ _ _
            have hbs : k_b1 f0 f0 cs x139 := k_b1_rf _ _ _
            refine q_ald_n cx dX12_closes_16 rfl (lv_at hl 0 rfl) ?_
            refine lv_dup cx.1 cx.2.1 dX12_closes_17 rfl ?_
            refine q_gX12_488 cx hB hmo kmo hj_mo_37 dX12_closes_18 (fun lb140 ub140 => ?_)
            refine q_iconst cx dX12_closes_21 ?_
            refine q_isub cx dX12_closes_22 ?_
            refine q_pX12_488 cx hB hmo kmo ⟨by omega, by omega⟩ (by omega) (by omega) rfl dX12_closes_23 (fun H locs f141 ef141 z142 hB => ?_)
            have z143 : q_is (q_z f141 mo 3) tn := by rw [ef141, q_setz (Or.inr (by decide))]; exact hj_mo_3
            have z144 : q_is (q_z f141 mo 5) w0_mo_5 := by rw [ef141, q_setz (Or.inr (by decide))]; exact hj_mo_5
            have z145 : q_is (q_z f141 mo 8) w0_mo_8 := by rw [ef141, q_setz (Or.inr (by decide))]; exact hj_mo_8
            have z146 : q_is (q_z f141 mo 9) w0_mo_9 := by rw [ef141, q_setz (Or.inr (by decide))]; exact hj_mo_9
            have z147 : q_is (q_z f141 mo 36) xw := by rw [ef141, q_setz (Or.inr (by decide))]; exact hj_mo_36
            have z148 : q_is (q_z f141 mo 35) x139 := by rw [ef141, q_setz (Or.inr (by decide))]; exact ex139
            have z149 : q_ir (q_r f141 mo 1) bu := by rw [ef141, q_setr (Or.inr (by decide))]; exact hq_mo_1
            have z150 : q_ir (q_r f141 mo 29) cs := by rw [ef141, q_setr (Or.inr (by decide))]; exact hq_mo_29
            have z151 : q_ir (q_r f141 mo 30) c1 := by rw [ef141, q_setr (Or.inr (by decide))]; exact hq_mo_30
            have z152 : q_ir (q_r f141 mo 31) c2 := by rw [ef141, q_setr (Or.inr (by decide))]; exact hq_mo_31
            have g153 : tk_tr f141 mo B tn := tk_tr_tr htr0 (by rw [ef141, q_setz (Or.inr (by decide))]) (by rw [ef141, q_setz (Or.inr (by decide))]) (by rw [ef141, q_setz (Or.inr (by decide))]) (by rw [ef141, q_setz (Or.inr (by decide))]) (by rw [ef141, q_setj (Or.inr (by decide))])
            have g154 : tk_ub f141 bu B tn := tk_ub_tr hub0 (fun i9 => by rw [ef141, q_setz (Or.inl (fun q => by rw [q, kmo] at kbu; exact absurd kbu (by decide)))])
            have g155 : k_bl f0 f141 c1 c2 60 := k_bl_tr hbx (fun i9 => by rw [ef141, q_setz (Or.inl (fun q => by rw [q, kmo] at kc1; exact absurd kc1 (by decide)))]) (fun i9 => by rw [ef141, q_setz (Or.inl (fun q => by rw [q, kmo] at kc2; exact absurd kc2 (by decide)))])
            have g156 : k_b1 f0 f141 cs x139 := k_b1_tr hbs (fun i9 => by rw [ef141, q_setz (Or.inl (fun q => by rw [q, kmo] at kcs; exact absurd kcs (by decide)))])
            refine q_ald_n cx dX12_closes_26 rfl (lv_at hl 0 rfl) ?_
            refine q_gX12_51 cx hB hmo kmo z150 dX12_closes_27 (fun hb157 kb157 => ?_)
            refine q_ald_n cx dX12_closes_30 rfl (lv_at hl 0 rfl) ?_
            refine q_gX12_494 cx hB hmo kmo z148 dX12_closes_31 (fun lb158 ub158 => ?_)
            refine q_bipush cx dX12_closes_34 rfl ?_
            refine q_iast (lo := 0) (hi := 7) (n := 60) cx hB hcs kcs (by decide) rfl rfl (by omega) (by omega) (by decide) rfl ⟨by decide, by decide⟩ (by decide) (by decide) (q_inWi (lo := 0) (hi := 59) (by decide) (by omega) (by omega)) dX12_closes_36 (fun H locs f159 ef159 z160 hB => ?_)
            have z161 : q_is (q_z f159 mo 3) tn := by rw [ef159, q_setz (Or.inl (fun q => by rw [q, kcs] at kmo; exact absurd kmo (by decide)))]; exact z143
            have z162 : q_is (q_z f159 mo 5) w0_mo_5 := by rw [ef159, q_setz (Or.inl (fun q => by rw [q, kcs] at kmo; exact absurd kmo (by decide)))]; exact z144
            have z163 : q_is (q_z f159 mo 8) w0_mo_8 := by rw [ef159, q_setz (Or.inl (fun q => by rw [q, kcs] at kmo; exact absurd kmo (by decide)))]; exact z145
            have z164 : q_is (q_z f159 mo 9) w0_mo_9 := by rw [ef159, q_setz (Or.inl (fun q => by rw [q, kcs] at kmo; exact absurd kmo (by decide)))]; exact z146
            have z165 : q_is (q_z f159 mo 36) xw := by rw [ef159, q_setz (Or.inl (fun q => by rw [q, kcs] at kmo; exact absurd kmo (by decide)))]; exact z147
            have z166 : q_is (q_z f159 mo 35) x139 := by rw [ef159, q_setz (Or.inl (fun q => by rw [q, kcs] at kmo; exact absurd kmo (by decide)))]; exact z148
            have z167 : q_is (q_z f159 mo 37) (w0_mo_37 - 1) := by rw [ef159, q_setz (Or.inl (fun q => by rw [q, kcs] at kmo; exact absurd kmo (by decide)))]; exact z142
            have z168 : q_ir (q_r f159 mo 1) bu := by rw [ef159, q_setr (Or.inl (fun q => by rw [q, kcs] at kmo; exact absurd kmo (by decide)))]; exact z149
            have z169 : q_ir (q_r f159 mo 29) cs := by rw [ef159, q_setr (Or.inl (fun q => by rw [q, kcs] at kmo; exact absurd kmo (by decide)))]; exact z150
            have z170 : q_ir (q_r f159 mo 30) c1 := by rw [ef159, q_setr (Or.inl (fun q => by rw [q, kcs] at kmo; exact absurd kmo (by decide)))]; exact z151
            have z171 : q_ir (q_r f159 mo 31) c2 := by rw [ef159, q_setr (Or.inl (fun q => by rw [q, kcs] at kmo; exact absurd kmo (by decide)))]; exact z152
            have g172 : tk_tr f159 mo B tn := tk_tr_tr g153 (by rw [ef159, q_setz (Or.inl (fun q => by rw [q, kcs] at kmo; exact absurd kmo (by decide)))]) (by rw [ef159, q_setz (Or.inl (fun q => by rw [q, kcs] at kmo; exact absurd kmo (by decide)))]) (by rw [ef159, q_setz (Or.inl (fun q => by rw [q, kcs] at kmo; exact absurd kmo (by decide)))]) (by rw [ef159, q_setz (Or.inl (fun q => by rw [q, kcs] at kmo; exact absurd kmo (by decide)))]) (by rw [ef159, q_setj (Or.inl (fun q => by rw [q, kcs] at kmo; exact absurd kmo (by decide)))])
            have g173 : tk_ub f159 bu B tn := tk_ub_tr g154 (fun i9 => by rw [ef159, q_setz (Or.inl (fun q => by rw [q, kcs] at kbu; exact absurd kbu (by decide)))])
            have g174 : k_bl f0 f159 c1 c2 60 := k_bl_tr g155 (fun i9 => by rw [ef159, q_setz (Or.inl (fun q => by rw [q, kcs] at kc1; exact absurd kc1 (by decide)))]) (fun i9 => by rw [ef159, q_setz (Or.inl (fun q => by rw [q, kcs] at kc2; exact absurd kc2 (by decide)))])
            have g175 : k_b1 f0 f159 cs x139 := k_b1_s g156 ef159 (by omega)
            refine q_ald_n cx dX12_closes_37 rfl (lv_at hl 0 rfl) ?_
            refine lv_dup cx.1 cx.2.1 dX12_closes_38 rfl ?_
            refine q_gX12_494 cx hB hmo kmo z166 dX12_closes_39 (fun lb176 ub176 => ?_)
            refine q_iconst cx dX12_closes_42 ?_
            refine q_iadd cx dX12_closes_43 ?_
            refine q_pX12_494 cx hB hmo kmo ⟨by omega, by omega⟩ (by omega) (by omega) rfl dX12_closes_44 (fun H locs f177 ef177 z178 hB => ?_)
            have z179 : q_is (q_z f177 mo 3) tn := by rw [ef177, q_setz (Or.inr (by decide))]; exact z161
            have z180 : q_is (q_z f177 mo 5) w0_mo_5 := by rw [ef177, q_setz (Or.inr (by decide))]; exact z162
            have z181 : q_is (q_z f177 mo 8) w0_mo_8 := by rw [ef177, q_setz (Or.inr (by decide))]; exact z163
            have z182 : q_is (q_z f177 mo 9) w0_mo_9 := by rw [ef177, q_setz (Or.inr (by decide))]; exact z164
            have z183 : q_is (q_z f177 mo 36) xw := by rw [ef177, q_setz (Or.inr (by decide))]; exact z165
            have z184 : q_is (q_z f177 mo 37) (w0_mo_37 - 1) := by rw [ef177, q_setz (Or.inr (by decide))]; exact z167
            have z185 : q_is (q_z f177 cs (Int.toNat x139)) 7 := by rw [ef177, q_setz (Or.inl (fun q => by rw [q, kmo] at kcs; exact absurd kcs (by decide)))]; exact z160
            have z186 : q_ir (q_r f177 mo 1) bu := by rw [ef177, q_setr (Or.inr (by decide))]; exact z168
            have z187 : q_ir (q_r f177 mo 29) cs := by rw [ef177, q_setr (Or.inr (by decide))]; exact z169
            have z188 : q_ir (q_r f177 mo 30) c1 := by rw [ef177, q_setr (Or.inr (by decide))]; exact z170
            have z189 : q_ir (q_r f177 mo 31) c2 := by rw [ef177, q_setr (Or.inr (by decide))]; exact z171
            have g190 : tk_tr f177 mo B tn := tk_tr_tr g172 (by rw [ef177, q_setz (Or.inr (by decide))]) (by rw [ef177, q_setz (Or.inr (by decide))]) (by rw [ef177, q_setz (Or.inr (by decide))]) (by rw [ef177, q_setz (Or.inr (by decide))]) (by rw [ef177, q_setj (Or.inr (by decide))])
            have g191 : tk_ub f177 bu B tn := tk_ub_tr g173 (fun i9 => by rw [ef177, q_setz (Or.inl (fun q => by rw [q, kmo] at kbu; exact absurd kbu (by decide)))])
            have g192 : k_bl f0 f177 c1 c2 60 := k_bl_tr g174 (fun i9 => by rw [ef177, q_setz (Or.inl (fun q => by rw [q, kmo] at kc1; exact absurd kc1 (by decide)))]) (fun i9 => by rw [ef177, q_setz (Or.inl (fun q => by rw [q, kmo] at kc2; exact absurd kc2 (by decide)))])
            have g193 : k_b1 f0 f177 cs x139 := k_b1_tr g175 (fun i9 => by rw [ef177, q_setz (Or.inl (fun q => by rw [q, kmo] at kcs; exact absurd kcs (by decide)))])
            have hsc9 : q_sc f177 mo cs c1 c2 := k_sc_cl hsc0 ex139 hj_mo_37 hj_mo_36 z178 z183 z184 (by omega) z185 g193 g192 (by omega) (by omega)
            refine q_ald_n cx dX12_closes_47 rfl (lv_at hl 0 rfl) ?_
            refine q_cVv (As := []) (rest := []) cx hB (fun _ h => h) hN hmo kmo (by decide) rfl (f_mon l g hN hB.2.1 B mo hmo kmo bu hbu kbu tn (by omega) (by omega) w0_mo_5 (by omega) (by omega) z179 z180 z186 g190 g191) q_cX12_140 q_dX12_goOn (by decide) rfl rfl hl.1 rfl (Nat.le_of_ble_eq_true rfl) dX12_closes_48 (fun H locs f194 h196 hF hB => ?_)
            obtain ⟨t197, g198⟩ := h196
            have z199 : q_is (q_z f194 mo 3) tn := Eq.trans (hF.z hmo (by rw [kmo]; rfl)) z179
            have z200 : q_is (q_z f194 mo 8) w0_mo_8 := Eq.trans (hF.z hmo (by rw [kmo]; rfl)) z181
            have z201 : q_is (q_z f194 mo 9) w0_mo_9 := Eq.trans (hF.z hmo (by rw [kmo]; rfl)) z182
            have z202 : q_is (q_z f194 mo 36) xw := Eq.trans (hF.z hmo (by rw [kmo]; rfl)) z183
            have z203 : q_is (q_z f194 mo 37) (w0_mo_37 - 1) := Eq.trans (hF.z hmo (by rw [kmo]; rfl)) z184
            have z204 : q_is (q_z f194 cs (Int.toNat x139)) 7 := Eq.trans (hF.z hcs (by rw [kcs]; rfl)) z185
            have z205 : q_is (q_z f194 mo 35) (x139 + 1) := Eq.trans (hF.z hmo (by rw [kmo]; rfl)) z178
            have z206 : q_ir (q_r f194 mo 1) bu := Eq.trans (hF.r hmo (by rw [kmo]; rfl)) z186
            have z207 : q_ir (q_r f194 mo 29) cs := Eq.trans (hF.r hmo (by rw [kmo]; rfl)) z187
            have z208 : q_ir (q_r f194 mo 30) c1 := Eq.trans (hF.r hmo (by rw [kmo]; rfl)) z188
            have z209 : q_ir (q_r f194 mo 31) c2 := Eq.trans (hF.r hmo (by rw [kmo]; rfl)) z189
            have g210 : tk_ub f194 bu B tn := tk_ub_tr g191 (fun i9 => hF.z hbu (by rw [kbu]; rfl))
            have g211 : q_sc f194 mo cs c1 c2 := q_sc_tr hsc9 (hF.z hmo (by rw [kmo]; rfl)) (hF.z hmo (by rw [kmo]; rfl)) (hF.z hmo (by rw [kmo]; rfl)) (fun i9 => hF.z hcs (by rw [kcs]; rfl)) (fun i9 => hF.z hc1 (by rw [kc1]; rfl)) (fun i9 => hF.z hc2 (by rw [kc2]; rfl))
            obtain ⟨x212, ex212⟩ : ∃ zz, q_is (q_z f194 mo 5) zz := ⟨_, q_isr _⟩
            obtain ⟨lx212, ux212⟩ := q_isb ex212 (q_fib hB.2.1 hmo kmo (by decide) rfl)
            obtain ⟨-, l0x212, u0x212, -, -⟩ := tk_tr_n g198 ex212
            refine q_ald_n cx dX12_closes_51 rfl (lv_at hl 0 rfl) ?_
            refine q_bipush cx dX12_closes_52 rfl ?_
            refine q_cVv (As := [.int (q_i 59)]) (rest := []) cx hB (fun _ h => h) hN hmo kmo (by decide) rfl (f_mmustSign l g hN hB.2.1 B mo hmo kmo 59 (by decide) (by decide) bu hbu kbu tn (by omega) (by omega) x212 (by omega) (by omega) z199 ex212 (Eq.trans z200 (by omega)) (Eq.trans z201 (by omega)) z206 (by omega) g198 g210) q_cX12_241 q_dX12_mustSign (by decide) rfl rfl hl.1 rfl (Nat.le_of_ble_eq_true rfl) dX12_closes_54 (fun H locs f213 h215 hF hB => ?_)
            rcases h215 with h216 | h217
            · obtain ⟨z218, z219, t220, g221⟩ := h216
              have z222 : q_is (q_z f213 mo 3) tn := Eq.trans (hF.z hmo (by rw [kmo]; rfl)) z199
              have z223 : q_is (q_z f213 mo 36) xw := Eq.trans (hF.z hmo (by rw [kmo]; rfl)) z202
              have z224 : q_is (q_z f213 mo 37) (w0_mo_37 - 1) := Eq.trans (hF.z hmo (by rw [kmo]; rfl)) z203
              have z225 : q_is (q_z f213 cs (Int.toNat x139)) 7 := Eq.trans (hF.z hcs (by rw [kcs]; rfl)) z204
              have z226 : q_is (q_z f213 mo 35) (x139 + 1) := Eq.trans (hF.z hmo (by rw [kmo]; rfl)) z205
              have z227 : q_ir (q_r f213 mo 1) bu := Eq.trans (hF.r hmo (by rw [kmo]; rfl)) z206
              have z228 : q_ir (q_r f213 mo 29) cs := Eq.trans (hF.r hmo (by rw [kmo]; rfl)) z207
              have z229 : q_ir (q_r f213 mo 30) c1 := Eq.trans (hF.r hmo (by rw [kmo]; rfl)) z208
              have z230 : q_ir (q_r f213 mo 31) c2 := Eq.trans (hF.r hmo (by rw [kmo]; rfl)) z209
              have g231 : tk_ub f213 bu B tn := tk_ub_tr g210 (fun i9 => hF.z hbu (by rw [kbu]; rfl))
              have g232 : q_sc f213 mo cs c1 c2 := q_sc_tr g211 (hF.z hmo (by rw [kmo]; rfl)) (hF.z hmo (by rw [kmo]; rfl)) (hF.z hmo (by rw [kmo]; rfl)) (fun i9 => hF.z hcs (by rw [kcs]; rfl)) (fun i9 => hF.z hc1 (by rw [kc1]; rfl)) (fun i9 => hF.z hc2 (by rw [kc2]; rfl))
              obtain ⟨x233, ex233⟩ : ∃ zz, q_is (q_z f213 mo 5) zz := ⟨_, q_isr _⟩
              obtain ⟨lx233, ux233⟩ := q_isb ex233 (q_fib hB.2.1 hmo kmo (by decide) rfl)
              obtain ⟨-, l0x233, u0x233, -, -⟩ := tk_tr_n g221 ex233
              have hss9 := tk_sx_in (B := B) (nl := nl9) (c := xw) (tk_sx_cl (d1 := w0_mo_37 - 1) (by omega) t137 (tk_cl_ok (tk_mk_ok t137 (Eq.trans (Eq.symm ex212) t197)) (tk_okx t220 ex233)) rfl) (by omega) (by omega)
              have hss8 : w0_mo_5 < x233 := hss9.1
              refine lv_goto (tgt := 0) cx.1 cx.2.1 dX12_closes_57 (by decide) ?_
              exact ih0 f213 x233 (by omega) (by omega) 0 (by decide) (by decide) (-1) (by decide) (by decide) (w0_mo_37 - 1) (by omega) (by omega) z222 ex233 z218 z219 z224 z223 z227 z228 z229 z230 g232 g221 g231 (by omega) (by omega) (by omega) (hcl.trans (tk_U_ok (by omega) (by omega) (tk_k41 t137) (tk_sx_cl (by omega) t137 (tk_cl_ok (tk_mk_ok t137 (Eq.trans (Eq.symm ex212) t197)) (tk_okx t220 ex233)) (by omega)))) (by omega) H locs hB ls (lv_sub hl [0] rfl)
            · obtain ⟨lz234, uz234, t235, g236⟩ := h217
              have z237 : q_is (q_z f213 mo 3) tn := Eq.trans (hF.z hmo (by rw [kmo]; rfl)) z199
              have z238 : q_is (q_z f213 mo 36) xw := Eq.trans (hF.z hmo (by rw [kmo]; rfl)) z202
              have z239 : q_is (q_z f213 mo 37) (w0_mo_37 - 1) := Eq.trans (hF.z hmo (by rw [kmo]; rfl)) z203
              have z240 : q_is (q_z f213 cs (Int.toNat x139)) 7 := Eq.trans (hF.z hcs (by rw [kcs]; rfl)) z204
              have z241 : q_is (q_z f213 mo 35) (x139 + 1) := Eq.trans (hF.z hmo (by rw [kmo]; rfl)) z205
              have z242 : q_ir (q_r f213 mo 1) bu := Eq.trans (hF.r hmo (by rw [kmo]; rfl)) z206
              have z243 : q_ir (q_r f213 mo 29) cs := Eq.trans (hF.r hmo (by rw [kmo]; rfl)) z207
              have z244 : q_ir (q_r f213 mo 30) c1 := Eq.trans (hF.r hmo (by rw [kmo]; rfl)) z208
              have z245 : q_ir (q_r f213 mo 31) c2 := Eq.trans (hF.r hmo (by rw [kmo]; rfl)) z209
              have g246 : tk_ub f213 bu B tn := tk_ub_tr g210 (fun i9 => hF.z hbu (by rw [kbu]; rfl))
              have g247 : q_sc f213 mo cs c1 c2 := q_sc_tr g211 (hF.z hmo (by rw [kmo]; rfl)) (hF.z hmo (by rw [kmo]; rfl)) (hF.z hmo (by rw [kmo]; rfl)) (fun i9 => hF.z hcs (by rw [kcs]; rfl)) (fun i9 => hF.z hc1 (by rw [kc1]; rfl)) (fun i9 => hF.z hc2 (by rw [kc2]; rfl))
              obtain ⟨x248, ex248⟩ : ∃ zz, q_is (q_z f213 mo 8) zz := ⟨_, q_isr _⟩
              obtain ⟨lx248, ux248⟩ := q_isb ex248 ⟨lz234, uz234⟩
              obtain ⟨x249, ex249⟩ : ∃ zz, q_is (q_z f213 mo 5) zz := ⟨_, q_isr _⟩
              obtain ⟨lx249, ux249⟩ := q_isb ex249 (q_fib hB.2.1 hmo kmo (by decide) rfl)
              obtain ⟨x250, ex250⟩ : ∃ zz, q_is (q_z f213 mo 9) zz := ⟨_, q_isr _⟩
              obtain ⟨lx250, ux250⟩ := q_isb ex250 (q_fib hB.2.1 hmo kmo (by decide) rfl)
              obtain ⟨-, l0x249, u0x249, -, -⟩ := tk_tr_n g236 ex249
              refine lv_goto (tgt := 0) cx.1 cx.2.1 dX12_closes_57 (by decide) ?_
              refine q_ald_n cx dX12_closes_0 rfl (lv_at hl 0 rfl) ?_
              refine q_gX12_488 cx hB hmo kmo z239 dX12_closes_1 (fun lb251 ub251 => ?_)
              refine q_ifle (tgt := 60) cx ⟨by omega, by omega⟩ dX12_closes_4 (by decide) (fun c252 => ?_) (fun c252 => ?_)
              · refine q_vret cx hr hlk hB dX12_closes_60 ?_
                exact (Or.inr ⟨(q_isl ex248 (by omega)), (q_isu ex248 (by omega)), (tk_erp (hcl.trans (tk_U_er (tk_k41 t137) (tk_sx_cle (by omega) t137 (tk_cl_e2 (tk_mk_ok t137 (Eq.trans (Eq.symm ex212) t197)) (tk_erx t235 ex248 ex250))))) ex248 ex250), g236⟩)
              · refine q_ald_n cx dX12_closes_7 rfl (lv_at hl 0 rfl) ?_
                refine q_bipush cx dX12_closes_8 rfl ?_
                refine q_cVi (As := [.int (q_i 41)]) (rest := []) cx hB (fun _ h => h) hN hmo kmo (by decide) rfl (r_isSign1 l g hN hB.2.1 mo hmo kmo 41 (by decide) (by decide) x248 (by omega) (by omega) ex248) q_cX12_134 q_dX12_isSign (by decide) rfl rfl hl.1 rfl (Nat.le_of_ble_eq_true rfl) dX12_closes_10 (fun y254 H locs f253 ry254 h255 hF hB => ?_)
                obtain ⟨rfl, qy254⟩ := h255
                subst qy254
                refine q_ifeq (tgt := 60) cx ⟨by decide, by decide⟩ dX12_closes_13 (by decide) (fun c256 => ?_) (fun c256 => ?_)
                · refine q_vret cx hr hlk hB dX12_closes_60 ?_
                  exact (Or.inr ⟨(q_isl ex248 (by omega)), (q_isu ex248 (by omega)), (tk_erp (hcl.trans (tk_U_er (tk_k41 t137) (tk_sx_cle (by omega) t137 (tk_cl_e2 (tk_mk_ok t137 (Eq.trans (Eq.symm ex212) t197)) (tk_erx t235 ex248 ex250))))) ex248 ex250), g236⟩)
                · exact absurd c256 (by omega)
        · obtain ⟨rfl, qy133, t257⟩ := h136
          subst qy133
          refine q_ifeq (tgt := 60) cx ⟨by decide, by decide⟩ dX12_closes_13 (by decide) (fun c258 => ?_) (fun c258 => ?_)
          · refine q_vret cx hr hlk hB dX12_closes_60 ?_
            exact (Or.inl ⟨(Eq.trans hj_mo_8 (by omega)), (Eq.trans hj_mo_9 (by omega)), hj_mo_36, (q_isl hj_mo_37 (by omega)), (q_isu hj_mo_37 (by omega)), (tk_U_w hcl hj_mo_5 hj_mo_37), (tk_ncl_k t257 hj_mo_5 hj_mo_37), (q_isl hj_mo_5 (by omega)), (q_isu hj_mo_37 (by omega)), hsc0, htr0⟩)
          · exact absurd c258 (by omega)
  obtain ⟨H, hH⟩ : ∃ H : Heap, H = s.heap := ⟨_, rfl⟩
  obtain ⟨locs, hlocs⟩ : ∃ z : List Loc, z = [] := ⟨_, rfl⟩
  rw [← hH, ← hlocs] at hB
  rw [← hH, ← hlocs]
  obtain ⟨-, l0ss, u0ss, -, -⟩ := tk_tr_n htr hf1
  exact J0 ((Int.toNat (xo)) + 1) f ss (by omega) (by omega) 0 (by decide) (by decide) (-1) (by decide) (by decide) xo (by omega) (by omega) hf0 hf1 hf2 hf3 hf4 hf5 hr0 hr1 hr2 hr3 hsc htr hub (by omega) (by omega) (by omega) rfl (Nat.lt_succ_self _) H locs hB ls (lv_sub hl [0] rfl)
