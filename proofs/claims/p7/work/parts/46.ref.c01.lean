set_option maxHeartbeats 4000000 in
set_option maxRecDepth 100000 in
theorem r_tellNode (l : Launch) (g : q_G) {K : Nat → Nat} {L : List Nat} (hN : L.Nodup) {f : Nat → va_E} (hT : q_Ty g K L f) (mo : Nat) (hmo : mo ∈ L) (kmo : K mo = 12) (a0 : Int) (la0 : 0 ≤ a0) (ua0 : a0 ≤ 9) (sr : Nat) (hsr : sr ∈ L) (ksr : K sr = 151) (nm : Nat) (hnm : nm ∈ L) (knm : K nm = 156) (rp : Nat) (hrp : rp ∈ L) (krp : K rp = 167) (xr : Int) (lxr : 0 ≤ xr) (uxr : xr ≤ 447) (xm : Int) (lxm : 0 ≤ xm) (uxm : xm ≤ 60) (hf0 : q_is (q_z f mo 39) xr) (hf1 : q_is (q_z f sr 4) xm) (hr0 : q_ir (q_r f mo 13) sr) (hr1 : q_ir (q_r f mo 18) nm) (hr2 : q_ir (q_r f mo 38) rp) (hp0 : xr ≤ 23 * a0 + 4 * k_cl f sr a0 60) (hgr : q_gr f sr) : q_Ct l g K L yX12_tellNode cX12_tellNode 3 none 6 133 [.ref mo, .int (q_i a0)] f [(12, 39, 39), (167, 0, 479)] (q_Pv (fun (f1 : Nat → va_E) => 0 ≤ q_z f1 mo 39 ∧ q_z f1 mo 39 ≤ 480 ∧ (q_z f1 mo 39 ≤ 23 * (a0 + 1) + 4 * k_cl f1 sr (a0 + 1) 60))) := by
  refine q_ofb (by decide +kernel) hN hT (Nat.le_of_ble_eq_true rfl) ?_
  intro p e s m below meth c ls cx hr hlk hB hl
  have hl : lv_has ls 3 [(0, .ref mo), (1, .int (q_i a0))] := hl
  have J82 : ∀ (n : Nat) (f82 : Nat → va_E) (v82_2 : Int) (lv82_2 : 0 ≤ v82_2) (uv82_2 : v82_2 ≤ 60) (w82_mo_39 : Int) (lw82_mo_39 : 0 ≤ w82_mo_39) (uw82_mo_39 : w82_mo_39 ≤ 480) (hj_sr_4 : q_is (q_z f82 sr 4) xm) (hj_mo_39 : q_is (q_z f82 mo 39) w82_mo_39) (hq_mo_13 : q_ir (q_r f82 mo 13) sr) (hq_mo_18 : q_ir (q_r f82 mo 18) nm) (hq_mo_38 : q_ir (q_r f82 mo 38) rp) (hgr82 : q_gr f82 sr) (hct : w82_mo_39 ≤ xr + 22 + 4 * k_ct f sr a0 (Int.toNat v82_2)) (hmu : (Int.toNat (2147483647 - v82_2)) < n) (H : Heap) (locs : List Loc) (hB : q_B g K L (fun q => q ∈ L) [(12, 39, 39), (167, 0, 479)] f f82 s H locs) (ls : Array Slot) (hl : lv_has ls 3 [(0, .ref mo), (1, .int (q_i a0)), (2, .int (q_i v82_2))]), W p l e { frames := 6, cells := 0, slots := 0, locals := 133 } s m ([.ref mo, .int (q_i a0)] : List Value).toArray below meth c H locs 0 0 (MQ below (q_Q g K L [(12, 39, 39), (167, 0, 479)] f (q_Pv (fun (f1 : Nat → va_E) => 0 ≤ q_z f1 mo 39 ∧ q_z f1 mo 39 ≤ 480 ∧ (q_z f1 mo 39 ≤ 23 * (a0 + 1) + 4 * k_cl f1 sr (a0 + 1) 60)))) ([.ref mo, .int (q_i a0)] : List Value).toArray s 0 0 (fun q => q ∈ L)) (F0 m 82 ls []) := by
    intro n
    induction n with
    | zero =>
      intro f82 v82_2 lv82_2 uv82_2 w82_mo_39 lw82_mo_39 uw82_mo_39 hj_sr_4 hj_mo_39 hq_mo_13 hq_mo_18 hq_mo_38 hgr82 hct hmu
      exact absurd hmu (Nat.not_lt_zero _)
    | succ n ih82 =>
      intro f82 v82_2 lv82_2 uv82_2 w82_mo_39 lw82_mo_39 uw82_mo_39 hj_sr_4 hj_mo_39 hq_mo_13 hq_mo_18 hq_mo_38 hgr82 hct hmu H locs hB ls hl
      refine q_ild_n cx dX12_tellNode_82 rfl (lv_at hl 2 rfl) ?_
      refine q_ald_n cx dX12_tellNode_83 rfl (lv_at hl 0 rfl) ?_
      refine q_gX12_20 cx hB hmo kmo hq_mo_13 dX12_tellNode_84 (fun hb1163 kb1163 => ?_)
      refine q_iconst cx dX12_tellNode_87 ?_
      refine q_iald (lo := (-2147483648)) (hi := 2147483647) (n := 658) cx hB hsr ksr (by decide) rfl rfl (by decide) (by decide) (by decide) rfl hj_sr_4 dX12_tellNode_88 (fun lb1165 ub1165 => ?_)
      refine q_icge (tgt := 137) cx ⟨by omega, by omega⟩ ⟨by omega, by omega⟩ dX12_tellNode_89 (by decide) (fun c1166 => ?_) (fun c1166 => ?_)
      · have hq9 := k_ct_le f sr a0 (m := Int.toNat v82_2) (m2 := 60) (by omega)
        have h7 := hp0
        have h8 := k_cl_1 (f := f) (sr := sr) (n := a0) 60
        have h9 := k_cl_le (f := f) (sr := sr) (n := a0 + 1) 60
        have hend : w82_mo_39 + 1 ≤ 23 * (a0 + 1) + 4 * k_cl f sr (a0 + 1) 60 := by omega
        have hw9 : w82_mo_39 ≤ 469 := by omega
        refine q_ald_n cx dX12_tellNode_137 rfl (lv_at hl 0 rfl) ?_
        refine q_bipush cx dX12_tellNode_138 rfl ?_
        refine q_cVv (As := [.int (q_i 10)]) (rest := []) cx hB (fun _ h => h) hN hmo kmo (by decide) rfl (r_tell l g hN hB.2.1 mo hmo kmo 10 (by decide) (by decide) rp hrp krp w82_mo_39 (by omega) (by omega) hj_mo_39 hq_mo_38) q_cX12_518 q_dX12_tell (by decide) rfl rfl hl.1 rfl (Nat.le_of_ble_eq_true rfl) dX12_tellNode_140 (fun H locs f1167 h1169 hF hB => ?_)
        have z1170 := h1169
        have z1171 : q_is (q_z f1167 sr 4) xm := Eq.trans (hF.z hsr (by rw [ksr]; rfl)) hj_sr_4
        have z1172 : q_ir (q_r f1167 mo 13) sr := Eq.trans (hF.r hmo (by rw [kmo]; rfl)) hq_mo_13
        have z1173 : q_ir (q_r f1167 mo 18) nm := Eq.trans (hF.r hmo (by rw [kmo]; rfl)) hq_mo_18
        have z1174 : q_ir (q_r f1167 mo 38) rp := Eq.trans (hF.r hmo (by rw [kmo]; rfl)) hq_mo_38
        have g1175 : q_gr f1167 sr := q_gr_fr hgr82 (fun i9 _ => hF.z hsr (by rw [ksr]; rfl))
        refine q_vret cx hr hlk hB dX12_tellNode_143 ?_
        exact ⟨(q_isl z1170 (by omega)), (q_isu z1170 (by omega)), (q_isu z1170 (by rw [k_cl_fr (fun i => hB.2.2.z hsr (by rw [ksr]; rfl))]; omega))⟩
      · refine q_ald_n cx dX12_tellNode_92 rfl (lv_at hl 0 rfl) ?_
        refine q_ild_n cx dX12_tellNode_93 rfl (lv_at hl 2 rfl) ?_
        refine q_ild_n cx dX12_tellNode_94 rfl (lv_at hl 1 rfl) ?_
        refine q_cVi (As := [.int (q_i v82_2), .int (q_i a0)]) (rest := []) cx hB (fun _ h => h) hN hmo kmo (by decide) rfl (r_isUnderWayAt l g hN hB.2.1 mo hmo kmo v82_2 (by omega) (by omega) a0 (by omega) (by omega) sr hsr ksr hq_mo_13 hgr82) q_cX12_352 q_dX12_isUnderWayAt (by decide) rfl rfl hl.1 rfl (Nat.le_of_ble_eq_true rfl) dX12_tellNode_95 (fun y1177 H locs f1176 ry1177 h1178 hF hB => ?_)
        rcases h1178 with h1179 | h1180
        · obtain ⟨rfl, qy1177, t1181⟩ := h1179
          subst qy1177
          refine q_ifne (tgt := 104) cx ⟨by decide, by decide⟩ dX12_tellNode_98 (by decide) (fun c1182 => ?_) (fun c1182 => ?_)
          · have hu : k_uw f sr v82_2 a0 := k_uw_fr t1181 (fun i => hB.2.2.z hsr (by rw [ksr]; rfl))
            have hs9 := k_ct_1 hu (by omega)
            have hq9 := k_ct_le f sr a0 (m := Int.toNat (v82_2 + 1)) (m2 := 60) (by omega)
            have h7 := hp0
            have h8 := k_cl_1 (f := f) (sr := sr) (n := a0) 60
            have h9 := k_cl_le (f := f) (sr := sr) (n := a0 + 1) 60
            have hw9 : w82_mo_39 ≤ 465 := by omega
            refine q_ald_n cx dX12_tellNode_104 rfl (lv_at hl 0 rfl) ?_
            refine q_bipush cx dX12_tellNode_105 rfl ?_
            refine q_cVv (As := [.int (q_i 32)]) (rest := []) cx hB (fun _ h => h) hN hmo kmo (by decide) rfl (r_tell l g hN hB.2.1 mo hmo kmo 32 (by decide) (by decide) rp hrp krp w82_mo_39 (by omega) (by omega) hj_mo_39 hq_mo_38) q_cX12_518 q_dX12_tell (by decide) rfl rfl hl.1 rfl (Nat.le_of_ble_eq_true rfl) dX12_tellNode_107 (fun H locs f1183 h1185 hF hB => ?_)
            have z1186 := h1185
            have z1187 : q_is (q_z f1183 sr 4) xm := Eq.trans (hF.z hsr (by rw [ksr]; rfl)) hj_sr_4
            have z1188 : q_ir (q_r f1183 mo 13) sr := Eq.trans (hF.r hmo (by rw [kmo]; rfl)) hq_mo_13
            have z1189 : q_ir (q_r f1183 mo 18) nm := Eq.trans (hF.r hmo (by rw [kmo]; rfl)) hq_mo_18
            have z1190 : q_ir (q_r f1183 mo 38) rp := Eq.trans (hF.r hmo (by rw [kmo]; rfl)) hq_mo_38
            have g1191 : q_gr f1183 sr := q_gr_fr hgr82 (fun i9 _ => hF.z hsr (by rw [ksr]; rfl))
            refine q_ald_n cx dX12_tellNode_110 rfl (lv_at hl 0 rfl) ?_
            refine q_ild_n cx dX12_tellNode_111 rfl (lv_at hl 2 rfl) ?_
            refine q_cVv (As := [.int (q_i v82_2)]) (rest := []) cx hB (fun _ h => h) hN hmo kmo (by decide) rfl (r_tellNumber2 l g hN hB.2.1 mo hmo kmo v82_2 (by omega) (by omega) rp hrp krp (w82_mo_39 + 1) (by omega) (by omega) z1186 z1190) q_cX12_521 q_dX12_tellNumber (by decide) rfl rfl hl.1 rfl (Nat.le_of_ble_eq_true rfl) dX12_tellNode_112 (fun H locs f1192 h1194 hF hB => ?_)
            obtain ⟨dz1195, lz1195, uz1195, z1195⟩ := h1194
            have z1196 : q_is (q_z f1192 sr 4) xm := Eq.trans (hF.z hsr (by rw [ksr]; rfl)) z1187
            have z1197 : q_ir (q_r f1192 mo 13) sr := Eq.trans (hF.r hmo (by rw [kmo]; rfl)) z1188
            have z1198 : q_ir (q_r f1192 mo 18) nm := Eq.trans (hF.r hmo (by rw [kmo]; rfl)) z1189
            have z1199 : q_ir (q_r f1192 mo 38) rp := Eq.trans (hF.r hmo (by rw [kmo]; rfl)) z1190
            have g1200 : q_gr f1192 sr := q_gr_fr g1191 (fun i9 _ => hF.z hsr (by rw [ksr]; rfl))
            refine q_ald_n cx dX12_tellNode_115 rfl (lv_at hl 0 rfl) ?_
            refine q_ild_n cx dX12_tellNode_116 rfl (lv_at hl 2 rfl) ?_
            refine q_iconst cx dX12_tellNode_117 ?_
            refine q_cVi (As := [.int (q_i v82_2), .int (q_i 5)]) (rest := []) cx hB (fun _ h => h) hN hmo kmo (by decide) rfl (r_ofMessage5 l g hN hB.2.1 mo hmo kmo v82_2 (by omega) (by omega) 5 (by decide) (by decide) sr hsr ksr z1197 g1200) q_cX12_308 q_dX12_ofMessage (by decide) rfl rfl hl.1 rfl (Nat.le_of_ble_eq_true rfl) dX12_tellNode_118 (fun y1202 H locs f1201 ry1202 h1203 hF hB => ?_)
            obtain ⟨rfl, ly1202, uy1202⟩ := h1203
            refine q_iconst cx dX12_tellNode_121 ?_
            refine q_icne (tgt := 131) cx ⟨by omega, by omega⟩ ⟨by decide, by decide⟩ dX12_tellNode_122 (by decide) (fun c1204 => ?_) (fun c1204 => ?_)
            · refine q_iinc (lv' := [(2, .int (q_i (v82_2 + 1))), (0, .ref mo), (1, .int (q_i a0))]) cx dX12_tellNode_131 hl (k := 2) rfl (by decide) rfl (fun ls hl => ?_)
              refine lv_goto (tgt := 82) cx.1 cx.2.1 dX12_tellNode_134 (by decide) ?_
              exact ih82 f1192 (v82_2 + 1) (by omega) (by omega) ((w82_mo_39 + 1) + dz1195) (by omega) (by omega) z1196 z1195 z1197 z1198 z1199 g1200 (by omega) (by omega) H locs hB ls (lv_sub hl [1, 2, 0] rfl)
            · refine q_ald_n cx dX12_tellNode_125 rfl (lv_at hl 0 rfl) ?_
              refine q_bipush cx dX12_tellNode_126 rfl ?_
              refine q_cVv (As := [.int (q_i 33)]) (rest := []) cx hB (fun _ h => h) hN hmo kmo (by decide) rfl (r_tell l g hN hB.2.1 mo hmo kmo 33 (by decide) (by decide) rp hrp krp ((w82_mo_39 + 1) + dz1195) (by omega) (by omega) z1195 z1199) q_cX12_518 q_dX12_tell (by decide) rfl rfl hl.1 rfl (Nat.le_of_ble_eq_true rfl) dX12_tellNode_128 (fun H locs f1205 h1207 hF hB => ?_)
              have z1208 := h1207
              have z1209 : q_is (q_z f1205 sr 4) xm := Eq.trans (hF.z hsr (by rw [ksr]; rfl)) z1196
              have z1210 : q_ir (q_r f1205 mo 13) sr := Eq.trans (hF.r hmo (by rw [kmo]; rfl)) z1197
              have z1211 : q_ir (q_r f1205 mo 18) nm := Eq.trans (hF.r hmo (by rw [kmo]; rfl)) z1198
              have z1212 : q_ir (q_r f1205 mo 38) rp := Eq.trans (hF.r hmo (by rw [kmo]; rfl)) z1199
              have g1213 : q_gr f1205 sr := q_gr_fr g1200 (fun i9 _ => hF.z hsr (by rw [ksr]; rfl))
              refine q_iinc (lv' := [(2, .int (q_i (v82_2 + 1))), (0, .ref mo), (1, .int (q_i a0))]) cx dX12_tellNode_131 hl (k := 2) rfl (by decide) rfl (fun ls hl => ?_)
              refine lv_goto (tgt := 82) cx.1 cx.2.1 dX12_tellNode_134 (by decide) ?_
              exact ih82 f1205 (v82_2 + 1) (by omega) (by omega) (((w82_mo_39 + 1) + dz1195) + 1) (by omega) (by omega) z1209 z1208 z1210 z1211 z1212 g1213 (by omega) (by omega) H locs hB ls (lv_sub hl [1, 2, 0] rfl)
          · exact absurd c1182 (by omega)
        · obtain ⟨rfl, qy1177⟩ := h1180
          subst qy1177
          refine q_ifne (tgt := 104) cx ⟨by decide, by decide⟩ dX12_tellNode_98 (by decide) (fun c1214 => ?_) (fun c1214 => ?_)
          · exact absurd c1214 (by omega)
          · refine lv_goto (tgt := 131) cx.1 cx.2.1 dX12_tellNode_101 (by decide) ?_
            refine q_iinc (lv' := [(2, .int (q_i (v82_2 + 1))), (0, .ref mo), (1, .int (q_i a0))]) cx dX12_tellNode_131 hl (k := 2) rfl (by decide) rfl (fun ls hl => ?_)
            refine lv_goto (tgt := 82) cx.1 cx.2.1 dX12_tellNode_134 (by decide) ?_
            exact ih82 f82 (v82_2 + 1) (by omega) (by omega) w82_mo_39 (by omega) (by omega) hj_sr_4 hj_mo_39 hq_mo_13 hq_mo_18 hq_mo_38 hgr82 (k_rb1 hct (by omega)) (by omega) H locs hB ls (lv_sub hl [1, 2, 0] rfl)
  have J2 : ∀ (n : Nat) (f2 : Nat → va_E) (v2_2 : Int) (lv2_2 : 0 ≤ v2_2) (uv2_2 : v2_2 ≤ 13) (w2_mo_39 : Int) (lw2_mo_39 : 0 ≤ w2_mo_39) (uw2_mo_39 : w2_mo_39 ≤ 460) (hj_mo_39 : q_is (q_z f2 mo 39) w2_mo_39) (hj_sr_4 : q_is (q_z f2 sr 4) xm) (hq_mo_13 : q_ir (q_r f2 mo 13) sr) (hq_mo_18 : q_ir (q_r f2 mo 18) nm) (hq_mo_38 : q_ir (q_r f2 mo 38) rp) (hgr2 : q_gr f2 sr) (hrl2_0 : 0 ≤ 1 * w2_mo_39 + -1 * xr + -1 * v2_2 + 0 ∧ 1 * w2_mo_39 + -1 * xr + -1 * v2_2 + 0 ≤ 0) (hmu : (Int.toNat (14 - v2_2)) < n) (H : Heap) (locs : List Loc) (hB : q_B g K L (fun q => q ∈ L) [(12, 39, 39), (167, 0, 479)] f f2 s H locs) (ls : Array Slot) (hl : lv_has ls 3 [(0, .ref mo), (1, .int (q_i a0)), (2, .int (q_i v2_2))]), W p l e { frames := 6, cells := 0, slots := 0, locals := 133 } s m ([.ref mo, .int (q_i a0)] : List Value).toArray below meth c H locs 0 0 (MQ below (q_Q g K L [(12, 39, 39), (167, 0, 479)] f (q_Pv (fun (f1 : Nat → va_E) => 0 ≤ q_z f1 mo 39 ∧ q_z f1 mo 39 ≤ 480 ∧ (q_z f1 mo 39 ≤ 23 * (a0 + 1) + 4 * k_cl f1 sr (a0 + 1) 60)))) ([.ref mo, .int (q_i a0)] : List Value).toArray s 0 0 (fun q => q ∈ L)) (F0 m 2 ls []) := by
    intro n
    induction n with
    | zero =>
      intro f2 v2_2 lv2_2 uv2_2 w2_mo_39 lw2_mo_39 uw2_mo_39 hj_mo_39 hj_sr_4 hq_mo_13 hq_mo_18 hq_mo_38 hgr2 hrl2_0 hmu
      exact absurd hmu (Nat.not_lt_zero _)
    | succ n ih2 =>
      intro f2 v2_2 lv2_2 uv2_2 w2_mo_39 lw2_mo_39 uw2_mo_39 hj_mo_39 hj_sr_4 hq_mo_13 hq_mo_18 hq_mo_38 hgr2 hrl2_0 hmu H locs hB ls hl
      refine q_ild_n cx dX12_tellNode_2 rfl (lv_at hl 2 rfl) ?_
      refine q_ald_n cx dX12_tellNode_3 rfl (lv_at hl 0 rfl) ?_
      refine q_gX12_35 cx hB hmo kmo hq_mo_18 dX12_tellNode_4 (fun hb1215 kb1215 => ?_)
      refine q_ild_n cx dX12_tellNode_7 rfl (lv_at hl 1 rfl) ?_
      obtain ⟨j1216, ej1216⟩ : ∃ zz, q_j f2 nm (Int.toNat a0) = zz := ⟨_, rfl⟩
      refine q_lald (n := 10) cx hB hnm knm (by decide) rfl rfl (by omega) (by omega) (by decide) rfl ej1216 dX12_tellNode_8 ?_
      refine q_cSi (As := [.long j1216]) (rest := [.int (q_i v2_2)]) cx hB (fun _ h => h) hN (r_lettersOf l g hN hB.2.1 j1216) q_cX12_378 q_dX12_lettersOf (by decide) rfl rfl hl.1 rfl (Nat.le_of_ble_eq_true rfl) dX12_tellNode_9 (fun y1218 H locs f1217 ry1218 h1219 hF hB => ?_)
      obtain ⟨rfl, ly1218, uy1218⟩ := h1219
      refine q_icge (tgt := 35) cx ⟨by omega, by omega⟩ ⟨by omega, by omega⟩ dX12_tellNode_12 (by decide) (fun c1220 => ?_) (fun c1220 => ?_)
      · refine q_ald_n cx dX12_tellNode_35 rfl (lv_at hl 0 rfl) ?_
        refine q_bipush cx dX12_tellNode_36 rfl ?_
        refine q_cVv (As := [.int (q_i 32)]) (rest := []) cx hB (fun _ h => h) hN hmo kmo (by decide) rfl (r_tell l g hN hB.2.1 mo hmo kmo 32 (by decide) (by decide) rp hrp krp w2_mo_39 (by omega) (by omega) hj_mo_39 hq_mo_38) q_cX12_518 q_dX12_tell (by decide) rfl rfl hl.1 rfl (Nat.le_of_ble_eq_true rfl) dX12_tellNode_38 (fun H locs f1221 h1223 hF hB => ?_)
        have z1224 := h1223
        have z1225 : q_is (q_z f1221 sr 4) xm := Eq.trans (hF.z hsr (by rw [ksr]; rfl)) hj_sr_4
        have z1226 : q_ir (q_r f1221 mo 13) sr := Eq.trans (hF.r hmo (by rw [kmo]; rfl)) hq_mo_13
        have z1227 : q_ir (q_r f1221 mo 18) nm := Eq.trans (hF.r hmo (by rw [kmo]; rfl)) hq_mo_18
        have z1228 : q_ir (q_r f1221 mo 38) rp := Eq.trans (hF.r hmo (by rw [kmo]; rfl)) hq_mo_38
        have g1229 : q_gr f1221 sr := q_gr_fr hgr2 (fun i9 _ => hF.z hsr (by rw [ksr]; rfl))
        refine q_ald_n cx dX12_tellNode_41 rfl (lv_at hl 0 rfl) ?_
        refine q_ald_n cx dX12_tellNode_42 rfl (lv_at hl 0 rfl) ?_
        refine q_ild_n cx dX12_tellNode_43 rfl (lv_at hl 1 rfl) ?_
        refine q_cVi (As := [.int (q_i a0)]) (rest := [.ref mo]) cx hB (fun _ h => h) hN hmo kmo (by decide) rfl (r_dayOf l g hN hB.2.1 mo hmo kmo a0 (by omega) (by omega) sr hsr ksr z1226 g1229) q_cX12_289 q_dX12_dayOf (by decide) rfl rfl hl.1 rfl (Nat.le_of_ble_eq_true rfl) dX12_tellNode_44 (fun y1231 H locs f1230 ry1231 h1232 hF hB => ?_)
        obtain ⟨rfl, ly1231, uy1231⟩ := h1232
        refine q_cVv (As := [.int (q_i y1231)]) (rest := []) cx hB (fun _ h => h) hN hmo kmo (by decide) rfl (r_tellNumber2 l g hN hB.2.1 mo hmo kmo y1231 (by omega) (by omega) rp hrp krp (w2_mo_39 + 1) (by omega) (by omega) z1224 z1228) q_cX12_521 q_dX12_tellNumber (by decide) rfl rfl hl.1 rfl (Nat.le_of_ble_eq_true rfl) dX12_tellNode_47 (fun H locs f1233 h1235 hF hB => ?_)
        obtain ⟨dz1236, lz1236, uz1236, z1236⟩ := h1235
        have z1237 : q_is (q_z f1233 sr 4) xm := Eq.trans (hF.z hsr (by rw [ksr]; rfl)) z1225
        have z1238 : q_ir (q_r f1233 mo 13) sr := Eq.trans (hF.r hmo (by rw [kmo]; rfl)) z1226
        have z1239 : q_ir (q_r f1233 mo 18) nm := Eq.trans (hF.r hmo (by rw [kmo]; rfl)) z1227
        have z1240 : q_ir (q_r f1233 mo 38) rp := Eq.trans (hF.r hmo (by rw [kmo]; rfl)) z1228
        have g1241 : q_gr f1233 sr := q_gr_fr g1229 (fun i9 _ => hF.z hsr (by rw [ksr]; rfl))
        refine q_ald_n cx dX12_tellNode_50 rfl (lv_at hl 0 rfl) ?_
        refine q_bipush cx dX12_tellNode_51 rfl ?_
        refine q_cVv (As := [.int (q_i 47)]) (rest := []) cx hB (fun _ h => h) hN hmo kmo (by decide) rfl (r_tell l g hN hB.2.1 mo hmo kmo 47 (by decide) (by decide) rp hrp krp ((w2_mo_39 + 1) + dz1236) (by omega) (by omega) z1236 z1240) q_cX12_518 q_dX12_tell (by decide) rfl rfl hl.1 rfl (Nat.le_of_ble_eq_true rfl) dX12_tellNode_53 (fun H locs f1242 h1244 hF hB => ?_)
        have z1245 := h1244
        have z1246 : q_is (q_z f1242 sr 4) xm := Eq.trans (hF.z hsr (by rw [ksr]; rfl)) z1237
        have z1247 : q_ir (q_r f1242 mo 13) sr := Eq.trans (hF.r hmo (by rw [kmo]; rfl)) z1238
        have z1248 : q_ir (q_r f1242 mo 18) nm := Eq.trans (hF.r hmo (by rw [kmo]; rfl)) z1239
        have z1249 : q_ir (q_r f1242 mo 38) rp := Eq.trans (hF.r hmo (by rw [kmo]; rfl)) z1240
        have g1250 : q_gr f1242 sr := q_gr_fr g1241 (fun i9 _ => hF.z hsr (by rw [ksr]; rfl))
        refine q_ald_n cx dX12_tellNode_56 rfl (lv_at hl 0 rfl) ?_
        refine q_ald_n cx dX12_tellNode_57 rfl (lv_at hl 0 rfl) ?_
        refine q_ild_n cx dX12_tellNode_58 rfl (lv_at hl 1 rfl) ?_
        refine q_iconst cx dX12_tellNode_59 ?_
        refine q_cVi (As := [.int (q_i a0), .int (q_i 2)]) (rest := [.ref mo]) cx hB (fun _ h => h) hN hmo kmo (by decide) rfl (r_ofNode2 l g hN hB.2.1 mo hmo kmo a0 (by omega) (by omega) 2 (by decide) (by decide) sr hsr ksr z1247 g1250) q_cX12_256 q_dX12_ofNode (by decide) rfl rfl hl.1 rfl (Nat.le_of_ble_eq_true rfl) dX12_tellNode_60 (fun y1252 H locs f1251 ry1252 h1253 hF hB => ?_)
        obtain ⟨rfl, ly1252, uy1252, t1254⟩ := h1253
        by_cases c1255 : y1252 ≤ (-1)
        · refine q_cVv (As := [.int (q_i y1252)]) (rest := []) cx hB (fun _ h => h) hN hmo kmo (by decide) rfl (r_tellNumbern l g hN hB.2.1 mo hmo kmo y1252 (by omega) (by omega) rp hrp krp (((w2_mo_39 + 1) + dz1236) + 1) (by omega) (by omega) z1245 z1249) q_cX12_521 q_dX12_tellNumber (by decide) rfl rfl hl.1 rfl (Nat.le_of_ble_eq_true rfl) dX12_tellNode_63 (fun H locs f1256 h1258 hF hB => ?_)
          obtain ⟨dz1259, lz1259, uz1259, z1259⟩ := h1258
          have z1260 : q_is (q_z f1256 sr 4) xm := Eq.trans (hF.z hsr (by rw [ksr]; rfl)) z1246
          have z1261 : q_ir (q_r f1256 mo 13) sr := Eq.trans (hF.r hmo (by rw [kmo]; rfl)) z1247
          have z1262 : q_ir (q_r f1256 mo 18) nm := Eq.trans (hF.r hmo (by rw [kmo]; rfl)) z1248
          have z1263 : q_ir (q_r f1256 mo 38) rp := Eq.trans (hF.r hmo (by rw [kmo]; rfl)) z1249
          have g1264 : q_gr f1256 sr := q_gr_fr g1250 (fun i9 _ => hF.z hsr (by rw [ksr]; rfl))
          refine q_ald_n cx dX12_tellNode_66 rfl (lv_at hl 0 rfl) ?_
          refine q_ild_n cx dX12_tellNode_67 rfl (lv_at hl 1 rfl) ?_
          refine q_cVi (As := [.int (q_i a0)]) (rest := []) cx hB (fun _ h => h) hN hmo kmo (by decide) rfl (r_isAwakeNow l g hN hB.2.1 mo hmo kmo a0 (by omega) (by omega) sr hsr ksr z1261 g1264) q_cX12_362 q_dX12_isAwakeNow (by decide) rfl rfl hl.1 rfl (Nat.le_of_ble_eq_true rfl) dX12_tellNode_68 (fun y1266 H locs f1265 ry1266 h1267 hF hB => ?_)
          obtain ⟨rfl, ly1266, uy1266⟩ := h1267
          refine q_ifeq (tgt := 80) cx ⟨by omega, by omega⟩ dX12_tellNode_71 (by decide) (fun c1268 => ?_) (fun c1268 => ?_)
          · refine q_iconst cx dX12_tellNode_80 ?_
            refine lv_istore_n (lv' := [(2, .int (q_i 0)), (0, .ref mo), (1, .int (q_i a0))]) cx.1 cx.2.1 dX12_tellNode_81 rfl hl (by decide) rfl (fun ls hl => ?_)
            exact J82 ((Int.toNat (2147483647 - 0)) + 1) f1256 0 (by decide) (by decide) ((((w2_mo_39 + 1) + dz1236) + 1) + dz1259) (by omega) (by omega) z1260 z1259 z1261 z1262 z1263 g1264 (k_rb0 (by omega)) (Nat.lt_succ_self _) H locs hB ls (lv_sub hl [1, 2, 0] rfl)
          · refine q_ald_n cx dX12_tellNode_74 rfl (lv_at hl 0 rfl) ?_
            refine q_bipush cx dX12_tellNode_75 rfl ?_
            refine q_cVv (As := [.int (q_i 42)]) (rest := []) cx hB (fun _ h => h) hN hmo kmo (by decide) rfl (r_tell l g hN hB.2.1 mo hmo kmo 42 (by decide) (by decide) rp hrp krp ((((w2_mo_39 + 1) + dz1236) + 1) + dz1259) (by omega) (by omega) z1259 z1263) q_cX12_518 q_dX12_tell (by decide) rfl rfl hl.1 rfl (Nat.le_of_ble_eq_true rfl) dX12_tellNode_77 (fun H locs f1269 h1271 hF hB => ?_)
            have z1272 := h1271
            have z1273 : q_is (q_z f1269 sr 4) xm := Eq.trans (hF.z hsr (by rw [ksr]; rfl)) z1260
            have z1274 : q_ir (q_r f1269 mo 13) sr := Eq.trans (hF.r hmo (by rw [kmo]; rfl)) z1261
            have z1275 : q_ir (q_r f1269 mo 18) nm := Eq.trans (hF.r hmo (by rw [kmo]; rfl)) z1262
            have z1276 : q_ir (q_r f1269 mo 38) rp := Eq.trans (hF.r hmo (by rw [kmo]; rfl)) z1263
            have g1277 : q_gr f1269 sr := q_gr_fr g1264 (fun i9 _ => hF.z hsr (by rw [ksr]; rfl))
            refine q_iconst cx dX12_tellNode_80 ?_
            refine lv_istore_n (lv' := [(2, .int (q_i 0)), (0, .ref mo), (1, .int (q_i a0))]) cx.1 cx.2.1 dX12_tellNode_81 rfl hl (by decide) rfl (fun ls hl => ?_)
            exact J82 ((Int.toNat (2147483647 - 0)) + 1) f1269 0 (by decide) (by decide) (((((w2_mo_39 + 1) + dz1236) + 1) + dz1259) + 1) (by omega) (by omega) z1273 z1272 z1274 z1275 z1276 g1277 (k_rb0 (by omega)) (Nat.lt_succ_self _) H locs hB ls (lv_sub hl [1, 2, 0] rfl)
        · by_cases c1278 : y1252 ≤ 99
          · refine q_cVv (As := [.int (q_i y1252)]) (rest := []) cx hB (fun _ h => h) hN hmo kmo (by decide) rfl (r_tellNumber2 l g hN hB.2.1 mo hmo kmo y1252 (by omega) (by omega) rp hrp krp (((w2_mo_39 + 1) + dz1236) + 1) (by omega) (by omega) z1245 z1249) q_cX12_521 q_dX12_tellNumber (by decide) rfl rfl hl.1 rfl (Nat.le_of_ble_eq_true rfl) dX12_tellNode_63 (fun H locs f1279 h1281 hF hB => ?_)
            obtain ⟨dz1282, lz1282, uz1282, z1282⟩ := h1281
            have z1283 : q_is (q_z f1279 sr 4) xm := Eq.trans (hF.z hsr (by rw [ksr]; rfl)) z1246
            have z1284 : q_ir (q_r f1279 mo 13) sr := Eq.trans (hF.r hmo (by rw [kmo]; rfl)) z1247
            have z1285 : q_ir (q_r f1279 mo 18) nm := Eq.trans (hF.r hmo (by rw [kmo]; rfl)) z1248
            have z1286 : q_ir (q_r f1279 mo 38) rp := Eq.trans (hF.r hmo (by rw [kmo]; rfl)) z1249
            have g1287 : q_gr f1279 sr := q_gr_fr g1250 (fun i9 _ => hF.z hsr (by rw [ksr]; rfl))
            refine q_ald_n cx dX12_tellNode_66 rfl (lv_at hl 0 rfl) ?_
            refine q_ild_n cx dX12_tellNode_67 rfl (lv_at hl 1 rfl) ?_
            refine q_cVi (As := [.int (q_i a0)]) (rest := []) cx hB (fun _ h => h) hN hmo kmo (by decide) rfl (r_isAwakeNow l g hN hB.2.1 mo hmo kmo a0 (by omega) (by omega) sr hsr ksr z1284 g1287) q_cX12_362 q_dX12_isAwakeNow (by decide) rfl rfl hl.1 rfl (Nat.le_of_ble_eq_true rfl) dX12_tellNode_68 (fun y1289 H locs f1288 ry1289 h1290 hF hB => ?_)
            obtain ⟨rfl, ly1289, uy1289⟩ := h1290
            refine q_ifeq (tgt := 80) cx ⟨by omega, by omega⟩ dX12_tellNode_71 (by decide) (fun c1291 => ?_) (fun c1291 => ?_)
            · refine q_iconst cx dX12_tellNode_80 ?_
              refine lv_istore_n (lv' := [(2, .int (q_i 0)), (0, .ref mo), (1, .int (q_i a0))]) cx.1 cx.2.1 dX12_tellNode_81 rfl hl (by decide) rfl (fun ls hl => ?_)
              exact J82 ((Int.toNat (2147483647 - 0)) + 1) f1279 0 (by decide) (by decide) ((((w2_mo_39 + 1) + dz1236) + 1) + dz1282) (by omega) (by omega) z1283 z1282 z1284 z1285 z1286 g1287 (k_rb0 (by omega)) (Nat.lt_succ_self _) H locs hB ls (lv_sub hl [1, 2, 0] rfl)
            · refine q_ald_n cx dX12_tellNode_74 rfl (lv_at hl 0 rfl) ?_
              refine q_bipush cx dX12_tellNode_75 rfl ?_
              refine q_cVv (As := [.int (q_i 42)]) (rest := []) cx hB (fun _ h => h) hN hmo kmo (by decide) rfl (r_tell l g hN hB.2.1 mo hmo kmo 42 (by decide) (by decide) rp hrp krp ((((w2_mo_39 + 1) + dz1236) + 1) + dz1282) (by omega) (by omega) z1282 z1286) q_cX12_518 q_dX12_tell (by decide) rfl rfl hl.1 rfl (Nat.le_of_ble_eq_true rfl) dX12_tellNode_77 (fun H locs f1292 h1294 hF hB => ?_)
              have z1295 := h1294
              have z1296 : q_is (q_z f1292 sr 4) xm := Eq.trans (hF.z hsr (by rw [ksr]; rfl)) z1283
              have z1297 : q_ir (q_r f1292 mo 13) sr := Eq.trans (hF.r hmo (by rw [kmo]; rfl)) z1284
              have z1298 : q_ir (q_r f1292 mo 18) nm := Eq.trans (hF.r hmo (by rw [kmo]; rfl)) z1285
              have z1299 : q_ir (q_r f1292 mo 38) rp := Eq.trans (hF.r hmo (by rw [kmo]; rfl)) z1286
              have g1300 : q_gr f1292 sr := q_gr_fr g1287 (fun i9 _ => hF.z hsr (by rw [ksr]; rfl))
              refine q_iconst cx dX12_tellNode_80 ?_
              refine lv_istore_n (lv' := [(2, .int (q_i 0)), (0, .ref mo), (1, .int (q_i a0))]) cx.1 cx.2.1 dX12_tellNode_81 rfl hl (by decide) rfl (fun ls hl => ?_)
              exact J82 ((Int.toNat (2147483647 - 0)) + 1) f1292 0 (by decide) (by decide) (((((w2_mo_39 + 1) + dz1236) + 1) + dz1282) + 1) (by omega) (by omega) z1296 z1295 z1297 z1298 z1299 g1300 (k_rb0 (by omega)) (Nat.lt_succ_self _) H locs hB ls (lv_sub hl [1, 2, 0] rfl)
          · refine q_cVv (As := [.int (q_i y1252)]) (rest := []) cx hB (fun _ h => h) hN hmo kmo (by decide) rfl (r_tellNumber4 l g hN hB.2.1 mo hmo kmo y1252 (by omega) (by omega) rp hrp krp (((w2_mo_39 + 1) + dz1236) + 1) (by omega) (by omega) z1245 z1249) q_cX12_521 q_dX12_tellNumber (by decide) rfl rfl hl.1 rfl (Nat.le_of_ble_eq_true rfl) dX12_tellNode_63 (fun H locs f1301 h1303 hF hB => ?_)
            obtain ⟨dz1304, lz1304, uz1304, z1304⟩ := h1303
            have z1305 : q_is (q_z f1301 sr 4) xm := Eq.trans (hF.z hsr (by rw [ksr]; rfl)) z1246
            have z1306 : q_ir (q_r f1301 mo 13) sr := Eq.trans (hF.r hmo (by rw [kmo]; rfl)) z1247
            have z1307 : q_ir (q_r f1301 mo 18) nm := Eq.trans (hF.r hmo (by rw [kmo]; rfl)) z1248
            have z1308 : q_ir (q_r f1301 mo 38) rp := Eq.trans (hF.r hmo (by rw [kmo]; rfl)) z1249
            have g1309 : q_gr f1301 sr := q_gr_fr g1250 (fun i9 _ => hF.z hsr (by rw [ksr]; rfl))
            refine q_ald_n cx dX12_tellNode_66 rfl (lv_at hl 0 rfl) ?_
            refine q_ild_n cx dX12_tellNode_67 rfl (lv_at hl 1 rfl) ?_
            refine q_cVi (As := [.int (q_i a0)]) (rest := []) cx hB (fun _ h => h) hN hmo kmo (by decide) rfl (r_isAwakeNow l g hN hB.2.1 mo hmo kmo a0 (by omega) (by omega) sr hsr ksr z1306 g1309) q_cX12_362 q_dX12_isAwakeNow (by decide) rfl rfl hl.1 rfl (Nat.le_of_ble_eq_true rfl) dX12_tellNode_68 (fun y1311 H locs f1310 ry1311 h1312 hF hB => ?_)
            obtain ⟨rfl, ly1311, uy1311⟩ := h1312
            refine q_ifeq (tgt := 80) cx ⟨by omega, by omega⟩ dX12_tellNode_71 (by decide) (fun c1313 => ?_) (fun c1313 => ?_)
            · refine q_iconst cx dX12_tellNode_80 ?_
              refine lv_istore_n (lv' := [(2, .int (q_i 0)), (0, .ref mo), (1, .int (q_i a0))]) cx.1 cx.2.1 dX12_tellNode_81 rfl hl (by decide) rfl (fun ls hl => ?_)
              exact J82 ((Int.toNat (2147483647 - 0)) + 1) f1301 0 (by decide) (by decide) ((((w2_mo_39 + 1) + dz1236) + 1) + dz1304) (by omega) (by omega) z1305 z1304 z1306 z1307 z1308 g1309 (k_rb0 (by omega)) (Nat.lt_succ_self _) H locs hB ls (lv_sub hl [1, 2, 0] rfl)
            · refine q_ald_n cx dX12_tellNode_74 rfl (lv_at hl 0 rfl) ?_
              refine q_bipush cx dX12_tellNode_75 rfl ?_
              refine q_cVv (As := [.int (q_i 42)]) (rest := []) cx hB (fun _ h => h) hN hmo kmo (by decide) rfl (r_tell l g hN hB.2.1 mo hmo kmo 42 (by decide) (by decide) rp hrp krp ((((w2_mo_39 + 1) + dz1236) + 1) + dz1304) (by omega) (by omega) z1304 z1308) q_cX12_518 q_dX12_tell (by decide) rfl rfl hl.1 rfl (Nat.le_of_ble_eq_true rfl) dX12_tellNode_77 (fun H locs f1314 h1316 hF hB => ?_)
              have z1317 := h1316
              have z1318 : q_is (q_z f1314 sr 4) xm := Eq.trans (hF.z hsr (by rw [ksr]; rfl)) z1305
              have z1319 : q_ir (q_r f1314 mo 13) sr := Eq.trans (hF.r hmo (by rw [kmo]; rfl)) z1306
              have z1320 : q_ir (q_r f1314 mo 18) nm := Eq.trans (hF.r hmo (by rw [kmo]; rfl)) z1307
              have z1321 : q_ir (q_r f1314 mo 38) rp := Eq.trans (hF.r hmo (by rw [kmo]; rfl)) z1308
              have g1322 : q_gr f1314 sr := q_gr_fr g1309 (fun i9 _ => hF.z hsr (by rw [ksr]; rfl))
              refine q_iconst cx dX12_tellNode_80 ?_
              refine lv_istore_n (lv' := [(2, .int (q_i 0)), (0, .ref mo), (1, .int (q_i a0))]) cx.1 cx.2.1 dX12_tellNode_81 rfl hl (by decide) rfl (fun ls hl => ?_)
              exact J82 ((Int.toNat (2147483647 - 0)) + 1) f1314 0 (by decide) (by decide) (((((w2_mo_39 + 1) + dz1236) + 1) + dz1304) + 1) (by omega) (by omega) z1318 z1317 z1319 z1320 z1321 g1322 (k_rb0 (by omega)) (Nat.lt_succ_self _) H locs hB ls (lv_sub hl [1, 2, 0] rfl)
      · refine q_ald_n cx dX12_tellNode_15 rfl (lv_at hl 0 rfl) ?_
        refine q_ald_n cx dX12_tellNode_16 rfl (lv_at hl 0 rfl) ?_
        refine q_gX12_35 cx hB hmo kmo hq_mo_18 dX12_tellNode_17 (fun hb1323 kb1323 => ?_)
        refine q_ild_n cx dX12_tellNode_20 rfl (lv_at hl 1 rfl) ?_
        obtain ⟨j1324, ej1324⟩ : ∃ zz, q_j f2 nm (Int.toNat a0) = zz := ⟨_, rfl⟩
        refine q_lald (n := 10) cx hB hnm knm (by decide) rfl rfl (by omega) (by omega) (by decide) rfl ej1324 dX12_tellNode_21 ?_
        refine q_ild_n cx dX12_tellNode_22 rfl (lv_at hl 2 rfl) ?_
        refine q_cSi (As := [.long j1324, .int (q_i v2_2)]) (rest := [.ref mo]) cx hB (fun _ h => h) hN (r_letterOf l g hN hB.2.1 j1324 v2_2 (by omega) (by omega)) q_cX12_384 q_dX12_letterOf (by decide) rfl rfl hl.1 rfl (Nat.le_of_ble_eq_true rfl) dX12_tellNode_23 (fun y1326 H locs f1325 ry1326 h1327 hF hB => ?_)
        obtain rfl := h1327
        refine q_cVv (As := [.int (q_i y1326)]) (rest := []) cx hB (fun _ h => h) hN hmo kmo (by decide) rfl (r_tell l g hN hB.2.1 mo hmo kmo y1326 (by omega) (by omega) rp hrp krp w2_mo_39 (by omega) (by omega) hj_mo_39 hq_mo_38) q_cX12_518 q_dX12_tell (by decide) rfl rfl hl.1 rfl (Nat.le_of_ble_eq_true rfl) dX12_tellNode_26 (fun H locs f1328 h1330 hF hB => ?_)
        have z1331 := h1330
        have z1332 : q_is (q_z f1328 sr 4) xm := Eq.trans (hF.z hsr (by rw [ksr]; rfl)) hj_sr_4
        have z1333 : q_ir (q_r f1328 mo 13) sr := Eq.trans (hF.r hmo (by rw [kmo]; rfl)) hq_mo_13
        have z1334 : q_ir (q_r f1328 mo 18) nm := Eq.trans (hF.r hmo (by rw [kmo]; rfl)) hq_mo_18
        have z1335 : q_ir (q_r f1328 mo 38) rp := Eq.trans (hF.r hmo (by rw [kmo]; rfl)) hq_mo_38
        have g1336 : q_gr f1328 sr := q_gr_fr hgr2 (fun i9 _ => hF.z hsr (by rw [ksr]; rfl))
        refine q_iinc (lv' := [(2, .int (q_i (v2_2 + 1))), (0, .ref mo), (1, .int (q_i a0))]) cx dX12_tellNode_29 hl (k := 2) rfl (by decide) rfl (fun ls hl => ?_)
        refine lv_goto (tgt := 2) cx.1 cx.2.1 dX12_tellNode_32 (by decide) ?_
        exact ih2 f1328 (v2_2 + 1) (by omega) (by omega) (w2_mo_39 + 1) (by omega) (by omega) z1331 z1332 z1333 z1334 z1335 g1336 (by omega) (by omega) H locs hB ls (lv_sub hl [1, 2, 0] rfl)
  obtain ⟨H, hH⟩ : ∃ H : Heap, H = s.heap := ⟨_, rfl⟩
  obtain ⟨locs, hlocs⟩ : ∃ z : List Loc, z = [] := ⟨_, rfl⟩
  rw [← hH, ← hlocs] at hB
  rw [← hH, ← hlocs]
  refine q_iconst cx dX12_tellNode_0 ?_
  refine lv_istore_n (lv' := [(2, .int (q_i 0)), (0, .ref mo), (1, .int (q_i a0))]) cx.1 cx.2.1 dX12_tellNode_1 rfl hl (by decide) rfl (fun ls hl => ?_)
  exact J2 ((Int.toNat (14 - 0)) + 1) f 0 (by decide) (by decide) xr (by omega) (by omega) hf0 hf1 hr0 hr1 hr2 hgr (by omega) (Nat.lt_succ_self _) H locs hB ls (lv_sub hl [1, 2, 0] rfl)
set_option maxHeartbeats 4000000 in
set_option maxRecDepth 100000 in
theorem r_report (l : Launch) (g : q_G) {K : Nat → Nat} {L : List Nat} (hN : L.Nodup) {f : Nat → va_E} (hT : q_Ty g K L f) (mo : Nat) (hmo : mo ∈ L) (kmo : K mo = 12) (sr : Nat) (hsr : sr ∈ L) (ksr : K sr = 151) (nm : Nat) (hnm : nm ∈ L) (knm : K nm = 156) (rp : Nat) (hrp : rp ∈ L) (krp : K rp = 167) (xm : Int) (lxm : 0 ≤ xm) (uxm : xm ≤ 60) (hf0 : q_is (q_z f sr 4) xm) (hr0 : q_ir (q_r f mo 13) sr) (hr1 : q_ir (q_r f mo 18) nm) (hr2 : q_ir (q_r f mo 38) rp) (hgr : q_gr f sr) : q_Ct l g K L yX12_report cX12_report 2 (some .int) 7 155 [.ref mo] f [(12, 0, 0), (12, 39, 40), (167, 0, 479)] (q_Pi (fun (z : Int) (f1 : Nat → va_E) => 0 ≤ z ∧ z ≤ 480)) := by
  refine q_ofb (by decide +kernel) hN hT (Nat.le_of_ble_eq_true rfl) ?_
  intro p e s m below meth c ls cx hr hlk hB hl
  have hl : lv_has ls 2 [(0, .ref mo)] := hl
  have J17 : ∀ (n : Nat) (f17 : Nat → va_E) (v17_1 : Int) (lv17_1 : 0 ≤ v17_1) (uv17_1 : v17_1 ≤ 10) (w17_mo_39 : Int) (lw17_mo_39 : 0 ≤ w17_mo_39) (uw17_mo_39 : w17_mo_39 ≤ 480) (hj_sr_4 : q_is (q_z f17 sr 4) xm) (hj_mo_39 : q_is (q_z f17 mo 39) w17_mo_39) (hq_mo_13 : q_ir (q_r f17 mo 13) sr) (hq_mo_18 : q_ir (q_r f17 mo 18) nm) (hq_mo_38 : q_ir (q_r f17 mo 38) rp) (hgr17 : q_gr f17 sr) (hrq : w17_mo_39 ≤ 23 * v17_1 + 4 * k_cl f17 sr v17_1 60) (hmu : (Int.toNat (2147483647 - v17_1)) < n) (H : Heap) (locs : List Loc) (hB : q_B g K L (fun q => q ∈ L) [(12, 0, 0), (12, 39, 40), (167, 0, 479)] f f17 s H locs) (ls : Array Slot) (hl : lv_has ls 2 [(0, .ref mo), (1, .int (q_i v17_1))]), W p l e { frames := 7, cells := 0, slots := 0, locals := 155 } s m ([.ref mo] : List Value).toArray below meth c H locs 0 0 (MQ below (q_Q g K L [(12, 0, 0), (12, 39, 40), (167, 0, 479)] f (q_Pi (fun (z : Int) (f1 : Nat → va_E) => 0 ≤ z ∧ z ≤ 480))) ([.ref mo] : List Value).toArray s 0 0 (fun q => q ∈ L)) (F0 m 17 ls []) := by
    intro n
    induction n with
    | zero =>
      intro f17 v17_1 lv17_1 uv17_1 w17_mo_39 lw17_mo_39 uw17_mo_39 hj_sr_4 hj_mo_39 hq_mo_13 hq_mo_18 hq_mo_38 hgr17 hrq hmu
      exact absurd hmu (Nat.not_lt_zero _)
    | succ n ih17 =>
      intro f17 v17_1 lv17_1 uv17_1 w17_mo_39 lw17_mo_39 uw17_mo_39 hj_sr_4 hj_mo_39 hq_mo_13 hq_mo_18 hq_mo_38 hgr17 hrq hmu H locs hB ls hl
      refine q_ild_n cx dX12_report_17 rfl (lv_at hl 1 rfl) ?_
      refine q_ald_n cx dX12_report_18 rfl (lv_at hl 0 rfl) ?_
      refine q_gX12_20 cx hB hmo kmo hq_mo_13 dX12_report_19 (fun hb195 kb195 => ?_)
      refine q_iconst cx dX12_report_22 ?_
      obtain ⟨x196, ex196⟩ : ∃ zz, q_is (q_z f17 sr (Int.toNat 0)) zz := ⟨_, q_isr _⟩
      refine q_iald (lo := 0) (hi := 10) (n := 658) cx hB hsr ksr (by decide) rfl rfl (by decide) (by decide) (by decide) rfl ex196 dX12_report_23 (fun lb197 ub197 => ?_)
      refine q_icge (tgt := 38) cx ⟨by omega, by omega⟩ ⟨by omega, by omega⟩ dX12_report_24 (by decide) (fun c198 => ?_) (fun c198 => ?_)
      · refine q_ald_n cx dX12_report_38 rfl (lv_at hl 0 rfl) ?_
        refine q_gX12_515 cx hB hmo kmo hj_mo_39 dX12_report_39 (fun lb199 ub199 => ?_)
        refine q_iret cx hr hlk hB dX12_report_42 ⟨by omega, by omega⟩ ?_
        exact ⟨(by omega), (by omega)⟩
      · refine q_ald_n cx dX12_report_27 rfl (lv_at hl 0 rfl) ?_
        refine q_ild_n cx dX12_report_28 rfl (lv_at hl 1 rfl) ?_
        have h9 := k_cl_le (f := f17) (sr := sr) (n := v17_1) 60
        have hw9 : w17_mo_39 ≤ 447 := by omega
        refine q_cVv (As := [.int (q_i v17_1)]) (rest := []) cx hB (fun _ h => h) hN hmo kmo (by decide) rfl (r_tellNode l g hN hB.2.1 mo hmo kmo v17_1 (by omega) (by omega) sr hsr ksr nm hnm knm rp hrp krp w17_mo_39 (by omega) (by omega) xm (by omega) (by omega) hj_mo_39 hj_sr_4 hq_mo_13 hq_mo_18 hq_mo_38 hrq hgr17) q_cX12_527 q_dX12_tellNode (by decide) rfl rfl hl.1 rfl (Nat.le_of_ble_eq_true rfl) dX12_report_29 (fun H locs f200 h202 hF hB => ?_)
        obtain ⟨lz203, uz203, t204⟩ := h202
        have z205 : q_is (q_z f200 sr 4) xm := Eq.trans (hF.z hsr (by rw [ksr]; rfl)) hj_sr_4
        have z206 : q_is (q_z f200 sr 0) x196 := Eq.trans (hF.z hsr (by rw [ksr]; rfl)) ex196
        have z207 : q_ir (q_r f200 mo 13) sr := Eq.trans (hF.r hmo (by rw [kmo]; rfl)) hq_mo_13
        have z208 : q_ir (q_r f200 mo 18) nm := Eq.trans (hF.r hmo (by rw [kmo]; rfl)) hq_mo_18
        have z209 : q_ir (q_r f200 mo 38) rp := Eq.trans (hF.r hmo (by rw [kmo]; rfl)) hq_mo_38
        have g210 : q_gr f200 sr := q_gr_fr hgr17 (fun i9 _ => hF.z hsr (by rw [ksr]; rfl))
        obtain ⟨x211, ex211⟩ : ∃ zz, q_is (q_z f200 mo 39) zz := ⟨_, q_isr _⟩
        obtain ⟨lx211, ux211⟩ := q_isb ex211 ⟨lz203, uz203⟩
        refine q_iinc (lv' := [(1, .int (q_i (v17_1 + 1))), (0, .ref mo)]) cx dX12_report_32 hl (k := 1) rfl (by decide) rfl (fun ls hl => ?_)
        refine lv_goto (tgt := 17) cx.1 cx.2.1 dX12_report_35 (by decide) ?_
        exact ih17 f200 (v17_1 + 1) (by omega) (by omega) x211 (by omega) (by omega) z205 ex211 z207 z208 z209 g210 (q_isu9 ex211 t204) (by omega) H locs hB ls (lv_sub hl [1, 0] rfl)
  obtain ⟨H, hH⟩ : ∃ H : Heap, H = s.heap := ⟨_, rfl⟩
  obtain ⟨locs, hlocs⟩ : ∃ z : List Loc, z = [] := ⟨_, rfl⟩
  rw [← hH, ← hlocs] at hB
  rw [← hH, ← hlocs]
  refine q_ald_n cx dX12_report_0 rfl (lv_at hl 0 rfl) ?_
  refine q_iconst cx dX12_report_1 ?_
  refine q_pX12_75 cx hB hmo kmo ⟨by decide, by decide⟩ (by decide) (by decide) rfl dX12_report_2 (fun H locs f212 ef212 z213 hB => ?_)
  have z214 : q_is (q_z f212 sr 4) xm := by rw [ef212, q_setz (Or.inr (by decide))]; exact hf0
  have z215 : q_ir (q_r f212 mo 13) sr := by rw [ef212, q_setr (Or.inr (by decide))]; exact hr0
  have z216 : q_ir (q_r f212 mo 18) nm := by rw [ef212, q_setr (Or.inr (by decide))]; exact hr1
  have z217 : q_ir (q_r f212 mo 38) rp := by rw [ef212, q_setr (Or.inr (by decide))]; exact hr2
  have g218 : q_gr f212 sr := q_gr_ne hgr ef212 (fun q => q_kne (k := 151) (k2 := 12) (by decide) ksr kmo q)
  refine q_ald_n cx dX12_report_5 rfl (lv_at hl 0 rfl) ?_
  refine q_iconst cx dX12_report_6 ?_
  refine q_pX12_515 cx hB hmo kmo ⟨by decide, by decide⟩ (by decide) (by decide) rfl dX12_report_7 (fun H locs f219 ef219 z220 hB => ?_)
  have z221 : q_is (q_z f219 sr 4) xm := by rw [ef219, q_setz (Or.inr (by decide))]; exact z214
  have z222 : q_is (q_z f219 mo 0) 0 := by rw [ef219, q_setz (Or.inr (by decide))]; exact z213
  have z223 : q_ir (q_r f219 mo 13) sr := by rw [ef219, q_setr (Or.inr (by decide))]; exact z215
  have z224 : q_ir (q_r f219 mo 18) nm := by rw [ef219, q_setr (Or.inr (by decide))]; exact z216
  have z225 : q_ir (q_r f219 mo 38) rp := by rw [ef219, q_setr (Or.inr (by decide))]; exact z217
  have g226 : q_gr f219 sr := q_gr_ne g218 ef219 (fun q => q_kne (k := 151) (k2 := 12) (by decide) ksr kmo q)
  refine q_ald_n cx dX12_report_10 rfl (lv_at hl 0 rfl) ?_
  refine q_iconst cx dX12_report_11 ?_
  refine q_pX12_524 cx hB hmo kmo ⟨by decide, by decide⟩ (by decide) (by decide) rfl dX12_report_12 (fun H locs f227 ef227 z228 hB => ?_)
  have z229 : q_is (q_z f227 sr 4) xm := by rw [ef227, q_setz (Or.inr (by decide))]; exact z221
  have z230 : q_is (q_z f227 mo 0) 0 := by rw [ef227, q_setz (Or.inr (by decide))]; exact z222
  have z231 : q_is (q_z f227 mo 39) 0 := by rw [ef227, q_setz (Or.inr (by decide))]; exact z220
  have z232 : q_ir (q_r f227 mo 13) sr := by rw [ef227, q_setr (Or.inr (by decide))]; exact z223
  have z233 : q_ir (q_r f227 mo 18) nm := by rw [ef227, q_setr (Or.inr (by decide))]; exact z224
  have z234 : q_ir (q_r f227 mo 38) rp := by rw [ef227, q_setr (Or.inr (by decide))]; exact z225
  have g235 : q_gr f227 sr := q_gr_ne g226 ef227 (fun q => q_kne (k := 151) (k2 := 12) (by decide) ksr kmo q)
  refine q_iconst cx dX12_report_15 ?_
  refine lv_istore_n (lv' := [(1, .int (q_i 0)), (0, .ref mo)]) cx.1 cx.2.1 dX12_report_16 rfl hl (by decide) rfl (fun ls hl => ?_)
  exact J17 ((Int.toNat (2147483647 - 0)) + 1) f227 0 (by decide) (by decide) 0 (by decide) (by decide) z229 z231 z232 z233 z234 g235 (k_rp0 _ _) (Nat.lt_succ_self _) H locs hB ls (lv_sub hl [1, 0] rfl)
set_option maxHeartbeats 4000000 in
set_option maxRecDepth 100000 in
theorem r_reportByte (l : Launch) (g : q_G) {K : Nat → Nat} {L : List Nat} (hN : L.Nodup) {f : Nat → va_E} (hT : q_Ty g K L f) (mo : Nat) (hmo : mo ∈ L) (kmo : K mo = 12) (a0 : Int) (la0 : (-2147483648) ≤ a0) (ua0 : a0 ≤ 2147483647) (rp : Nat) (hrp : rp ∈ L) (krp : K rp = 167) (hr0 : q_ir (q_r f mo 38) rp) : q_Ct l g K L yX12_reportByte cX12_reportByte 2 (some .int) 2 41 [.ref mo, .int (q_i a0)] f [(12, 0, 0)] (q_Pi (fun (z : Int) (f1 : Nat → va_E) => True)) := by
  refine q_ofb (by decide +kernel) hN hT (Nat.le_of_ble_eq_true rfl) ?_
  intro p e s m below meth c ls cx hr hlk hB hl
  have hl : lv_has ls 2 [(0, .ref mo), (1, .int (q_i a0))] := hl
  obtain ⟨H, hH⟩ : ∃ H : Heap, H = s.heap := ⟨_, rfl⟩
  obtain ⟨locs, hlocs⟩ : ∃ z : List Loc, z = [] := ⟨_, rfl⟩
  rw [← hH, ← hlocs] at hB
  rw [← hH, ← hlocs]
  refine q_ald_n cx dX12_reportByte_0 rfl (lv_at hl 0 rfl) ?_
  refine q_ald_n cx dX12_reportByte_1 rfl (lv_at hl 0 rfl) ?_
  obtain ⟨x42, ex42⟩ : ∃ zz, q_is (q_z f mo 40) zz := ⟨_, q_isr _⟩
  refine q_gX12_524 cx hB hmo kmo ex42 dX12_reportByte_2 (fun lb43 ub43 => ?_)
  refine q_ifeq (tgt := 28) cx ⟨by omega, by omega⟩ dX12_reportByte_5 (by decide) (fun c44 => ?_) (fun c44 => ?_)
  · refine q_iconst cx dX12_reportByte_28 ?_
    refine q_cVi (As := [.int (q_i 0)]) (rest := []) cx hB (fun _ h => h) hN hmo kmo (by decide) rfl (r_goes0 l g hN hB.2.1 mo hmo kmo 0 (by decide) (by decide)) q_cX12_85 q_dX12_goes (by decide) rfl rfl hl.1 rfl (Nat.le_of_ble_eq_true rfl) dX12_reportByte_29 (fun y46 H locs f45 ry46 h47 hF hB => ?_)
    obtain ⟨qy46, z48⟩ := h47
    have z49 : q_is (q_z f45 mo 40) x42 := Eq.trans (hF.z hmo (by rw [kmo]; rfl)) ex42
    have z50 : q_ir (q_r f45 mo 38) rp := Eq.trans (hF.r hmo (by rw [kmo]; rfl)) hr0
    subst qy46
    refine q_ifeq (tgt := 44) cx ⟨by decide, by decide⟩ dX12_reportByte_32 (by decide) (fun c51 => ?_) (fun c51 => ?_)
    · refine q_iconst cx dX12_reportByte_44 ?_
      refine q_iret cx hr hlk hB dX12_reportByte_45 ⟨by decide, by decide⟩ ?_
      trivial
    · exact absurd c51 (by omega)
  · refine q_ild_n cx dX12_reportByte_8 rfl (lv_at hl 1 rfl) ?_
    refine q_i2l cx ⟨by omega, by omega⟩ dX12_reportByte_9 ?_
    refine q_lconst (z := 0) cx (by decide) dX12_reportByte_10 ?_
    refine q_ald_n cx dX12_reportByte_11 rfl (lv_at hl 0 rfl) ?_
    obtain ⟨x52, ex52⟩ : ∃ zz, q_is (q_z f mo 39) zz := ⟨_, q_isr _⟩
    refine q_gX12_515 cx hB hmo kmo ex52 dX12_reportByte_12 (fun lb53 ub53 => ?_)
    refine q_iconst cx dX12_reportByte_15 ?_
    refine q_isub cx dX12_reportByte_16 ?_
    refine q_i2l cx ⟨by omega, by omega⟩ dX12_reportByte_17 ?_
    refine q_cSi (As := [.long (q_l a0), .long (q_l 0), .long (q_l (x52 - 1))]) (rest := [.ref mo]) cx hB (fun _ h => h) hN (r_isIn l g hN hB.2.1 a0 (by omega) (by omega) 0 (by decide) (by decide) (x52 - 1) (by omega) (by omega)) q_cX12_93 q_dX12_isIn (by decide) rfl rfl hl.1 rfl (Nat.le_of_ble_eq_true rfl) dX12_reportByte_18 (fun y55 H locs f54 ry55 h56 hF hB => ?_)
    rcases h56 with h57 | h58
    · obtain ⟨rfl, qy55, t59, t60⟩ := h57
      subst qy55
      refine q_ifeq (tgt := 28) cx ⟨by decide, by decide⟩ dX12_reportByte_21 (by decide) (fun c61 => ?_) (fun c61 => ?_)
      · exact absurd c61 (by omega)
      · refine q_iconst cx dX12_reportByte_24 ?_
        refine lv_goto (tgt := 29) cx.1 cx.2.1 dX12_reportByte_25 (by decide) ?_
        refine q_cVi (As := [.int (q_i 1)]) (rest := []) cx hB (fun _ h => h) hN hmo kmo (by decide) rfl (r_goes1 l g hN hB.2.1 mo hmo kmo 1 (by decide) (by decide)) q_cX12_85 q_dX12_goes (by decide) rfl rfl hl.1 rfl (Nat.le_of_ble_eq_true rfl) dX12_reportByte_29 (fun y63 H locs f62 ry63 h64 hF hB => ?_)
        obtain ⟨qy63, z65⟩ := h64
        have z66 : q_is (q_z f62 mo 40) x42 := Eq.trans (hF.z hmo (by rw [kmo]; rfl)) ex42
        have z67 : q_is (q_z f62 mo 39) x52 := Eq.trans (hF.z hmo (by rw [kmo]; rfl)) ex52
        have z68 : q_ir (q_r f62 mo 38) rp := Eq.trans (hF.r hmo (by rw [kmo]; rfl)) hr0
        subst qy63
        refine q_ifeq (tgt := 44) cx ⟨by decide, by decide⟩ dX12_reportByte_32 (by decide) (fun c69 => ?_) (fun c69 => ?_)
        · exact absurd c69 (by omega)
        · refine q_ald_n cx dX12_reportByte_35 rfl (lv_at hl 0 rfl) ?_
          refine q_gX12_69 cx hB hmo kmo z68 dX12_reportByte_36 (fun hb70 kb70 => ?_)
          refine q_ild_n cx dX12_reportByte_39 rfl (lv_at hl 1 rfl) ?_
          obtain ⟨x71, ex71⟩ : ∃ zz, q_is (q_z f62 rp (Int.toNat a0)) zz := ⟨_, q_isr _⟩
          refine q_iald (lo := (-2147483648)) (hi := 2147483647) (n := 480) cx hB hrp krp (by decide) rfl rfl (by omega) (by omega) (by decide) rfl ex71 dX12_reportByte_40 (fun lb72 ub72 => ?_)
          refine lv_goto (tgt := 45) cx.1 cx.2.1 dX12_reportByte_41 (by decide) ?_
          refine q_iret cx hr hlk hB dX12_reportByte_45 ⟨by omega, by omega⟩ ?_
          trivial
    · obtain ⟨rfl, qy55, t73⟩ := h58
      subst qy55
      refine q_ifeq (tgt := 28) cx ⟨by decide, by decide⟩ dX12_reportByte_21 (by decide) (fun c74 => ?_) (fun c74 => ?_)
      · refine q_iconst cx dX12_reportByte_28 ?_
        refine q_cVi (As := [.int (q_i 0)]) (rest := []) cx hB (fun _ h => h) hN hmo kmo (by decide) rfl (r_goes0 l g hN hB.2.1 mo hmo kmo 0 (by decide) (by decide)) q_cX12_85 q_dX12_goes (by decide) rfl rfl hl.1 rfl (Nat.le_of_ble_eq_true rfl) dX12_reportByte_29 (fun y76 H locs f75 ry76 h77 hF hB => ?_)
        obtain ⟨qy76, z78⟩ := h77
        have z79 : q_is (q_z f75 mo 40) x42 := Eq.trans (hF.z hmo (by rw [kmo]; rfl)) ex42
        have z80 : q_is (q_z f75 mo 39) x52 := Eq.trans (hF.z hmo (by rw [kmo]; rfl)) ex52
        have z81 : q_ir (q_r f75 mo 38) rp := Eq.trans (hF.r hmo (by rw [kmo]; rfl)) hr0
        subst qy76
        refine q_ifeq (tgt := 44) cx ⟨by decide, by decide⟩ dX12_reportByte_32 (by decide) (fun c82 => ?_) (fun c82 => ?_)
        · refine q_iconst cx dX12_reportByte_44 ?_
          refine q_iret cx hr hlk hB dX12_reportByte_45 ⟨by decide, by decide⟩ ?_
          trivial
        · exact absurd c82 (by omega)
      · exact absurd c74 (by omega)
