set_option maxHeartbeats 4000000 in
set_option maxRecDepth 100000 in
theorem r_readText (l : Launch) (g : q_G) {K : Nat → Nat} {L : List Nat} (hN : L.Nodup) {f : Nat → va_E} (hT : q_Ty g K L f) (mo : Nat) (hmo : mo ∈ L) (kmo : K mo = 12) (sr : Nat) (hsr : sr ∈ L) (ksr : K sr = 151) (as : Nat) (has : as ∈ L) (kas : K as = 153) (nm : Nat) (hnm : nm ∈ L) (knm : K nm = 156) (anm : Nat) (hanm : anm ∈ L) (kanm : K anm = 158) (bu : Nat) (hbu : bu ∈ L) (kbu : K bu = 150) (pa : Nat) (hpa : pa ∈ L) (kpa : K pa = 155) (xt : Int) (lxt : 0 ≤ xt) (uxt : xt ≤ 9999) (xm : Int) (lxm : 0 ≤ xm) (uxm : xm ≤ 60) (xc : Int) (lxc : 0 ≤ xc) (uxc : xc ≤ 10) (hf0 : q_is (q_z f sr 3) xt) (hf1 : q_is (q_z f sr 4) xm) (hf2 : q_is (q_z f sr 0) xc) (hr0 : q_ir (q_r f mo 13) sr) (hr1 : q_ir (q_r f mo 15) as) (hr2 : q_ir (q_r f mo 18) nm) (hr3 : q_ir (q_r f mo 20) anm) (hr4 : q_ir (q_r f mo 1) bu) (hr5 : q_ir (q_r f mo 17) pa) (hgr : q_gr f sr) (hpk : q_pk f mo pa) (hpc : q_pc f mo pa xc) : q_Ct l g K L yX12_readText cX12_readText 2 (some .int) 6 136 [.ref mo] f [(12, 0, 0), (12, 2, 12), (12, 21, 21), (12, 23, 23), (151, 0, 657), (153, 0, 657), (156, 0, 9), (158, 0, 9)] (q_Pi (fun (z : Int) (f1 : Nat → va_E) => 0 ≤ z ∧ z ≤ 10 ∧ 0 ≤ q_z f1 sr 3 ∧ q_z f1 sr 3 ≤ 9999 ∧ 0 ≤ q_z f1 sr 4 ∧ q_z f1 sr 4 ≤ 60 ∧ q_is (q_z f1 mo 2) 0 ∧ q_gr f1 sr ∧ (q_pk f1 mo pa))) := by
  refine q_ofb (by decide +kernel) hN hT (Nat.le_of_ble_eq_true rfl) ?_
  intro p e s m below meth c ls cx hr hlk hB hl
  have hl : lv_has ls 2 [(0, .ref mo)] := hl
  have J84 : ∀ (n : Nat) (f84 : Nat → va_E) (v84_1 : Int) (lv84_1 : 0 ≤ v84_1) (uv84_1 : v84_1 ≤ 10) (w84_mo_2 : Int) (lw84_mo_2 : 0 ≤ w84_mo_2) (uw84_mo_2 : w84_mo_2 ≤ 0) (w84_as_2 : Int) (lw84_as_2 : 4 ≤ w84_as_2) (uw84_as_2 : w84_as_2 ≤ 60) (w84_sr_3 : Int) (lw84_sr_3 : 0 ≤ w84_sr_3) (uw84_sr_3 : w84_sr_3 ≤ 9999) (w84_sr_4 : Int) (lw84_sr_4 : 0 ≤ w84_sr_4) (uw84_sr_4 : w84_sr_4 ≤ 60) (w84_mo_8 : Int) (lw84_mo_8 : 0 ≤ w84_mo_8) (uw84_mo_8 : w84_mo_8 ≤ 0) (w84_mo_4 : Int) (lw84_mo_4 : 0 ≤ w84_mo_4) (uw84_mo_4 : w84_mo_4 ≤ 600) (hj_mo_2 : q_is (q_z f84 mo 2) w84_mo_2) (hj_as_2 : q_is (q_z f84 as 2) w84_as_2) (hj_as_0 : q_is (q_z f84 as 0) xc) (hj_sr_3 : q_is (q_z f84 sr 3) w84_sr_3) (hj_sr_4 : q_is (q_z f84 sr 4) w84_sr_4) (hj_mo_8 : q_is (q_z f84 mo 8) w84_mo_8) (hj_mo_4 : q_is (q_z f84 mo 4) w84_mo_4) (hq_mo_13 : q_ir (q_r f84 mo 13) sr) (hq_mo_15 : q_ir (q_r f84 mo 15) as) (hq_mo_18 : q_ir (q_r f84 mo 18) nm) (hq_mo_20 : q_ir (q_r f84 mo 20) anm) (hq_mo_1 : q_ir (q_r f84 mo 1) bu) (hq_mo_17 : q_ir (q_r f84 mo 17) pa) (hgr84 : q_gr f84 sr) (hpc84 : q_pc f84 mo pa xc) (hpk84 : q_pk f84 mo pa) (hmu : (Int.toNat (2147483647 - v84_1)) < n) (H : Heap) (locs : List Loc) (hB : q_B g K L (fun q => q ∈ L) [(12, 0, 0), (12, 2, 12), (12, 21, 21), (12, 23, 23), (151, 0, 657), (153, 0, 657), (156, 0, 9), (158, 0, 9)] f f84 s H locs) (ls : Array Slot) (hl : lv_has ls 2 [(0, .ref mo), (1, .int (q_i v84_1))]), W p l e { frames := 6, cells := 0, slots := 0, locals := 136 } s m ([.ref mo] : List Value).toArray below meth c H locs 0 0 (MQ below (q_Q g K L [(12, 0, 0), (12, 2, 12), (12, 21, 21), (12, 23, 23), (151, 0, 657), (153, 0, 657), (156, 0, 9), (158, 0, 9)] f (q_Pi (fun (z : Int) (f1 : Nat → va_E) => 0 ≤ z ∧ z ≤ 10 ∧ 0 ≤ q_z f1 sr 3 ∧ q_z f1 sr 3 ≤ 9999 ∧ 0 ≤ q_z f1 sr 4 ∧ q_z f1 sr 4 ≤ 60 ∧ q_is (q_z f1 mo 2) 0 ∧ q_gr f1 sr ∧ (q_pk f1 mo pa)))) ([.ref mo] : List Value).toArray s 0 0 (fun q => q ∈ L)) (F0 m 84 ls []) := by
    intro n
    induction n with
    | zero =>
      intro f84 v84_1 lv84_1 uv84_1 w84_mo_2 lw84_mo_2 uw84_mo_2 w84_as_2 lw84_as_2 uw84_as_2 w84_sr_3 lw84_sr_3 uw84_sr_3 w84_sr_4 lw84_sr_4 uw84_sr_4 w84_mo_8 lw84_mo_8 uw84_mo_8 w84_mo_4 lw84_mo_4 uw84_mo_4 hj_mo_2 hj_as_2 hj_as_0 hj_sr_3 hj_sr_4 hj_mo_8 hj_mo_4 hq_mo_13 hq_mo_15 hq_mo_18 hq_mo_20 hq_mo_1 hq_mo_17 hgr84 hpc84 hpk84 hmu
      exact absurd hmu (Nat.not_lt_zero _)
    | succ n ih84 =>
      intro f84 v84_1 lv84_1 uv84_1 w84_mo_2 lw84_mo_2 uw84_mo_2 w84_as_2 lw84_as_2 uw84_as_2 w84_sr_3 lw84_sr_3 uw84_sr_3 w84_sr_4 lw84_sr_4 uw84_sr_4 w84_mo_8 lw84_mo_8 uw84_mo_8 w84_mo_4 lw84_mo_4 uw84_mo_4 hj_mo_2 hj_as_2 hj_as_0 hj_sr_3 hj_sr_4 hj_mo_8 hj_mo_4 hq_mo_13 hq_mo_15 hq_mo_18 hq_mo_20 hq_mo_1 hq_mo_17 hgr84 hpc84 hpk84 hmu H locs hB ls hl
      refine q_ild_n cx dX12_readText_84 rfl (lv_at hl 1 rfl) ?_
      refine q_ald_n cx dX12_readText_85 rfl (lv_at hl 0 rfl) ?_
      refine q_gX12_20 cx hB hmo kmo hq_mo_13 dX12_readText_86 (fun hb1223 kb1223 => ?_)
      refine q_iconst cx dX12_readText_89 ?_
      obtain ⟨x1224, ex1224⟩ : ∃ zz, q_is (q_z f84 sr (Int.toNat 0)) zz := ⟨_, q_isr _⟩
      refine q_iald (lo := 0) (hi := 10) (n := 658) cx hB hsr ksr (by decide) rfl rfl (by decide) (by decide) (by decide) rfl ex1224 dX12_readText_90 (fun lb1225 ub1225 => ?_)
      refine q_icge (tgt := 138) cx ⟨by omega, by omega⟩ ⟨by omega, by omega⟩ dX12_readText_91 (by decide) (fun c1226 => ?_) (fun c1226 => ?_)
      · refine q_ald_n cx dX12_readText_138 rfl (lv_at hl 0 rfl) ?_
        refine q_iconst cx dX12_readText_139 ?_
        refine q_pX12_158 cx hB hmo kmo ⟨by decide, by decide⟩ (by decide) (by decide) rfl dX12_readText_140 (fun H locs f1227 ef1227 z1228 hB => ?_)
        have z1229 : q_is (q_z f1227 mo 2) w84_mo_2 := by rw [ef1227, q_setz (Or.inr (by decide))]; exact hj_mo_2
        have z1230 : q_is (q_z f1227 as 2) w84_as_2 := by rw [ef1227, q_setz (Or.inr (by decide))]; exact hj_as_2
        have z1231 : q_is (q_z f1227 as 0) xc := by rw [ef1227, q_setz (Or.inr (by decide))]; exact hj_as_0
        have z1232 : q_is (q_z f1227 sr 3) w84_sr_3 := by rw [ef1227, q_setz (Or.inr (by decide))]; exact hj_sr_3
        have z1233 : q_is (q_z f1227 sr 4) w84_sr_4 := by rw [ef1227, q_setz (Or.inr (by decide))]; exact hj_sr_4
        have z1234 : q_is (q_z f1227 mo 8) w84_mo_8 := by rw [ef1227, q_setz (Or.inr (by decide))]; exact hj_mo_8
        have z1235 : q_is (q_z f1227 mo 4) w84_mo_4 := by rw [ef1227, q_setz (Or.inr (by decide))]; exact hj_mo_4
        have z1236 : q_is (q_z f1227 sr 0) x1224 := by rw [ef1227, q_setz (Or.inr (by decide))]; exact ex1224
        have z1237 : q_ir (q_r f1227 mo 13) sr := by rw [ef1227, q_setr (Or.inr (by decide))]; exact hq_mo_13
        have z1238 : q_ir (q_r f1227 mo 15) as := by rw [ef1227, q_setr (Or.inr (by decide))]; exact hq_mo_15
        have z1239 : q_ir (q_r f1227 mo 18) nm := by rw [ef1227, q_setr (Or.inr (by decide))]; exact hq_mo_18
        have z1240 : q_ir (q_r f1227 mo 20) anm := by rw [ef1227, q_setr (Or.inr (by decide))]; exact hq_mo_20
        have z1241 : q_ir (q_r f1227 mo 1) bu := by rw [ef1227, q_setr (Or.inr (by decide))]; exact hq_mo_1
        have z1242 : q_ir (q_r f1227 mo 17) pa := by rw [ef1227, q_setr (Or.inr (by decide))]; exact hq_mo_17
        have g1243 : q_gr f1227 sr := q_gr_ne hgr84 ef1227 (fun q => q_kne (k := 151) (k2 := 12) (by decide) ksr kmo q)
        have hpk0 : q_pk f1227 mo pa := k_pk0 z1228
        refine q_ald_n cx dX12_readText_143 rfl (lv_at hl 0 rfl) ?_
        refine q_gX12_20 cx hB hmo kmo z1237 dX12_readText_144 (fun hb1244 kb1244 => ?_)
        refine q_iconst cx dX12_readText_147 ?_
        refine q_iald (lo := 0) (hi := 10) (n := 658) cx hB hsr ksr (by decide) rfl rfl (by decide) (by decide) (by decide) rfl z1236 dX12_readText_148 (fun lb1246 ub1246 => ?_)
        refine q_iret cx hr hlk hB dX12_readText_149 ⟨by omega, by omega⟩ ?_
        exact ⟨(by omega), (by omega), (q_isl z1232 (by omega)), (q_isu z1232 (by omega)), (q_isl z1233 (by omega)), (q_isu z1233 (by omega)), (Eq.trans z1229 (by omega)), g1243, hpk0⟩
      · refine q_ald_n cx dX12_readText_94 rfl (lv_at hl 0 rfl) ?_
        refine q_ild_n cx dX12_readText_95 rfl (lv_at hl 1 rfl) ?_
        refine q_iconst cx dX12_readText_96 ?_
        refine q_ald_n cx dX12_readText_97 rfl (lv_at hl 0 rfl) ?_
        refine q_ild_n cx dX12_readText_98 rfl (lv_at hl 1 rfl) ?_
        refine q_iconst cx dX12_readText_99 ?_
        refine q_cVi (As := [.int (q_i v84_1), .int (q_i 0)]) (rest := [.int (q_i 0), .int (q_i v84_1), .ref mo]) cx hB (fun _ h => h) hN hmo kmo (by decide) rfl (r_ofNode0 l g hN hB.2.1 mo hmo kmo v84_1 (by omega) (by omega) 0 (by decide) (by decide) sr hsr ksr hq_mo_13 hgr84) q_cX12_256 q_dX12_ofNode (by decide) rfl rfl hl.1 rfl (Nat.le_of_ble_eq_true rfl) dX12_readText_100 (fun y1248 H locs f1247 ry1248 h1249 hF hB => ?_)
        obtain ⟨rfl, ly1248, uy1248⟩ := h1249
        refine q_ald_n cx dX12_readText_103 rfl (lv_at hl 0 rfl) ?_
        refine q_gX12_20 cx hB hmo kmo hq_mo_13 dX12_readText_104 (fun hb1250 kb1250 => ?_)
        refine q_iconst cx dX12_readText_107 ?_
        obtain ⟨x1251, ex1251⟩ : ∃ zz, q_is (q_z f84 sr (Int.toNat 2)) zz := ⟨_, q_isr _⟩
        refine q_sald cx hB hsr ksr (by decide) (by decide) ex1251 dX12_readText_108 (fun rx1251 => ?_)
        obtain ⟨lx1251, ux1251⟩ : 4 ≤ x1251 ∧ x1251 ≤ 60 := q_isb ex1251 (q_gr_at hgr84 (by decide) rfl)
        refine q_irem cx ⟨by omega, by omega⟩ ⟨by omega, by omega⟩ (by omega) dX12_readText_109 (fun y1253 ey1253 ay1253 by1253 ny1253 => ?_)
        refine q_cVv (As := [.int (q_i v84_1), .int (q_i 0), .int (q_i y1253)]) (rest := []) cx hB (fun _ h => h) hN hmo kmo (by decide) rfl (r_setsNode0 l g hN hB.2.1 mo hmo kmo v84_1 (by omega) (by omega) 0 (by decide) (by decide) y1253 (by omega) (by omega) sr hsr ksr hq_mo_13 hgr84) q_cX12_202 q_dX12_setsNode (by decide) rfl rfl hl.1 rfl (Nat.le_of_ble_eq_true rfl) dX12_readText_110 (fun H locs f1254 h1256 hF hB => ?_)
        have g1257 := h1256
        have z1258 : q_is (q_z f1254 mo 2) w84_mo_2 := Eq.trans (hF.z hmo (by rw [kmo]; rfl)) hj_mo_2
        have z1259 : q_is (q_z f1254 as 2) w84_as_2 := Eq.trans (hF.z has (by rw [kas]; rfl)) hj_as_2
        have z1260 : q_is (q_z f1254 as 0) xc := Eq.trans (hF.z has (by rw [kas]; rfl)) hj_as_0
        have z1261 : q_is (q_z f1254 sr 3) w84_sr_3 := Eq.trans (hF.z hsr (by rw [ksr]; rfl)) hj_sr_3
        have z1262 : q_is (q_z f1254 sr 4) w84_sr_4 := Eq.trans (hF.z hsr (by rw [ksr]; rfl)) hj_sr_4
        have z1263 : q_is (q_z f1254 mo 8) w84_mo_8 := Eq.trans (hF.z hmo (by rw [kmo]; rfl)) hj_mo_8
        have z1264 : q_is (q_z f1254 mo 4) w84_mo_4 := Eq.trans (hF.z hmo (by rw [kmo]; rfl)) hj_mo_4
        have z1265 : q_is (q_z f1254 sr 0) x1224 := Eq.trans (hF.z hsr (by rw [ksr]; rfl)) ex1224
        have z1266 : q_is (q_z f1254 sr 2) x1251 := Eq.trans (hF.z hsr (by rw [ksr]; rfl)) ex1251
        have z1267 : q_ir (q_r f1254 mo 13) sr := Eq.trans (hF.r hmo (by rw [kmo]; rfl)) hq_mo_13
        have z1268 : q_ir (q_r f1254 mo 15) as := Eq.trans (hF.r hmo (by rw [kmo]; rfl)) hq_mo_15
        have z1269 : q_ir (q_r f1254 mo 18) nm := Eq.trans (hF.r hmo (by rw [kmo]; rfl)) hq_mo_18
        have z1270 : q_ir (q_r f1254 mo 20) anm := Eq.trans (hF.r hmo (by rw [kmo]; rfl)) hq_mo_20
        have z1271 : q_ir (q_r f1254 mo 1) bu := Eq.trans (hF.r hmo (by rw [kmo]; rfl)) hq_mo_1
        have z1272 : q_ir (q_r f1254 mo 17) pa := Eq.trans (hF.r hmo (by rw [kmo]; rfl)) hq_mo_17
        have g1273 : q_pk f1254 mo pa := q_pk_tr hpk84 (hF.z hmo (by rw [kmo]; rfl)) (fun i9 => hF.z hpa (by rw [kpa]; rfl))
        have g1274 : q_pc f1254 mo pa xc := q_pc_tr hpc84 (hF.z hmo (by rw [kmo]; rfl)) (fun i9 => hF.z hpa (by rw [kpa]; rfl))
        refine q_ald_n cx dX12_readText_113 rfl (lv_at hl 0 rfl) ?_
        refine q_ild_n cx dX12_readText_114 rfl (lv_at hl 1 rfl) ?_
        refine q_iconst cx dX12_readText_115 ?_
        refine q_ald_n cx dX12_readText_116 rfl (lv_at hl 0 rfl) ?_
        refine q_ild_n cx dX12_readText_117 rfl (lv_at hl 1 rfl) ?_
        refine q_iconst cx dX12_readText_118 ?_
        refine q_cVi (As := [.int (q_i v84_1), .int (q_i 1)]) (rest := [.int (q_i 1), .int (q_i v84_1), .ref mo]) cx hB (fun _ h => h) hN hmo kmo (by decide) rfl (r_ofNode1 l g hN hB.2.1 mo hmo kmo v84_1 (by omega) (by omega) 1 (by decide) (by decide) sr hsr ksr z1267 g1257) q_cX12_256 q_dX12_ofNode (by decide) rfl rfl hl.1 rfl (Nat.le_of_ble_eq_true rfl) dX12_readText_119 (fun y1276 H locs f1275 ry1276 h1277 hF hB => ?_)
        obtain ⟨rfl, ly1276, uy1276⟩ := h1277
        refine q_ald_n cx dX12_readText_122 rfl (lv_at hl 0 rfl) ?_
        refine q_gX12_20 cx hB hmo kmo z1267 dX12_readText_123 (fun hb1278 kb1278 => ?_)
        refine q_iconst cx dX12_readText_126 ?_
        refine q_iald (lo := (-2147483648)) (hi := 2147483647) (n := 658) cx hB hsr ksr (by decide) rfl rfl (by decide) (by decide) (by decide) rfl z1266 dX12_readText_127 (fun lb1280 ub1280 => ?_)
        refine q_irem cx ⟨by omega, by omega⟩ ⟨by omega, by omega⟩ (by omega) dX12_readText_128 (fun y1281 ey1281 ay1281 by1281 ny1281 => ?_)
        refine q_cVv (As := [.int (q_i v84_1), .int (q_i 1), .int (q_i y1281)]) (rest := []) cx hB (fun _ h => h) hN hmo kmo (by decide) rfl (r_setsNode1 l g hN hB.2.1 mo hmo kmo v84_1 (by omega) (by omega) 1 (by decide) (by decide) y1281 (by omega) (by omega) sr hsr ksr z1267 g1257) q_cX12_202 q_dX12_setsNode (by decide) rfl rfl hl.1 rfl (Nat.le_of_ble_eq_true rfl) dX12_readText_129 (fun H locs f1282 h1284 hF hB => ?_)
        have g1285 := h1284
        have z1286 : q_is (q_z f1282 mo 2) w84_mo_2 := Eq.trans (hF.z hmo (by rw [kmo]; rfl)) z1258
        have z1287 : q_is (q_z f1282 as 2) w84_as_2 := Eq.trans (hF.z has (by rw [kas]; rfl)) z1259
        have z1288 : q_is (q_z f1282 as 0) xc := Eq.trans (hF.z has (by rw [kas]; rfl)) z1260
        have z1289 : q_is (q_z f1282 sr 3) w84_sr_3 := Eq.trans (hF.z hsr (by rw [ksr]; rfl)) z1261
        have z1290 : q_is (q_z f1282 sr 4) w84_sr_4 := Eq.trans (hF.z hsr (by rw [ksr]; rfl)) z1262
        have z1291 : q_is (q_z f1282 mo 8) w84_mo_8 := Eq.trans (hF.z hmo (by rw [kmo]; rfl)) z1263
        have z1292 : q_is (q_z f1282 mo 4) w84_mo_4 := Eq.trans (hF.z hmo (by rw [kmo]; rfl)) z1264
        have z1293 : q_is (q_z f1282 sr 0) x1224 := Eq.trans (hF.z hsr (by rw [ksr]; rfl)) z1265
        have z1294 : q_is (q_z f1282 sr 2) x1251 := Eq.trans (hF.z hsr (by rw [ksr]; rfl)) z1266
        have z1295 : q_ir (q_r f1282 mo 13) sr := Eq.trans (hF.r hmo (by rw [kmo]; rfl)) z1267
        have z1296 : q_ir (q_r f1282 mo 15) as := Eq.trans (hF.r hmo (by rw [kmo]; rfl)) z1268
        have z1297 : q_ir (q_r f1282 mo 18) nm := Eq.trans (hF.r hmo (by rw [kmo]; rfl)) z1269
        have z1298 : q_ir (q_r f1282 mo 20) anm := Eq.trans (hF.r hmo (by rw [kmo]; rfl)) z1270
        have z1299 : q_ir (q_r f1282 mo 1) bu := Eq.trans (hF.r hmo (by rw [kmo]; rfl)) z1271
        have z1300 : q_ir (q_r f1282 mo 17) pa := Eq.trans (hF.r hmo (by rw [kmo]; rfl)) z1272
        have g1301 : q_pk f1282 mo pa := q_pk_tr g1273 (hF.z hmo (by rw [kmo]; rfl)) (fun i9 => hF.z hpa (by rw [kpa]; rfl))
        have g1302 : q_pc f1282 mo pa xc := q_pc_tr g1274 (hF.z hmo (by rw [kmo]; rfl)) (fun i9 => hF.z hpa (by rw [kpa]; rfl))
        refine q_iinc (lv' := [(1, .int (q_i (v84_1 + 1))), (0, .ref mo)]) cx dX12_readText_132 hl (k := 1) rfl (by decide) rfl (fun ls hl => ?_)
        refine lv_goto (tgt := 84) cx.1 cx.2.1 dX12_readText_135 (by decide) ?_
        exact ih84 f1282 (v84_1 + 1) (by omega) (by omega) w84_mo_2 (by omega) (by omega) w84_as_2 (by omega) (by omega) w84_sr_3 (by omega) (by omega) w84_sr_4 (by omega) (by omega) w84_mo_8 (by omega) (by omega) w84_mo_4 (by omega) (by omega) z1286 z1287 z1288 z1289 z1290 z1291 z1292 z1295 z1296 z1297 z1298 z1299 z1300 g1285 g1302 g1301 (by omega) H locs hB ls (lv_sub hl [1, 0] rfl)
  have J28 : ∀ (n : Nat) (f28 : Nat → va_E) (w28_mo_2 : Int) (lw28_mo_2 : 0 ≤ w28_mo_2) (uw28_mo_2 : w28_mo_2 ≤ 0) (w28_as_2 : Int) (lw28_as_2 : 4 ≤ w28_as_2) (uw28_as_2 : w28_as_2 ≤ 60) (w28_sr_3 : Int) (lw28_sr_3 : 0 ≤ w28_sr_3) (uw28_sr_3 : w28_sr_3 ≤ 9999) (w28_sr_4 : Int) (lw28_sr_4 : 0 ≤ w28_sr_4) (uw28_sr_4 : w28_sr_4 ≤ 60) (w28_mo_8 : Int) (lw28_mo_8 : 0 ≤ w28_mo_8) (uw28_mo_8 : w28_mo_8 ≤ 0) (w28_mo_4 : Int) (lw28_mo_4 : 0 ≤ w28_mo_4) (uw28_mo_4 : w28_mo_4 ≤ 600) (hj_mo_2 : q_is (q_z f28 mo 2) w28_mo_2) (hj_as_2 : q_is (q_z f28 as 2) w28_as_2) (hj_as_0 : q_is (q_z f28 as 0) xc) (hj_sr_3 : q_is (q_z f28 sr 3) w28_sr_3) (hj_sr_4 : q_is (q_z f28 sr 4) w28_sr_4) (hj_mo_8 : q_is (q_z f28 mo 8) w28_mo_8) (hj_mo_4 : q_is (q_z f28 mo 4) w28_mo_4) (hq_mo_13 : q_ir (q_r f28 mo 13) sr) (hq_mo_15 : q_ir (q_r f28 mo 15) as) (hq_mo_18 : q_ir (q_r f28 mo 18) nm) (hq_mo_20 : q_ir (q_r f28 mo 20) anm) (hq_mo_1 : q_ir (q_r f28 mo 1) bu) (hq_mo_17 : q_ir (q_r f28 mo 17) pa) (hgr28 : q_gr f28 sr) (hpc28 : q_pc f28 mo pa xc) (hpk28 : q_pk f28 mo pa) (hmu : (Int.toNat (601 - w28_mo_4)) < n) (H : Heap) (locs : List Loc) (hB : q_B g K L (fun q => q ∈ L) [(12, 0, 0), (12, 2, 12), (12, 21, 21), (12, 23, 23), (151, 0, 657), (153, 0, 657), (156, 0, 9), (158, 0, 9)] f f28 s H locs) (ls : Array Slot) (hl : lv_has ls 2 [(0, .ref mo)]), W p l e { frames := 6, cells := 0, slots := 0, locals := 136 } s m ([.ref mo] : List Value).toArray below meth c H locs 0 0 (MQ below (q_Q g K L [(12, 0, 0), (12, 2, 12), (12, 21, 21), (12, 23, 23), (151, 0, 657), (153, 0, 657), (156, 0, 9), (158, 0, 9)] f (q_Pi (fun (z : Int) (f1 : Nat → va_E) => 0 ≤ z ∧ z ≤ 10 ∧ 0 ≤ q_z f1 sr 3 ∧ q_z f1 sr 3 ≤ 9999 ∧ 0 ≤ q_z f1 sr 4 ∧ q_z f1 sr 4 ≤ 60 ∧ q_is (q_z f1 mo 2) 0 ∧ q_gr f1 sr ∧ (q_pk f1 mo pa)))) ([.ref mo] : List Value).toArray s 0 0 (fun q => q ∈ L)) (F0 m 28 ls []) := by
    intro n
    induction n with
    | zero =>
      intro f28 w28_mo_2 lw28_mo_2 uw28_mo_2 w28_as_2 lw28_as_2 uw28_as_2 w28_sr_3 lw28_sr_3 uw28_sr_3 w28_sr_4 lw28_sr_4 uw28_sr_4 w28_mo_8 lw28_mo_8 uw28_mo_8 w28_mo_4 lw28_mo_4 uw28_mo_4 hj_mo_2 hj_as_2 hj_as_0 hj_sr_3 hj_sr_4 hj_mo_8 hj_mo_4 hq_mo_13 hq_mo_15 hq_mo_18 hq_mo_20 hq_mo_1 hq_mo_17 hgr28 hpc28 hpk28 hmu
      exact absurd hmu (Nat.not_lt_zero _)
    | succ n ih28 =>
      intro f28 w28_mo_2 lw28_mo_2 uw28_mo_2 w28_as_2 lw28_as_2 uw28_as_2 w28_sr_3 lw28_sr_3 uw28_sr_3 w28_sr_4 lw28_sr_4 uw28_sr_4 w28_mo_8 lw28_mo_8 uw28_mo_8 w28_mo_4 lw28_mo_4 uw28_mo_4 hj_mo_2 hj_as_2 hj_as_0 hj_sr_3 hj_sr_4 hj_mo_8 hj_mo_4 hq_mo_13 hq_mo_15 hq_mo_18 hq_mo_20 hq_mo_1 hq_mo_17 hgr28 hpc28 hpk28 hmu H locs hB ls hl
      refine q_ald_n cx dX12_readText_28 rfl (lv_at hl 0 rfl) ?_
      refine q_cVi (As := []) (rest := []) cx hB (fun _ h => h) hN hmo kmo (by decide) rfl (r_isGood0 l g hN hB.2.1 mo hmo kmo (Eq.trans hj_mo_8 (by omega))) q_cX12_130 q_dX12_isGood (by decide) rfl rfl hl.1 rfl (Nat.le_of_ble_eq_true rfl) dX12_readText_29 (fun y1304 H locs f1303 ry1304 h1305 hF hB => ?_)
      obtain ⟨rfl, qy1304⟩ := h1305
      subst qy1304
      refine q_ifeq (tgt := 49) cx ⟨by decide, by decide⟩ dX12_readText_32 (by decide) (fun c1306 => ?_) (fun c1306 => ?_)
      · exact absurd c1306 (by omega)
      · refine q_ald_n cx dX12_readText_35 rfl (lv_at hl 0 rfl) ?_
        obtain ⟨x1307, ex1307⟩ : ∃ zz, q_is (q_z f28 mo 6) zz := ⟨_, q_isr _⟩
        refine q_gX12_117 cx hB hmo kmo ex1307 dX12_readText_36 (fun lb1308 ub1308 => ?_)
        refine q_ifeq (tgt := 49) cx ⟨by omega, by omega⟩ dX12_readText_39 (by decide) (fun c1309 => ?_) (fun c1309 => ?_)
        · refine q_ald_n cx dX12_readText_49 rfl (lv_at hl 0 rfl) ?_
          refine q_cVi (As := []) (rest := []) cx hB (fun _ h => h) hN hmo kmo (by decide) rfl (r_endsText0 l g hN hB.2.1 mo hmo kmo (Eq.trans hj_mo_8 (by omega))) q_cX12_253 q_dX12_endsText (by decide) rfl rfl hl.1 rfl (Nat.le_of_ble_eq_true rfl) dX12_readText_50 (fun y1311 H locs f1310 ry1311 h1312 hF hB => ?_)
          obtain ⟨qy1311, z1313⟩ := h1312
          have z1314 : q_is (q_z f1310 mo 2) w28_mo_2 := Eq.trans (hF.z hmo (by rw [kmo]; rfl)) hj_mo_2
          have z1315 : q_is (q_z f1310 as 2) w28_as_2 := Eq.trans (hF.z has (by rw [kas]; rfl)) hj_as_2
          have z1316 : q_is (q_z f1310 as 0) xc := Eq.trans (hF.z has (by rw [kas]; rfl)) hj_as_0
          have z1317 : q_is (q_z f1310 sr 3) w28_sr_3 := Eq.trans (hF.z hsr (by rw [ksr]; rfl)) hj_sr_3
          have z1318 : q_is (q_z f1310 sr 4) w28_sr_4 := Eq.trans (hF.z hsr (by rw [ksr]; rfl)) hj_sr_4
          have z1319 : q_is (q_z f1310 mo 8) w28_mo_8 := Eq.trans (hF.z hmo (by rw [kmo]; rfl)) hj_mo_8
          have z1320 : q_is (q_z f1310 mo 4) w28_mo_4 := Eq.trans (hF.z hmo (by rw [kmo]; rfl)) hj_mo_4
          have z1321 : q_is (q_z f1310 mo 6) x1307 := Eq.trans (hF.z hmo (by rw [kmo]; rfl)) ex1307
          have z1322 : q_ir (q_r f1310 mo 13) sr := Eq.trans (hF.r hmo (by rw [kmo]; rfl)) hq_mo_13
          have z1323 : q_ir (q_r f1310 mo 15) as := Eq.trans (hF.r hmo (by rw [kmo]; rfl)) hq_mo_15
          have z1324 : q_ir (q_r f1310 mo 18) nm := Eq.trans (hF.r hmo (by rw [kmo]; rfl)) hq_mo_18
          have z1325 : q_ir (q_r f1310 mo 20) anm := Eq.trans (hF.r hmo (by rw [kmo]; rfl)) hq_mo_20
          have z1326 : q_ir (q_r f1310 mo 1) bu := Eq.trans (hF.r hmo (by rw [kmo]; rfl)) hq_mo_1
          have z1327 : q_ir (q_r f1310 mo 17) pa := Eq.trans (hF.r hmo (by rw [kmo]; rfl)) hq_mo_17
          have g1328 : q_gr f1310 sr := q_gr_fr hgr28 (fun i9 _ => hF.z hsr (by rw [ksr]; rfl))
          have g1329 : q_pk f1310 mo pa := q_pk_tr hpk28 (hF.z hmo (by rw [kmo]; rfl)) (fun i9 => hF.z hpa (by rw [kpa]; rfl))
          have g1330 : q_pc f1310 mo pa xc := q_pc_tr hpc28 (hF.z hmo (by rw [kmo]; rfl)) (fun i9 => hF.z hpa (by rw [kpa]; rfl))
          subst qy1311
          refine q_ifne (tgt := 82) cx ⟨by decide, by decide⟩ dX12_readText_53 (by decide) (fun c1331 => ?_) (fun c1331 => ?_)
          · refine q_iconst cx dX12_readText_82 ?_
            refine lv_istore_n (lv' := [(1, .int (q_i 0)), (0, .ref mo)]) cx.1 cx.2.1 dX12_readText_83 rfl hl (by decide) rfl (fun ls hl => ?_)
            exact J84 ((Int.toNat (2147483647 - 0)) + 1) f1310 0 (by decide) (by decide) w28_mo_2 (by omega) (by omega) w28_as_2 (by omega) (by omega) w28_sr_3 (by omega) (by omega) w28_sr_4 (by omega) (by omega) w28_mo_8 (by omega) (by omega) w28_mo_4 (by omega) (by omega) z1314 z1315 z1316 z1317 z1318 z1319 z1320 z1322 z1323 z1324 z1325 z1326 z1327 g1328 g1330 g1329 (Nat.lt_succ_self _) H locs hB ls (lv_sub hl [1, 0] rfl)
          · exact absurd c1331 (by omega)
        · refine q_ald_n cx dX12_readText_42 rfl (lv_at hl 0 rfl) ?_
          refine q_cVv (As := []) (rest := []) cx hB (fun _ h => h) hN hmo kmo (by decide) rfl (r_statement0 l g hN hB.2.1 mo hmo kmo sr hsr ksr nm hnm knm bu hbu kbu w28_mo_4 (by omega) (by omega) (Eq.trans hj_mo_8 (by omega)) hj_mo_4 hq_mo_13 hq_mo_18 hq_mo_1 hgr28) q_cX12_250 q_dX12_statement (by decide) rfl rfl hl.1 rfl (Nat.le_of_ble_eq_true rfl) dX12_readText_43 (fun H locs f1332 h1334 hF hB => ?_)
          rcases h1334 with h1335 | h1336
          · obtain ⟨z1337, t1338, g1339⟩ := h1335
            have z1340 : q_is (q_z f1332 mo 2) w28_mo_2 := Eq.trans (hF.z hmo (by rw [kmo]; rfl)) hj_mo_2
            have z1341 : q_is (q_z f1332 as 2) w28_as_2 := Eq.trans (hF.z has (by rw [kas]; rfl)) hj_as_2
            have z1342 : q_is (q_z f1332 as 0) xc := Eq.trans (hF.z has (by rw [kas]; rfl)) hj_as_0
            have z1343 : q_is (q_z f1332 sr 3) w28_sr_3 := Eq.trans (hF.z hsr (by rw [ksr]; rfl)) hj_sr_3
            have z1344 : q_is (q_z f1332 sr 4) w28_sr_4 := Eq.trans (hF.z hsr (by rw [ksr]; rfl)) hj_sr_4
            have z1345 : q_ir (q_r f1332 mo 13) sr := Eq.trans (hF.r hmo (by rw [kmo]; rfl)) hq_mo_13
            have z1346 : q_ir (q_r f1332 mo 15) as := Eq.trans (hF.r hmo (by rw [kmo]; rfl)) hq_mo_15
            have z1347 : q_ir (q_r f1332 mo 18) nm := Eq.trans (hF.r hmo (by rw [kmo]; rfl)) hq_mo_18
            have z1348 : q_ir (q_r f1332 mo 20) anm := Eq.trans (hF.r hmo (by rw [kmo]; rfl)) hq_mo_20
            have z1349 : q_ir (q_r f1332 mo 1) bu := Eq.trans (hF.r hmo (by rw [kmo]; rfl)) hq_mo_1
            have z1350 : q_ir (q_r f1332 mo 17) pa := Eq.trans (hF.r hmo (by rw [kmo]; rfl)) hq_mo_17
            have g1351 : q_pk f1332 mo pa := q_pk_tr hpk28 (hF.z hmo (by rw [kmo]; rfl)) (fun i9 => hF.z hpa (by rw [kpa]; rfl))
            have g1352 : q_pc f1332 mo pa xc := q_pc_tr hpc28 (hF.z hmo (by rw [kmo]; rfl)) (fun i9 => hF.z hpa (by rw [kpa]; rfl))
            obtain ⟨x1353, ex1353⟩ : ∃ zz, q_is (q_z f1332 mo 4) zz := ⟨_, q_isr _⟩
            obtain ⟨lx1353, ux1353⟩ := q_isb ex1353 (q_fib hB.2.1 hmo kmo (by decide) rfl)
            obtain ⟨x1354, ex1354⟩ : ∃ zz, q_is (q_z f1332 mo 6) zz := ⟨_, q_isr _⟩
            obtain ⟨lx1354, ux1354⟩ := q_isb ex1354 (q_fib hB.2.1 hmo kmo (by decide) rfl)
            replace t1338 := q_islt9 ex1353 t1338
            refine lv_goto (tgt := 28) cx.1 cx.2.1 dX12_readText_46 (by decide) ?_
            exact ih28 f1332 w28_mo_2 (by omega) (by omega) w28_as_2 (by omega) (by omega) w28_sr_3 (by omega) (by omega) w28_sr_4 (by omega) (by omega) 0 (by decide) (by decide) x1353 (by omega) (by omega) z1340 z1341 z1342 z1343 z1344 z1337 ex1353 z1345 z1346 z1347 z1348 z1349 z1350 g1339 g1352 g1351 (by omega) H locs hB ls (lv_sub hl [0] rfl)
          · obtain ⟨lz1355, uz1355⟩ := h1336
            have z1356 : q_is (q_z f1332 mo 2) w28_mo_2 := Eq.trans (hF.z hmo (by rw [kmo]; rfl)) hj_mo_2
            have z1357 : q_is (q_z f1332 as 2) w28_as_2 := Eq.trans (hF.z has (by rw [kas]; rfl)) hj_as_2
            have z1358 : q_is (q_z f1332 as 0) xc := Eq.trans (hF.z has (by rw [kas]; rfl)) hj_as_0
            have z1359 : q_is (q_z f1332 sr 3) w28_sr_3 := Eq.trans (hF.z hsr (by rw [ksr]; rfl)) hj_sr_3
            have z1360 : q_is (q_z f1332 sr 4) w28_sr_4 := Eq.trans (hF.z hsr (by rw [ksr]; rfl)) hj_sr_4
            have z1361 : q_ir (q_r f1332 mo 13) sr := Eq.trans (hF.r hmo (by rw [kmo]; rfl)) hq_mo_13
            have z1362 : q_ir (q_r f1332 mo 15) as := Eq.trans (hF.r hmo (by rw [kmo]; rfl)) hq_mo_15
            have z1363 : q_ir (q_r f1332 mo 18) nm := Eq.trans (hF.r hmo (by rw [kmo]; rfl)) hq_mo_18
            have z1364 : q_ir (q_r f1332 mo 20) anm := Eq.trans (hF.r hmo (by rw [kmo]; rfl)) hq_mo_20
            have z1365 : q_ir (q_r f1332 mo 1) bu := Eq.trans (hF.r hmo (by rw [kmo]; rfl)) hq_mo_1
            have z1366 : q_ir (q_r f1332 mo 17) pa := Eq.trans (hF.r hmo (by rw [kmo]; rfl)) hq_mo_17
            have g1367 : q_pk f1332 mo pa := q_pk_tr hpk28 (hF.z hmo (by rw [kmo]; rfl)) (fun i9 => hF.z hpa (by rw [kpa]; rfl))
            have g1368 : q_pc f1332 mo pa xc := q_pc_tr hpc28 (hF.z hmo (by rw [kmo]; rfl)) (fun i9 => hF.z hpa (by rw [kpa]; rfl))
            obtain ⟨x1369, ex1369⟩ : ∃ zz, q_is (q_z f1332 mo 8) zz := ⟨_, q_isr _⟩
            obtain ⟨lx1369, ux1369⟩ := q_isb ex1369 ⟨lz1355, uz1355⟩
            obtain ⟨x1370, ex1370⟩ : ∃ zz, q_is (q_z f1332 mo 4) zz := ⟨_, q_isr _⟩
            obtain ⟨lx1370, ux1370⟩ := q_isb ex1370 (q_fib hB.2.1 hmo kmo (by decide) rfl)
            obtain ⟨x1371, ex1371⟩ : ∃ zz, q_is (q_z f1332 mo 6) zz := ⟨_, q_isr _⟩
            obtain ⟨lx1371, ux1371⟩ := q_isb ex1371 (q_fib hB.2.1 hmo kmo (by decide) rfl)
            refine lv_goto (tgt := 28) cx.1 cx.2.1 dX12_readText_46 (by decide) ?_
            refine q_ald_n cx dX12_readText_28 rfl (lv_at hl 0 rfl) ?_
            refine q_cVi (As := []) (rest := []) cx hB (fun _ h => h) hN hmo kmo (by decide) rfl (r_isGood1 l g hN hB.2.1 mo hmo kmo x1369 (by omega) (by omega) ex1369) q_cX12_130 q_dX12_isGood (by decide) rfl rfl hl.1 rfl (Nat.le_of_ble_eq_true rfl) dX12_readText_29 (fun y1373 H locs f1372 ry1373 h1374 hF hB => ?_)
            obtain ⟨rfl, qy1373⟩ := h1374
            subst qy1373
            refine q_ifeq (tgt := 49) cx ⟨by decide, by decide⟩ dX12_readText_32 (by decide) (fun c1375 => ?_) (fun c1375 => ?_)
            · refine q_ald_n cx dX12_readText_49 rfl (lv_at hl 0 rfl) ?_
              refine q_cVi (As := []) (rest := []) cx hB (fun _ h => h) hN hmo kmo (by decide) rfl (r_endsText1 l g hN hB.2.1 mo hmo kmo x1369 (by omega) (by omega) ex1369) q_cX12_253 q_dX12_endsText (by decide) rfl rfl hl.1 rfl (Nat.le_of_ble_eq_true rfl) dX12_readText_50 (fun y1377 H locs f1376 ry1377 h1378 hF hB => ?_)
              obtain ⟨qy1377, z1379⟩ := h1378
              have z1380 : q_is (q_z f1376 mo 2) w28_mo_2 := Eq.trans (hF.z hmo (by rw [kmo]; rfl)) z1356
              have z1381 : q_is (q_z f1376 as 2) w28_as_2 := Eq.trans (hF.z has (by rw [kas]; rfl)) z1357
              have z1382 : q_is (q_z f1376 as 0) xc := Eq.trans (hF.z has (by rw [kas]; rfl)) z1358
              have z1383 : q_is (q_z f1376 sr 3) w28_sr_3 := Eq.trans (hF.z hsr (by rw [ksr]; rfl)) z1359
              have z1384 : q_is (q_z f1376 sr 4) w28_sr_4 := Eq.trans (hF.z hsr (by rw [ksr]; rfl)) z1360
              have z1385 : q_is (q_z f1376 mo 8) x1369 := Eq.trans (hF.z hmo (by rw [kmo]; rfl)) ex1369
              have z1386 : q_is (q_z f1376 mo 4) x1370 := Eq.trans (hF.z hmo (by rw [kmo]; rfl)) ex1370
              have z1387 : q_is (q_z f1376 mo 6) x1371 := Eq.trans (hF.z hmo (by rw [kmo]; rfl)) ex1371
              have z1388 : q_ir (q_r f1376 mo 13) sr := Eq.trans (hF.r hmo (by rw [kmo]; rfl)) z1361
              have z1389 : q_ir (q_r f1376 mo 15) as := Eq.trans (hF.r hmo (by rw [kmo]; rfl)) z1362
              have z1390 : q_ir (q_r f1376 mo 18) nm := Eq.trans (hF.r hmo (by rw [kmo]; rfl)) z1363
              have z1391 : q_ir (q_r f1376 mo 20) anm := Eq.trans (hF.r hmo (by rw [kmo]; rfl)) z1364
              have z1392 : q_ir (q_r f1376 mo 1) bu := Eq.trans (hF.r hmo (by rw [kmo]; rfl)) z1365
              have z1393 : q_ir (q_r f1376 mo 17) pa := Eq.trans (hF.r hmo (by rw [kmo]; rfl)) z1366
              have g1394 : q_pk f1376 mo pa := q_pk_tr g1367 (hF.z hmo (by rw [kmo]; rfl)) (fun i9 => hF.z hpa (by rw [kpa]; rfl))
              have g1395 : q_pc f1376 mo pa xc := q_pc_tr g1368 (hF.z hmo (by rw [kmo]; rfl)) (fun i9 => hF.z hpa (by rw [kpa]; rfl))
              subst qy1377
              refine q_ifne (tgt := 82) cx ⟨by decide, by decide⟩ dX12_readText_53 (by decide) (fun c1396 => ?_) (fun c1396 => ?_)
              · exact absurd c1396 (by omega)
              · refine q_ald_n cx dX12_readText_56 rfl (lv_at hl 0 rfl) ?_
                refine q_gX12_26 cx hB hmo kmo z1389 dX12_readText_57 (fun hb1397 kb1397 => ?_)
                refine q_iconst cx dX12_readText_60 ?_
                refine q_ald_n cx dX12_readText_61 rfl (lv_at hl 0 rfl) ?_
                refine q_gX12_20 cx hB hmo kmo z1388 dX12_readText_62 (fun hb1398 kb1398 => ?_)
                refine q_iconst cx dX12_readText_65 ?_
                refine q_cSv (As := [.ref as, .int (q_i 0), .ref sr, .int (q_i 0)]) (rest := []) cx hB (fun _ h => h) hN (r_copiesRow_as_sr l g hN hB.2.1 as has kas 0 (by decide) (by decide) sr hsr ksr 0 (by decide) (by decide) w28_as_2 (by omega) (by omega) xc (by omega) (by omega) z1381 z1382) q_cX12_154 q_dX12_copiesRow (by decide) rfl rfl hl.1 rfl (Nat.le_of_ble_eq_true rfl) dX12_readText_66 (fun H locs f1399 h1401 hF hB => ?_)
                obtain ⟨lz1402, uz1402, lz1403, uz1403, z1404, t1405, g1406⟩ := h1401
                have z1407 : q_is (q_z f1399 mo 2) w28_mo_2 := Eq.trans (hF.z hmo (by rw [kmo]; rfl)) z1380
                have z1408 : q_is (q_z f1399 as 2) w28_as_2 := Eq.trans (hF.z has (by rw [kas]; rfl)) z1381
                have z1409 : q_is (q_z f1399 as 0) xc := Eq.trans (hF.z has (by rw [kas]; rfl)) z1382
                have z1410 : q_is (q_z f1399 mo 8) x1369 := Eq.trans (hF.z hmo (by rw [kmo]; rfl)) z1385
                have z1411 : q_is (q_z f1399 mo 4) x1370 := Eq.trans (hF.z hmo (by rw [kmo]; rfl)) z1386
                have z1412 : q_is (q_z f1399 mo 6) x1371 := Eq.trans (hF.z hmo (by rw [kmo]; rfl)) z1387
                have z1413 : q_is (q_z f1399 mo 0) 1 := Eq.trans (hF.z hmo (by rw [kmo]; rfl)) z1379
                have z1414 : q_ir (q_r f1399 mo 13) sr := Eq.trans (hF.r hmo (by rw [kmo]; rfl)) z1388
                have z1415 : q_ir (q_r f1399 mo 15) as := Eq.trans (hF.r hmo (by rw [kmo]; rfl)) z1389
                have z1416 : q_ir (q_r f1399 mo 18) nm := Eq.trans (hF.r hmo (by rw [kmo]; rfl)) z1390
                have z1417 : q_ir (q_r f1399 mo 20) anm := Eq.trans (hF.r hmo (by rw [kmo]; rfl)) z1391
                have z1418 : q_ir (q_r f1399 mo 1) bu := Eq.trans (hF.r hmo (by rw [kmo]; rfl)) z1392
                have z1419 : q_ir (q_r f1399 mo 17) pa := Eq.trans (hF.r hmo (by rw [kmo]; rfl)) z1393
                have g1420 : q_pk f1399 mo pa := q_pk_tr g1394 (hF.z hmo (by rw [kmo]; rfl)) (fun i9 => hF.z hpa (by rw [kpa]; rfl))
                have g1421 : q_pc f1399 mo pa xc := q_pc_tr g1395 (hF.z hmo (by rw [kmo]; rfl)) (fun i9 => hF.z hpa (by rw [kpa]; rfl))
                obtain ⟨x1422, ex1422⟩ : ∃ zz, q_is (q_z f1399 sr 3) zz := ⟨_, q_isr _⟩
                obtain ⟨lx1422, ux1422⟩ := q_isb ex1422 ⟨lz1402, uz1402⟩
                obtain ⟨x1423, ex1423⟩ : ∃ zz, q_is (q_z f1399 sr 4) zz := ⟨_, q_isr _⟩
                obtain ⟨lx1423, ux1423⟩ := q_isb ex1423 ⟨lz1403, uz1403⟩
                refine q_ald_n cx dX12_readText_69 rfl (lv_at hl 0 rfl) ?_
                refine q_gX12_42 cx hB hmo kmo z1417 dX12_readText_70 (fun hb1424 kb1424 => ?_)
                refine q_ald_n cx dX12_readText_73 rfl (lv_at hl 0 rfl) ?_
                refine q_gX12_35 cx hB hmo kmo z1416 dX12_readText_74 (fun hb1425 kb1425 => ?_)
                refine q_cSv (As := [.ref anm, .ref nm]) (rest := []) cx hB (fun _ h => h) hN (r_copiesNames_158_156 l g hN hB.2.1 anm hanm kanm nm hnm knm) q_cX12_164 q_dX12_copiesNames (by decide) rfl rfl hl.1 rfl (Nat.le_of_ble_eq_true rfl) dX12_readText_77 (fun H locs f1426 h1428 hF hB => ?_)
                have z1429 : q_is (q_z f1426 mo 2) w28_mo_2 := Eq.trans (hF.z hmo (by rw [kmo]; rfl)) z1407
                have z1430 : q_is (q_z f1426 as 2) w28_as_2 := Eq.trans (hF.z has (by rw [kas]; rfl)) z1408
                have z1431 : q_is (q_z f1426 as 0) xc := Eq.trans (hF.z has (by rw [kas]; rfl)) z1409
                have z1432 : q_is (q_z f1426 mo 8) x1369 := Eq.trans (hF.z hmo (by rw [kmo]; rfl)) z1410
                have z1433 : q_is (q_z f1426 mo 4) x1370 := Eq.trans (hF.z hmo (by rw [kmo]; rfl)) z1411
                have z1434 : q_is (q_z f1426 mo 6) x1371 := Eq.trans (hF.z hmo (by rw [kmo]; rfl)) z1412
                have z1435 : q_is (q_z f1426 mo 0) 1 := Eq.trans (hF.z hmo (by rw [kmo]; rfl)) z1413
                have z1436 : q_is (q_z f1426 sr 3) x1422 := Eq.trans (hF.z hsr (by rw [ksr]; rfl)) ex1422
                have z1437 : q_is (q_z f1426 sr 4) x1423 := Eq.trans (hF.z hsr (by rw [ksr]; rfl)) ex1423
                have z1438 : q_is (q_z f1426 sr 0) xc := Eq.trans (hF.z hsr (by rw [ksr]; rfl)) z1404
                have z1439 : q_ir (q_r f1426 mo 13) sr := Eq.trans (hF.r hmo (by rw [kmo]; rfl)) z1414
                have z1440 : q_ir (q_r f1426 mo 15) as := Eq.trans (hF.r hmo (by rw [kmo]; rfl)) z1415
                have z1441 : q_ir (q_r f1426 mo 18) nm := Eq.trans (hF.r hmo (by rw [kmo]; rfl)) z1416
                have z1442 : q_ir (q_r f1426 mo 20) anm := Eq.trans (hF.r hmo (by rw [kmo]; rfl)) z1417
                have z1443 : q_ir (q_r f1426 mo 1) bu := Eq.trans (hF.r hmo (by rw [kmo]; rfl)) z1418
                have z1444 : q_ir (q_r f1426 mo 17) pa := Eq.trans (hF.r hmo (by rw [kmo]; rfl)) z1419
                have g1445 : q_gr f1426 sr := q_gr_fr g1406 (fun i9 _ => hF.z hsr (by rw [ksr]; rfl))
                have g1446 : q_pk f1426 mo pa := q_pk_tr g1420 (hF.z hmo (by rw [kmo]; rfl)) (fun i9 => hF.z hpa (by rw [kpa]; rfl))
                have g1447 : q_pc f1426 mo pa xc := q_pc_tr g1421 (hF.z hmo (by rw [kmo]; rfl)) (fun i9 => hF.z hpa (by rw [kpa]; rfl))
                refine q_iconst cx dX12_readText_80 ?_
                refine q_iret cx hr hlk hB dX12_readText_81 ⟨by decide, by decide⟩ ?_
                exact ⟨(by decide), (by decide), (q_isl z1436 (by omega)), (q_isu z1436 (by omega)), (q_isl z1437 (by omega)), (q_isu z1437 (by omega)), (Eq.trans z1429 (by omega)), g1445, g1446⟩
            · exact absurd c1375 (by omega)
  obtain ⟨H, hH⟩ : ∃ H : Heap, H = s.heap := ⟨_, rfl⟩
  obtain ⟨locs, hlocs⟩ : ∃ z : List Loc, z = [] := ⟨_, rfl⟩
  rw [← hH, ← hlocs] at hB
  rw [← hH, ← hlocs]
  refine q_ald_n cx dX12_readText_0 rfl (lv_at hl 0 rfl) ?_
  refine q_cVv (As := []) (rest := []) cx hB (fun _ h => h) hN hmo kmo (by decide) rfl (r_beginsText l g hN hB.2.1 mo hmo kmo bu hbu kbu hr4) q_cX12_244 q_dX12_beginsText (by decide) rfl rfl hl.1 rfl (Nat.le_of_ble_eq_true rfl) dX12_readText_1 (fun H locs f1448 h1450 hF hB => ?_)
  obtain ⟨z1451, z1452⟩ := h1450
  have z1453 : q_is (q_z f1448 sr 3) xt := Eq.trans (hF.z hsr (by rw [ksr]; rfl)) hf0
  have z1454 : q_is (q_z f1448 sr 4) xm := Eq.trans (hF.z hsr (by rw [ksr]; rfl)) hf1
  have z1455 : q_is (q_z f1448 sr 0) xc := Eq.trans (hF.z hsr (by rw [ksr]; rfl)) hf2
  have z1456 : q_ir (q_r f1448 mo 13) sr := Eq.trans (hF.r hmo (by rw [kmo]; rfl)) hr0
  have z1457 : q_ir (q_r f1448 mo 15) as := Eq.trans (hF.r hmo (by rw [kmo]; rfl)) hr1
  have z1458 : q_ir (q_r f1448 mo 18) nm := Eq.trans (hF.r hmo (by rw [kmo]; rfl)) hr2
  have z1459 : q_ir (q_r f1448 mo 20) anm := Eq.trans (hF.r hmo (by rw [kmo]; rfl)) hr3
  have z1460 : q_ir (q_r f1448 mo 1) bu := Eq.trans (hF.r hmo (by rw [kmo]; rfl)) hr4
  have z1461 : q_ir (q_r f1448 mo 17) pa := Eq.trans (hF.r hmo (by rw [kmo]; rfl)) hr5
  have g1462 : q_gr f1448 sr := q_gr_fr hgr (fun i9 _ => hF.z hsr (by rw [ksr]; rfl))
  have g1463 : q_pk f1448 mo pa := q_pk_tr hpk (hF.z hmo (by rw [kmo]; rfl)) (fun i9 => hF.z hpa (by rw [kpa]; rfl))
  have g1464 : q_pc f1448 mo pa xc := q_pc_tr hpc (hF.z hmo (by rw [kmo]; rfl)) (fun i9 => hF.z hpa (by rw [kpa]; rfl))
  obtain ⟨x1465, ex1465⟩ : ∃ zz, q_is (q_z f1448 mo 4) zz := ⟨_, q_isr _⟩
  obtain ⟨lx1465, ux1465⟩ := q_isb ex1465 (q_fib hB.2.1 hmo kmo (by decide) rfl)
  obtain ⟨x1466, ex1466⟩ : ∃ zz, q_is (q_z f1448 mo 6) zz := ⟨_, q_isr _⟩
  obtain ⟨lx1466, ux1466⟩ := q_isb ex1466 (q_fib hB.2.1 hmo kmo (by decide) rfl)
  refine q_ald_n cx dX12_readText_4 rfl (lv_at hl 0 rfl) ?_
  refine q_cVv (As := []) (rest := []) cx hB (fun _ h => h) hN hmo kmo (by decide) rfl (r_laysAside l g hN hB.2.1 mo hmo kmo sr hsr ksr as has kas xt (by omega) (by omega) xm (by omega) (by omega) xc (by omega) (by omega) z1453 z1454 z1455 z1456 z1457 g1462) q_cX12_247 q_dX12_laysAside (by decide) rfl rfl hl.1 rfl (Nat.le_of_ble_eq_true rfl) dX12_readText_5 (fun H locs f1467 h1469 hF hB => ?_)
  obtain ⟨lz1470, uz1470, z1471⟩ := h1469
  have z1472 : q_is (q_z f1467 sr 3) xt := Eq.trans (hF.z hsr (by rw [ksr]; rfl)) z1453
  have z1473 : q_is (q_z f1467 sr 4) xm := Eq.trans (hF.z hsr (by rw [ksr]; rfl)) z1454
  have z1474 : q_is (q_z f1467 sr 0) xc := Eq.trans (hF.z hsr (by rw [ksr]; rfl)) z1455
  have z1475 : q_is (q_z f1467 mo 8) 0 := Eq.trans (hF.z hmo (by rw [kmo]; rfl)) z1451
  have z1476 : q_is (q_z f1467 mo 2) 0 := Eq.trans (hF.z hmo (by rw [kmo]; rfl)) z1452
  have z1477 : q_is (q_z f1467 mo 4) x1465 := Eq.trans (hF.z hmo (by rw [kmo]; rfl)) ex1465
  have z1478 : q_is (q_z f1467 mo 6) x1466 := Eq.trans (hF.z hmo (by rw [kmo]; rfl)) ex1466
  have z1479 : q_ir (q_r f1467 mo 13) sr := Eq.trans (hF.r hmo (by rw [kmo]; rfl)) z1456
  have z1480 : q_ir (q_r f1467 mo 15) as := Eq.trans (hF.r hmo (by rw [kmo]; rfl)) z1457
  have z1481 : q_ir (q_r f1467 mo 18) nm := Eq.trans (hF.r hmo (by rw [kmo]; rfl)) z1458
  have z1482 : q_ir (q_r f1467 mo 20) anm := Eq.trans (hF.r hmo (by rw [kmo]; rfl)) z1459
  have z1483 : q_ir (q_r f1467 mo 1) bu := Eq.trans (hF.r hmo (by rw [kmo]; rfl)) z1460
  have z1484 : q_ir (q_r f1467 mo 17) pa := Eq.trans (hF.r hmo (by rw [kmo]; rfl)) z1461
  have g1485 : q_gr f1467 sr := q_gr_fr g1462 (fun i9 _ => hF.z hsr (by rw [ksr]; rfl))
  have g1486 : q_pk f1467 mo pa := q_pk_tr g1463 (hF.z hmo (by rw [kmo]; rfl)) (fun i9 => hF.z hpa (by rw [kpa]; rfl))
  have g1487 : q_pc f1467 mo pa xc := q_pc_tr g1464 (hF.z hmo (by rw [kmo]; rfl)) (fun i9 => hF.z hpa (by rw [kpa]; rfl))
  obtain ⟨x1488, ex1488⟩ : ∃ zz, q_is (q_z f1467 as 2) zz := ⟨_, q_isr _⟩
  obtain ⟨lx1488, ux1488⟩ := q_isb ex1488 ⟨lz1470, uz1470⟩
  refine q_ald_n cx dX12_readText_8 rfl (lv_at hl 0 rfl) ?_
  refine q_gX12_35 cx hB hmo kmo z1481 dX12_readText_9 (fun hb1489 kb1489 => ?_)
  refine q_ald_n cx dX12_readText_12 rfl (lv_at hl 0 rfl) ?_
  refine q_gX12_42 cx hB hmo kmo z1482 dX12_readText_13 (fun hb1490 kb1490 => ?_)
  refine q_cSv (As := [.ref nm, .ref anm]) (rest := []) cx hB (fun _ h => h) hN (r_copiesNames_156_158 l g hN hB.2.1 nm hnm knm anm hanm kanm) q_cX12_164 q_dX12_copiesNames (by decide) rfl rfl hl.1 rfl (Nat.le_of_ble_eq_true rfl) dX12_readText_16 (fun H locs f1491 h1493 hF hB => ?_)
  have z1494 : q_is (q_z f1491 sr 3) xt := Eq.trans (hF.z hsr (by rw [ksr]; rfl)) z1472
  have z1495 : q_is (q_z f1491 sr 4) xm := Eq.trans (hF.z hsr (by rw [ksr]; rfl)) z1473
  have z1496 : q_is (q_z f1491 sr 0) xc := Eq.trans (hF.z hsr (by rw [ksr]; rfl)) z1474
  have z1497 : q_is (q_z f1491 mo 8) 0 := Eq.trans (hF.z hmo (by rw [kmo]; rfl)) z1475
  have z1498 : q_is (q_z f1491 mo 2) 0 := Eq.trans (hF.z hmo (by rw [kmo]; rfl)) z1476
  have z1499 : q_is (q_z f1491 mo 4) x1465 := Eq.trans (hF.z hmo (by rw [kmo]; rfl)) z1477
  have z1500 : q_is (q_z f1491 mo 6) x1466 := Eq.trans (hF.z hmo (by rw [kmo]; rfl)) z1478
  have z1501 : q_is (q_z f1491 as 2) x1488 := Eq.trans (hF.z has (by rw [kas]; rfl)) ex1488
  have z1502 : q_is (q_z f1491 as 0) xc := Eq.trans (hF.z has (by rw [kas]; rfl)) z1471
  have z1503 : q_ir (q_r f1491 mo 13) sr := Eq.trans (hF.r hmo (by rw [kmo]; rfl)) z1479
  have z1504 : q_ir (q_r f1491 mo 15) as := Eq.trans (hF.r hmo (by rw [kmo]; rfl)) z1480
  have z1505 : q_ir (q_r f1491 mo 18) nm := Eq.trans (hF.r hmo (by rw [kmo]; rfl)) z1481
  have z1506 : q_ir (q_r f1491 mo 20) anm := Eq.trans (hF.r hmo (by rw [kmo]; rfl)) z1482
  have z1507 : q_ir (q_r f1491 mo 1) bu := Eq.trans (hF.r hmo (by rw [kmo]; rfl)) z1483
  have z1508 : q_ir (q_r f1491 mo 17) pa := Eq.trans (hF.r hmo (by rw [kmo]; rfl)) z1484
  have g1509 : q_gr f1491 sr := q_gr_fr g1485 (fun i9 _ => hF.z hsr (by rw [ksr]; rfl))
  have g1510 : q_pk f1491 mo pa := q_pk_tr g1486 (hF.z hmo (by rw [kmo]; rfl)) (fun i9 => hF.z hpa (by rw [kpa]; rfl))
  have g1511 : q_pc f1491 mo pa xc := q_pc_tr g1487 (hF.z hmo (by rw [kmo]; rfl)) (fun i9 => hF.z hpa (by rw [kpa]; rfl))
  refine q_ald_n cx dX12_readText_19 rfl (lv_at hl 0 rfl) ?_
  refine q_cVv (As := []) (rest := []) cx hB (fun _ h => h) hN hmo kmo (by decide) rfl (r_clears l g hN hB.2.1 mo hmo kmo sr hsr ksr nm hnm knm z1503 z1505) q_cX12_72 q_dX12_clears (by decide) rfl rfl hl.1 rfl (Nat.le_of_ble_eq_true rfl) dX12_readText_20 (fun H locs f1512 h1514 hF hB => ?_)
  obtain ⟨lz1515, uz1515, lz1516, uz1516, z1517, g1518⟩ := h1514
  have z1519 : q_is (q_z f1512 mo 8) 0 := Eq.trans (hF.z hmo (by rw [kmo]; rfl)) z1497
  have z1520 : q_is (q_z f1512 mo 2) 0 := Eq.trans (hF.z hmo (by rw [kmo]; rfl)) z1498
  have z1521 : q_is (q_z f1512 mo 4) x1465 := Eq.trans (hF.z hmo (by rw [kmo]; rfl)) z1499
  have z1522 : q_is (q_z f1512 mo 6) x1466 := Eq.trans (hF.z hmo (by rw [kmo]; rfl)) z1500
  have z1523 : q_is (q_z f1512 as 2) x1488 := Eq.trans (hF.z has (by rw [kas]; rfl)) z1501
  have z1524 : q_is (q_z f1512 as 0) xc := Eq.trans (hF.z has (by rw [kas]; rfl)) z1502
  have z1525 : q_ir (q_r f1512 mo 13) sr := Eq.trans (hF.r hmo (by rw [kmo]; rfl)) z1503
  have z1526 : q_ir (q_r f1512 mo 15) as := Eq.trans (hF.r hmo (by rw [kmo]; rfl)) z1504
  have z1527 : q_ir (q_r f1512 mo 18) nm := Eq.trans (hF.r hmo (by rw [kmo]; rfl)) z1505
  have z1528 : q_ir (q_r f1512 mo 20) anm := Eq.trans (hF.r hmo (by rw [kmo]; rfl)) z1506
  have z1529 : q_ir (q_r f1512 mo 1) bu := Eq.trans (hF.r hmo (by rw [kmo]; rfl)) z1507
  have z1530 : q_ir (q_r f1512 mo 17) pa := Eq.trans (hF.r hmo (by rw [kmo]; rfl)) z1508
  have g1531 : q_pk f1512 mo pa := q_pk_tr g1510 (hF.z hmo (by rw [kmo]; rfl)) (fun i9 => hF.z hpa (by rw [kpa]; rfl))
  have g1532 : q_pc f1512 mo pa xc := q_pc_tr g1511 (hF.z hmo (by rw [kmo]; rfl)) (fun i9 => hF.z hpa (by rw [kpa]; rfl))
  obtain ⟨x1533, ex1533⟩ : ∃ zz, q_is (q_z f1512 sr 3) zz := ⟨_, q_isr _⟩
  obtain ⟨lx1533, ux1533⟩ := q_isb ex1533 ⟨lz1515, uz1515⟩
  obtain ⟨x1534, ex1534⟩ : ∃ zz, q_is (q_z f1512 sr 4) zz := ⟨_, q_isr _⟩
  obtain ⟨lx1534, ux1534⟩ := q_isb ex1534 ⟨lz1516, uz1516⟩
  refine q_ald_n cx dX12_readText_23 rfl (lv_at hl 0 rfl) ?_
  refine q_iconst cx dX12_readText_24 ?_
  refine q_pX12_182 cx hB hmo kmo ⟨by decide, by decide⟩ (by decide) (by decide) rfl dX12_readText_25 (fun H locs f1535 ef1535 z1536 hB => ?_)
  have z1537 : q_is (q_z f1535 mo 8) 0 := by rw [ef1535, q_setz (Or.inr (by decide))]; exact z1519
  have z1538 : q_is (q_z f1535 mo 2) 0 := by rw [ef1535, q_setz (Or.inr (by decide))]; exact z1520
  have z1539 : q_is (q_z f1535 mo 4) x1465 := by rw [ef1535, q_setz (Or.inr (by decide))]; exact z1521
  have z1540 : q_is (q_z f1535 mo 6) x1466 := by rw [ef1535, q_setz (Or.inr (by decide))]; exact z1522
  have z1541 : q_is (q_z f1535 as 2) x1488 := by rw [ef1535, q_setz (Or.inr (by decide))]; exact z1523
  have z1542 : q_is (q_z f1535 as 0) xc := by rw [ef1535, q_setz (Or.inr (by decide))]; exact z1524
  have z1543 : q_is (q_z f1535 sr 3) x1533 := by rw [ef1535, q_setz (Or.inr (by decide))]; exact ex1533
  have z1544 : q_is (q_z f1535 sr 4) x1534 := by rw [ef1535, q_setz (Or.inr (by decide))]; exact ex1534
  have z1545 : q_is (q_z f1535 sr 0) 0 := by rw [ef1535, q_setz (Or.inr (by decide))]; exact z1517
  have z1546 : q_ir (q_r f1535 mo 13) sr := by rw [ef1535, q_setr (Or.inr (by decide))]; exact z1525
  have z1547 : q_ir (q_r f1535 mo 15) as := by rw [ef1535, q_setr (Or.inr (by decide))]; exact z1526
  have z1548 : q_ir (q_r f1535 mo 18) nm := by rw [ef1535, q_setr (Or.inr (by decide))]; exact z1527
  have z1549 : q_ir (q_r f1535 mo 20) anm := by rw [ef1535, q_setr (Or.inr (by decide))]; exact z1528
  have z1550 : q_ir (q_r f1535 mo 1) bu := by rw [ef1535, q_setr (Or.inr (by decide))]; exact z1529
  have z1551 : q_ir (q_r f1535 mo 17) pa := by rw [ef1535, q_setr (Or.inr (by decide))]; exact z1530
  have g1552 : q_gr f1535 sr := q_gr_ne g1518 ef1535 (fun q => q_kne (k := 151) (k2 := 12) (by decide) ksr kmo q)
  have g1553 : q_pk f1535 mo pa := q_pk_tr g1531 (by rw [ef1535, q_setz (Or.inr (by decide))]) (fun i9 => by rw [ef1535, q_setz (Or.inl (fun q => by rw [q, kmo] at kpa; exact absurd kpa (by decide)))])
  have g1554 : q_pc f1535 mo pa xc := q_pc_tr g1532 (by rw [ef1535, q_setz (Or.inr (by decide))]) (fun i9 => by rw [ef1535, q_setz (Or.inl (fun q => by rw [q, kmo] at kpa; exact absurd kpa (by decide)))])
  exact J28 ((Int.toNat (601 - x1465)) + 1) f1535 0 (by decide) (by decide) x1488 (by omega) (by omega) x1533 (by omega) (by omega) x1534 (by omega) (by omega) 0 (by decide) (by decide) x1465 (by omega) (by omega) z1538 z1541 z1542 z1543 z1544 z1537 z1539 z1546 z1547 z1548 z1549 z1550 z1551 g1552 g1554 g1553 (Nat.lt_succ_self _) H locs hB ls (lv_sub hl [0] rfl)
set_option maxHeartbeats 4000000 in
set_option maxRecDepth 100000 in
theorem r_undo0 (l : Launch) (g : q_G) {K : Nat → Nat} {L : List Nat} (hN : L.Nodup) {f : Nat → va_E} (hT : q_Ty g K L f) (mo : Nat) (hmo : mo ∈ L) (kmo : K mo = 12) (sr : Nat) (hsr : sr ∈ L) (ksr : K sr = 151) (pa : Nat) (hpa : pa ∈ L) (kpa : K pa = 155) (xt : Int) (lxt : 0 ≤ xt) (uxt : xt ≤ 9999) (xm : Int) (lxm : 0 ≤ xm) (uxm : xm ≤ 60) (xc : Int) (lxc : 0 ≤ xc) (uxc : xc ≤ 10) (hf0 : q_is (q_z f sr 3) xt) (hf1 : q_is (q_z f sr 4) xm) (hf2 : q_is (q_z f sr 0) xc) (hf3 : q_is (q_z f mo 21) 0) (hr0 : q_ir (q_r f mo 13) sr) (hr1 : q_ir (q_r f mo 17) pa) (hgr : q_gr f sr) (hpk : q_pk f mo pa) (hpc : q_pc f mo pa xc) : q_Ct l g K L yX12_undo cX12_undo 1 (some .int) 0 0 [.ref mo] f [(12, 0, 0)] (q_Pi (fun (z : Int) (f1 : Nat → va_E) => z = (-1) ∧ 0 ≤ q_z f1 sr 3 ∧ q_z f1 sr 3 ≤ 9999 ∧ 0 ≤ q_z f1 sr 4 ∧ q_z f1 sr 4 ≤ 60 ∧ q_is (q_z f1 sr 0) xc ∧ (q_pk f1 mo pa) ∧ (q_pc f1 mo pa xc))) := by
  refine q_ofb (by decide +kernel) hN hT (Nat.le_of_ble_eq_true rfl) ?_
  intro p e s m below meth c ls cx hr hlk hB hl
  have hl : lv_has ls 1 [(0, .ref mo)] := hl
  obtain ⟨H, hH⟩ : ∃ H : Heap, H = s.heap := ⟨_, rfl⟩
  obtain ⟨locs, hlocs⟩ : ∃ z : List Loc, z = [] := ⟨_, rfl⟩
  rw [← hH, ← hlocs] at hB
  rw [← hH, ← hlocs]
  refine q_ald_n cx dX12_undo_0 rfl (lv_at hl 0 rfl) ?_
  refine q_iconst cx dX12_undo_1 ?_
  refine q_pX12_75 cx hB hmo kmo ⟨by decide, by decide⟩ (by decide) (by decide) rfl dX12_undo_2 (fun H locs f14 ef14 z15 hB => ?_)
  have z16 : q_is (q_z f14 sr 3) xt := by rw [ef14, q_setz (Or.inr (by decide))]; exact hf0
  have z17 : q_is (q_z f14 sr 4) xm := by rw [ef14, q_setz (Or.inr (by decide))]; exact hf1
  have z18 : q_is (q_z f14 sr 0) xc := by rw [ef14, q_setz (Or.inl (fun q => by rw [q, kmo] at ksr; exact absurd ksr (by decide)))]; exact hf2
  have z19 : q_is (q_z f14 mo 21) 0 := by rw [ef14, q_setz (Or.inr (by decide))]; exact hf3
  have z20 : q_ir (q_r f14 mo 13) sr := by rw [ef14, q_setr (Or.inr (by decide))]; exact hr0
  have z21 : q_ir (q_r f14 mo 17) pa := by rw [ef14, q_setr (Or.inr (by decide))]; exact hr1
  have g22 : q_gr f14 sr := q_gr_ne hgr ef14 (fun q => q_kne (k := 151) (k2 := 12) (by decide) ksr kmo q)
  have g23 : q_pk f14 mo pa := q_pk_tr hpk (by rw [ef14, q_setz (Or.inr (by decide))]) (fun i9 => by rw [ef14, q_setz (Or.inl (fun q => by rw [q, kmo] at kpa; exact absurd kpa (by decide)))])
  have g24 : q_pc f14 mo pa xc := q_pc_tr hpc (by rw [ef14, q_setz (Or.inr (by decide))]) (fun i9 => by rw [ef14, q_setz (Or.inl (fun q => by rw [q, kmo] at kpa; exact absurd kpa (by decide)))])
  refine q_ald_n cx dX12_undo_5 rfl (lv_at hl 0 rfl) ?_
  refine q_gX12_158 cx hB hmo kmo z19 dX12_undo_6 (fun lb25 ub25 => ?_)
  refine q_ifne (tgt := 14) cx ⟨by decide, by decide⟩ dX12_undo_9 (by decide) (fun c26 => ?_) (fun c26 => ?_)
  · exact absurd c26 (by omega)
  · refine q_iconst cx dX12_undo_12 ?_
    refine q_iret cx hr hlk hB dX12_undo_13 ⟨by decide, by decide⟩ ?_
    exact ⟨rfl, (q_isl z16 (by omega)), (q_isu z16 (by omega)), (q_isl z17 (by omega)), (q_isu z17 (by omega)), z18, g23, g24⟩
set_option maxHeartbeats 4000000 in
set_option maxRecDepth 100000 in
theorem r_undo1 (l : Launch) (g : q_G) {K : Nat → Nat} {L : List Nat} (hN : L.Nodup) {f : Nat → va_E} (hT : q_Ty g K L f) (mo : Nat) (hmo : mo ∈ L) (kmo : K mo = 12) (sr : Nat) (hsr : sr ∈ L) (ksr : K sr = 151) (pa : Nat) (hpa : pa ∈ L) (kpa : K pa = 155) (xt : Int) (lxt : 0 ≤ xt) (uxt : xt ≤ 9999) (xm : Int) (lxm : 0 ≤ xm) (uxm : xm ≤ 60) (xc : Int) (lxc : 0 ≤ xc) (uxc : xc ≤ 10) (xn : Int) (lxn : 1 ≤ xn) (uxn : xn ≤ 6) (hf0 : q_is (q_z f sr 3) xt) (hf1 : q_is (q_z f sr 4) xm) (hf2 : q_is (q_z f sr 0) xc) (hf3 : q_is (q_z f mo 21) xn) (hr0 : q_ir (q_r f mo 13) sr) (hr1 : q_ir (q_r f mo 17) pa) (hgr : q_gr f sr) (hpk : q_pk f mo pa) (hpc : q_pc f mo pa xc) : q_Ct l g K L yX12_undo cX12_undo 1 (some .int) 1 24 [.ref mo] f [(12, 0, 0), (12, 21, 21), (151, 0, 657)] (q_Pi (fun (z : Int) (f1 : Nat → va_E) => 0 ≤ z ∧ z ≤ 5 ∧ 0 ≤ q_z f1 sr 3 ∧ q_z f1 sr 3 ≤ 9999 ∧ 0 ≤ q_z f1 sr 4 ∧ q_z f1 sr 4 ≤ 60 ∧ q_is (q_z f1 sr 0) xc ∧ q_gr f1 sr ∧ (q_pk f1 mo pa) ∧ (q_pc f1 mo pa xc))) := by
  refine q_ofb (by decide +kernel) hN hT (Nat.le_of_ble_eq_true rfl) ?_
  intro p e s m below meth c ls cx hr hlk hB hl
  have hl : lv_has ls 1 [(0, .ref mo)] := hl
  obtain ⟨H, hH⟩ : ∃ H : Heap, H = s.heap := ⟨_, rfl⟩
  obtain ⟨locs, hlocs⟩ : ∃ z : List Loc, z = [] := ⟨_, rfl⟩
  rw [← hH, ← hlocs] at hB
  rw [← hH, ← hlocs]
  refine q_ald_n cx dX12_undo_0 rfl (lv_at hl 0 rfl) ?_
  refine q_iconst cx dX12_undo_1 ?_
  refine q_pX12_75 cx hB hmo kmo ⟨by decide, by decide⟩ (by decide) (by decide) rfl dX12_undo_2 (fun H locs f44 ef44 z45 hB => ?_)
  have z46 : q_is (q_z f44 sr 3) xt := by rw [ef44, q_setz (Or.inr (by decide))]; exact hf0
  have z47 : q_is (q_z f44 sr 4) xm := by rw [ef44, q_setz (Or.inr (by decide))]; exact hf1
  have z48 : q_is (q_z f44 sr 0) xc := by rw [ef44, q_setz (Or.inl (fun q => by rw [q, kmo] at ksr; exact absurd ksr (by decide)))]; exact hf2
  have z49 : q_is (q_z f44 mo 21) xn := by rw [ef44, q_setz (Or.inr (by decide))]; exact hf3
  have z50 : q_ir (q_r f44 mo 13) sr := by rw [ef44, q_setr (Or.inr (by decide))]; exact hr0
  have z51 : q_ir (q_r f44 mo 17) pa := by rw [ef44, q_setr (Or.inr (by decide))]; exact hr1
  have g52 : q_gr f44 sr := q_gr_ne hgr ef44 (fun q => q_kne (k := 151) (k2 := 12) (by decide) ksr kmo q)
  have g53 : q_pk f44 mo pa := q_pk_tr hpk (by rw [ef44, q_setz (Or.inr (by decide))]) (fun i9 => by rw [ef44, q_setz (Or.inl (fun q => by rw [q, kmo] at kpa; exact absurd kpa (by decide)))])
  have g54 : q_pc f44 mo pa xc := q_pc_tr hpc (by rw [ef44, q_setz (Or.inr (by decide))]) (fun i9 => by rw [ef44, q_setz (Or.inl (fun q => by rw [q, kmo] at kpa; exact absurd kpa (by decide)))])
  refine q_ald_n cx dX12_undo_5 rfl (lv_at hl 0 rfl) ?_
  refine q_gX12_158 cx hB hmo kmo z49 dX12_undo_6 (fun lb55 ub55 => ?_)
  refine q_ifne (tgt := 14) cx ⟨by omega, by omega⟩ dX12_undo_9 (by decide) (fun c56 => ?_) (fun c56 => ?_)
  · refine q_ald_n cx dX12_undo_14 rfl (lv_at hl 0 rfl) ?_
    refine lv_dup cx.1 cx.2.1 dX12_undo_15 rfl ?_
    refine q_gX12_158 cx hB hmo kmo z49 dX12_undo_16 (fun lb57 ub57 => ?_)
    refine q_iconst cx dX12_undo_19 ?_
    refine q_isub cx dX12_undo_20 ?_
    refine q_pX12_158 cx hB hmo kmo ⟨by omega, by omega⟩ (by omega) (by omega) rfl dX12_undo_21 (fun H locs f58 ef58 z59 hB => ?_)
    have z60 : q_is (q_z f58 sr 3) xt := by rw [ef58, q_setz (Or.inr (by decide))]; exact z46
    have z61 : q_is (q_z f58 sr 4) xm := by rw [ef58, q_setz (Or.inr (by decide))]; exact z47
    have z62 : q_is (q_z f58 sr 0) xc := by rw [ef58, q_setz (Or.inr (by decide))]; exact z48
    have z63 : q_is (q_z f58 mo 0) 0 := by rw [ef58, q_setz (Or.inr (by decide))]; exact z45
    have z64 : q_ir (q_r f58 mo 13) sr := by rw [ef58, q_setr (Or.inr (by decide))]; exact z50
    have z65 : q_ir (q_r f58 mo 17) pa := by rw [ef58, q_setr (Or.inr (by decide))]; exact z51
    have g66 : q_gr f58 sr := q_gr_ne g52 ef58 (fun q => q_kne (k := 151) (k2 := 12) (by decide) ksr kmo q)
    have hpk9 : q_pk f58 mo pa := k_pkdec g53 z49 z59 (fun i9 => by rw [ef58, q_setz (Or.inl (fun q => q_kne (k := 155) (k2 := 12) (by decide) kpa kmo q))])
    have hy9 : 4 ≤ q_z f58 pa (Int.toNat (658 * (xn - 1) + 2)) := by rw [ef58, q_setz (Or.inl (fun q => q_kne (k := 155) (k2 := 12) (by decide) kpa kmo q))]; exact g53 (xn - 1) (by omega) (q_islt z49 (by omega))
    have hpc9 : q_pc f58 mo pa xc := k_pcdec g54 z49 z59 (fun i9 => by rw [ef58, q_setz (Or.inl (fun q => q_kne (k := 155) (k2 := 12) (by decide) kpa kmo q))])
    have hy8 : q_z f58 pa (Int.toNat (658 * (xn - 1))) = xc := by rw [ef58, q_setz (Or.inl (fun q => q_kne (k := 155) (k2 := 12) (by decide) kpa kmo q))]; exact g54 (xn - 1) (by omega) (q_islt z49 (by omega))
    refine q_ald_n cx dX12_undo_24 rfl (lv_at hl 0 rfl) ?_
    refine q_gX12_32 cx hB hmo kmo z65 dX12_undo_25 (fun hb67 kb67 => ?_)
    refine q_sipush cx dX12_undo_28 rfl ?_
    refine q_ald_n cx dX12_undo_31 rfl (lv_at hl 0 rfl) ?_
    refine q_gX12_158 cx hB hmo kmo z59 dX12_undo_32 (fun lb68 ub68 => ?_)
    refine q_imul cx dX12_undo_35 ?_
    refine q_ald_n cx dX12_undo_36 rfl (lv_at hl 0 rfl) ?_
    refine q_gX12_20 cx hB hmo kmo z64 dX12_undo_37 (fun hb69 kb69 => ?_)
    refine q_iconst cx dX12_undo_40 ?_
    refine q_cSv (As := [.ref pa, .int (q_i (658 * (xn - 1))), .ref sr, .int (q_i 0)]) (rest := []) cx hB (fun _ h => h) hN (r_copiesRow_pa_sr l g hN hB.2.1 pa hpa kpa (658 * (xn - 1)) (by omega) (by omega) sr hsr ksr 0 (by decide) (by decide) (1 * xn + (-1)) (by omega) (by omega) xc (by omega) (by omega) (by omega) (by rw [show 658 * (1 * xn + (-1)) + 2 = 658 * (xn - 1) + 2 by omega]; exact hy9) (by rw [show 658 * (1 * xn + (-1)) = 658 * (xn - 1) by omega]; exact hy8)) q_cX12_154 q_dX12_copiesRow (by decide) rfl rfl hl.1 rfl (Nat.le_of_ble_eq_true rfl) dX12_undo_41 (fun H locs f70 h72 hF hB => ?_)
    obtain ⟨lz73, uz73, lz74, uz74, z75, t76, g77⟩ := h72
    have z78 : q_is (q_z f70 mo 0) 0 := Eq.trans (hF.z hmo (by rw [kmo]; rfl)) z63
    have z79 : q_is (q_z f70 mo 21) (xn - 1) := Eq.trans (hF.z hmo (by rw [kmo]; rfl)) z59
    have z80 : q_ir (q_r f70 mo 13) sr := Eq.trans (hF.r hmo (by rw [kmo]; rfl)) z64
    have z81 : q_ir (q_r f70 mo 17) pa := Eq.trans (hF.r hmo (by rw [kmo]; rfl)) z65
    have g82 : q_pk f70 mo pa := q_pk_tr hpk9 (hF.z hmo (by rw [kmo]; rfl)) (fun i9 => hF.z hpa (by rw [kpa]; rfl))
    have g83 : q_pc f70 mo pa xc := q_pc_tr hpc9 (hF.z hmo (by rw [kmo]; rfl)) (fun i9 => hF.z hpa (by rw [kpa]; rfl))
    obtain ⟨x84, ex84⟩ : ∃ zz, q_is (q_z f70 sr 3) zz := ⟨_, q_isr _⟩
    obtain ⟨lx84, ux84⟩ := q_isb ex84 ⟨lz73, uz73⟩
    obtain ⟨x85, ex85⟩ : ∃ zz, q_is (q_z f70 sr 4) zz := ⟨_, q_isr _⟩
    obtain ⟨lx85, ux85⟩ := q_isb ex85 ⟨lz74, uz74⟩
    refine q_ald_n cx dX12_undo_44 rfl (lv_at hl 0 rfl) ?_
    refine q_gX12_158 cx hB hmo kmo z79 dX12_undo_45 (fun lb86 ub86 => ?_)
    refine q_iret cx hr hlk hB dX12_undo_48 ⟨by omega, by omega⟩ ?_
    exact ⟨(by omega), (by omega), (q_isl ex84 (by omega)), (q_isu ex84 (by omega)), (q_isl ex85 (by omega)), (q_isu ex85 (by omega)), z75, g77, g82, g83⟩
  · exact absurd c56 (by omega)
set_option maxHeartbeats 4000000 in
set_option maxRecDepth 100000 in
theorem r_save (l : Launch) (g : q_G) {K : Nat → Nat} {L : List Nat} (hN : L.Nodup) {f : Nat → va_E} (hT : q_Ty g K L f) (mo : Nat) (hmo : mo ∈ L) (kmo : K mo = 12) (sr : Nat) (hsr : sr ∈ L) (ksr : K sr = 151) (sd : Nat) (hsd : sd ∈ L) (ksd : K sd = 152) (nm : Nat) (hnm : nm ∈ L) (knm : K nm = 156) (snm : Nat) (hsnm : snm ∈ L) (ksnm : K snm = 157) (xt : Int) (lxt : 0 ≤ xt) (uxt : xt ≤ 9999) (xm : Int) (lxm : 0 ≤ xm) (uxm : xm ≤ 60) (xc : Int) (lxc : 0 ≤ xc) (uxc : xc ≤ 10) (hf0 : q_is (q_z f sr 3) xt) (hf1 : q_is (q_z f sr 4) xm) (hf2 : q_is (q_z f sr 0) xc) (hr0 : q_ir (q_r f mo 13) sr) (hr1 : q_ir (q_r f mo 14) sd) (hr2 : q_ir (q_r f mo 18) nm) (hr3 : q_ir (q_r f mo 19) snm) (hgr : q_gr f sr) : q_Ct l g K L yX12_save cX12_save 1 (some .int) 1 24 [.ref mo] f [(12, 0, 0), (12, 22, 22), (152, 0, 657), (157, 0, 9)] (q_Pi (fun (z : Int) (f1 : Nat → va_E) => 0 ≤ z ∧ z ≤ 9999 ∧ (q_sv f1 mo sd))) := by
  refine q_ofb (by decide +kernel) hN hT (Nat.le_of_ble_eq_true rfl) ?_
  intro p e s m below meth c ls cx hr hlk hB hl
  have hl : lv_has ls 1 [(0, .ref mo)] := hl
  obtain ⟨H, hH⟩ : ∃ H : Heap, H = s.heap := ⟨_, rfl⟩
  obtain ⟨locs, hlocs⟩ : ∃ z : List Loc, z = [] := ⟨_, rfl⟩
  rw [← hH, ← hlocs] at hB
  rw [← hH, ← hlocs]
  refine q_ald_n cx dX12_save_0 rfl (lv_at hl 0 rfl) ?_
  refine q_iconst cx dX12_save_1 ?_
  refine q_pX12_75 cx hB hmo kmo ⟨by decide, by decide⟩ (by decide) (by decide) rfl dX12_save_2 (fun H locs f57 ef57 z58 hB => ?_)
  have z59 : q_is (q_z f57 sr 3) xt := by rw [ef57, q_setz (Or.inr (by decide))]; exact hf0
  have z60 : q_is (q_z f57 sr 4) xm := by rw [ef57, q_setz (Or.inr (by decide))]; exact hf1
  have z61 : q_is (q_z f57 sr 0) xc := by rw [ef57, q_setz (Or.inl (fun q => by rw [q, kmo] at ksr; exact absurd ksr (by decide)))]; exact hf2
  have z62 : q_ir (q_r f57 mo 13) sr := by rw [ef57, q_setr (Or.inr (by decide))]; exact hr0
  have z63 : q_ir (q_r f57 mo 14) sd := by rw [ef57, q_setr (Or.inr (by decide))]; exact hr1
  have z64 : q_ir (q_r f57 mo 18) nm := by rw [ef57, q_setr (Or.inr (by decide))]; exact hr2
  have z65 : q_ir (q_r f57 mo 19) snm := by rw [ef57, q_setr (Or.inr (by decide))]; exact hr3
  have g66 : q_gr f57 sr := q_gr_ne hgr ef57 (fun q => q_kne (k := 151) (k2 := 12) (by decide) ksr kmo q)
  refine q_ald_n cx dX12_save_5 rfl (lv_at hl 0 rfl) ?_
  refine q_gX12_20 cx hB hmo kmo z62 dX12_save_6 (fun hb67 kb67 => ?_)
  refine q_iconst cx dX12_save_9 ?_
  refine q_ald_n cx dX12_save_10 rfl (lv_at hl 0 rfl) ?_
  refine q_gX12_23 cx hB hmo kmo z63 dX12_save_11 (fun hb68 kb68 => ?_)
  refine q_iconst cx dX12_save_14 ?_
  refine q_cSv (As := [.ref sr, .int (q_i 0), .ref sd, .int (q_i 0)]) (rest := []) cx hB (fun _ h => h) hN (r_copiesRow_sr_sd l g hN hB.2.1 sr hsr ksr 0 (by decide) (by decide) sd hsd ksd 0 (by decide) (by decide) xt (by omega) (by omega) xm (by omega) (by omega) xc (by omega) (by omega) z59 z60 z61 g66) q_cX12_154 q_dX12_copiesRow (by decide) rfl rfl hl.1 rfl (Nat.le_of_ble_eq_true rfl) dX12_save_15 (fun H locs f69 h71 hF hB => ?_)
  have t72 := h71
  have z73 : q_is (q_z f69 sr 3) xt := Eq.trans (hF.z hsr (by rw [ksr]; rfl)) z59
  have z74 : q_is (q_z f69 sr 4) xm := Eq.trans (hF.z hsr (by rw [ksr]; rfl)) z60
  have z75 : q_is (q_z f69 sr 0) xc := Eq.trans (hF.z hsr (by rw [ksr]; rfl)) z61
  have z76 : q_is (q_z f69 mo 0) 0 := Eq.trans (hF.z hmo (by rw [kmo]; rfl)) z58
  have z77 : q_ir (q_r f69 mo 13) sr := Eq.trans (hF.r hmo (by rw [kmo]; rfl)) z62
  have z78 : q_ir (q_r f69 mo 14) sd := Eq.trans (hF.r hmo (by rw [kmo]; rfl)) z63
  have z79 : q_ir (q_r f69 mo 18) nm := Eq.trans (hF.r hmo (by rw [kmo]; rfl)) z64
  have z80 : q_ir (q_r f69 mo 19) snm := Eq.trans (hF.r hmo (by rw [kmo]; rfl)) z65
  have g81 : q_gr f69 sr := q_gr_fr g66 (fun i9 _ => hF.z hsr (by rw [ksr]; rfl))
  have hy9 : q_z f69 sd 2 = q_z f57 sr 2 := t72 2 (by decide) (by decide)
  obtain ⟨x82, ex82⟩ : ∃ zz, q_is (q_z f69 sd 2) zz := ⟨_, q_isr _⟩
  obtain ⟨lx82, ux82⟩ : 4 ≤ x82 ∧ x82 ≤ 60 := q_isb ex82 (by rw [hy9]; exact g66 2 (by decide))
  refine q_ald_n cx dX12_save_18 rfl (lv_at hl 0 rfl) ?_
  refine q_gX12_35 cx hB hmo kmo z79 dX12_save_19 (fun hb83 kb83 => ?_)
  refine q_ald_n cx dX12_save_22 rfl (lv_at hl 0 rfl) ?_
  refine q_gX12_39 cx hB hmo kmo z80 dX12_save_23 (fun hb84 kb84 => ?_)
  refine q_cSv (As := [.ref nm, .ref snm]) (rest := []) cx hB (fun _ h => h) hN (r_copiesNames_156_157 l g hN hB.2.1 nm hnm knm snm hsnm ksnm) q_cX12_164 q_dX12_copiesNames (by decide) rfl rfl hl.1 rfl (Nat.le_of_ble_eq_true rfl) dX12_save_26 (fun H locs f85 h87 hF hB => ?_)
  have z88 : q_is (q_z f85 sr 3) xt := Eq.trans (hF.z hsr (by rw [ksr]; rfl)) z73
  have z89 : q_is (q_z f85 sr 4) xm := Eq.trans (hF.z hsr (by rw [ksr]; rfl)) z74
  have z90 : q_is (q_z f85 sr 0) xc := Eq.trans (hF.z hsr (by rw [ksr]; rfl)) z75
  have z91 : q_is (q_z f85 mo 0) 0 := Eq.trans (hF.z hmo (by rw [kmo]; rfl)) z76
  have z92 : q_is (q_z f85 sd 2) x82 := Eq.trans (hF.z hsd (by rw [ksd]; rfl)) ex82
  have z93 : q_ir (q_r f85 mo 13) sr := Eq.trans (hF.r hmo (by rw [kmo]; rfl)) z77
  have z94 : q_ir (q_r f85 mo 14) sd := Eq.trans (hF.r hmo (by rw [kmo]; rfl)) z78
  have z95 : q_ir (q_r f85 mo 18) nm := Eq.trans (hF.r hmo (by rw [kmo]; rfl)) z79
  have z96 : q_ir (q_r f85 mo 19) snm := Eq.trans (hF.r hmo (by rw [kmo]; rfl)) z80
  have g97 : q_gr f85 sr := q_gr_fr g81 (fun i9 _ => hF.z hsr (by rw [ksr]; rfl))
  refine q_ald_n cx dX12_save_29 rfl (lv_at hl 0 rfl) ?_
  refine q_iconst cx dX12_save_30 ?_
  refine q_pX12_168 cx hB hmo kmo ⟨by decide, by decide⟩ (by decide) (by decide) rfl dX12_save_31 (fun H locs f98 ef98 z99 hB => ?_)
  have z100 : q_is (q_z f98 sr 3) xt := by rw [ef98, q_setz (Or.inr (by decide))]; exact z88
  have z101 : q_is (q_z f98 sr 4) xm := by rw [ef98, q_setz (Or.inr (by decide))]; exact z89
  have z102 : q_is (q_z f98 sr 0) xc := by rw [ef98, q_setz (Or.inr (by decide))]; exact z90
  have z103 : q_is (q_z f98 mo 0) 0 := by rw [ef98, q_setz (Or.inr (by decide))]; exact z91
  have z104 : q_is (q_z f98 sd 2) x82 := by rw [ef98, q_setz (Or.inr (by decide))]; exact z92
  have z105 : q_ir (q_r f98 mo 13) sr := by rw [ef98, q_setr (Or.inr (by decide))]; exact z93
  have z106 : q_ir (q_r f98 mo 14) sd := by rw [ef98, q_setr (Or.inr (by decide))]; exact z94
  have z107 : q_ir (q_r f98 mo 18) nm := by rw [ef98, q_setr (Or.inr (by decide))]; exact z95
  have z108 : q_ir (q_r f98 mo 19) snm := by rw [ef98, q_setr (Or.inr (by decide))]; exact z96
  have g109 : q_gr f98 sr := q_gr_ne g97 ef98 (fun q => q_kne (k := 151) (k2 := 12) (by decide) ksr kmo q)
  have hsv9 : q_sv f98 mo sd := fun _ => q_isl z104 (by omega)
  refine q_ald_n cx dX12_save_34 rfl (lv_at hl 0 rfl) ?_
  refine q_gX12_20 cx hB hmo kmo z105 dX12_save_35 (fun hb110 kb110 => ?_)
  refine q_iconst cx dX12_save_38 ?_
  refine q_iald (lo := (-2147483648)) (hi := 2147483647) (n := 658) cx hB hsr ksr (by decide) rfl rfl (by decide) (by decide) (by decide) rfl z100 dX12_save_39 (fun lb112 ub112 => ?_)
  refine q_iret cx hr hlk hB dX12_save_40 ⟨by omega, by omega⟩ ?_
  exact ⟨(by omega), (by omega), hsv9⟩
set_option maxHeartbeats 4000000 in
set_option maxRecDepth 100000 in
theorem r_restore0 (l : Launch) (g : q_G) {K : Nat → Nat} {L : List Nat} (hN : L.Nodup) {f : Nat → va_E} (hT : q_Ty g K L f) (mo : Nat) (hmo : mo ∈ L) (kmo : K mo = 12) (sr : Nat) (hsr : sr ∈ L) (ksr : K sr = 151) (sd : Nat) (hsd : sd ∈ L) (ksd : K sd = 152) (nm : Nat) (hnm : nm ∈ L) (knm : K nm = 156) (snm : Nat) (hsnm : snm ∈ L) (ksnm : K snm = 157) (pa : Nat) (hpa : pa ∈ L) (kpa : K pa = 155) (xt : Int) (lxt : 0 ≤ xt) (uxt : xt ≤ 9999) (xm : Int) (lxm : 0 ≤ xm) (uxm : xm ≤ 60) (xc : Int) (lxc : 0 ≤ xc) (uxc : xc ≤ 10) (hf0 : q_is (q_z f sr 3) xt) (hf1 : q_is (q_z f sr 4) xm) (hf2 : q_is (q_z f sr 0) xc) (hf3 : q_is (q_z f mo 22) 0) (hr0 : q_ir (q_r f mo 13) sr) (hr1 : q_ir (q_r f mo 14) sd) (hr2 : q_ir (q_r f mo 18) nm) (hr3 : q_ir (q_r f mo 19) snm) (hr4 : q_ir (q_r f mo 17) pa) (hgr : q_gr f sr) (hpk : q_pk f mo pa) (hsv : q_sv f mo sd) (hpc : q_pc f mo pa xc) : q_Ct l g K L yX12_restore cX12_restore 1 (some .int) 2 41 [.ref mo] f [(12, 0, 0)] (q_Pi (fun (z : Int) (f1 : Nat → va_E) => 0 ≤ z ∧ z ≤ 0 ∧ 0 ≤ q_z f1 sr 3 ∧ q_z f1 sr 3 ≤ 9999 ∧ 0 ≤ q_z f1 sr 4 ∧ q_z f1 sr 4 ≤ 60 ∧ q_is (q_z f1 sr 0) xc ∧ (q_pk f1 mo pa) ∧ (q_pc f1 mo pa xc))) := by
  refine q_ofb (by decide +kernel) hN hT (Nat.le_of_ble_eq_true rfl) ?_
  intro p e s m below meth c ls cx hr hlk hB hl
  have hl : lv_has ls 1 [(0, .ref mo)] := hl
  obtain ⟨H, hH⟩ : ∃ H : Heap, H = s.heap := ⟨_, rfl⟩
  obtain ⟨locs, hlocs⟩ : ∃ z : List Loc, z = [] := ⟨_, rfl⟩
  rw [← hH, ← hlocs] at hB
  rw [← hH, ← hlocs]
  refine q_ald_n cx dX12_restore_0 rfl (lv_at hl 0 rfl) ?_
  refine q_ald_n cx dX12_restore_1 rfl (lv_at hl 0 rfl) ?_
  refine q_gX12_168 cx hB hmo kmo hf3 dX12_restore_2 (fun lb20 ub20 => ?_)
  refine q_cVi (As := [.int (q_i 0)]) (rest := []) cx hB (fun _ h => h) hN hmo kmo (by decide) rfl (r_goes0 l g hN hB.2.1 mo hmo kmo 0 (by decide) (by decide)) q_cX12_85 q_dX12_goes (by decide) rfl rfl hl.1 rfl (Nat.le_of_ble_eq_true rfl) dX12_restore_5 (fun y22 H locs f21 ry22 h23 hF hB => ?_)
  obtain ⟨qy22, z24⟩ := h23
  have z25 : q_is (q_z f21 sr 3) xt := Eq.trans (hF.z hsr (by rw [ksr]; rfl)) hf0
  have z26 : q_is (q_z f21 sr 4) xm := Eq.trans (hF.z hsr (by rw [ksr]; rfl)) hf1
  have z27 : q_is (q_z f21 sr 0) xc := Eq.trans (hF.z hsr (by rw [ksr]; rfl)) hf2
  have z28 : q_is (q_z f21 mo 22) 0 := Eq.trans (hF.z hmo (by rw [kmo]; rfl)) hf3
  have z29 : q_ir (q_r f21 mo 13) sr := Eq.trans (hF.r hmo (by rw [kmo]; rfl)) hr0
  have z30 : q_ir (q_r f21 mo 14) sd := Eq.trans (hF.r hmo (by rw [kmo]; rfl)) hr1
  have z31 : q_ir (q_r f21 mo 18) nm := Eq.trans (hF.r hmo (by rw [kmo]; rfl)) hr2
  have z32 : q_ir (q_r f21 mo 19) snm := Eq.trans (hF.r hmo (by rw [kmo]; rfl)) hr3
  have z33 : q_ir (q_r f21 mo 17) pa := Eq.trans (hF.r hmo (by rw [kmo]; rfl)) hr4
  have g34 : q_gr f21 sr := q_gr_fr hgr (fun i9 _ => hF.z hsr (by rw [ksr]; rfl))
  have g35 : q_pk f21 mo pa := q_pk_tr hpk (hF.z hmo (by rw [kmo]; rfl)) (fun i9 => hF.z hpa (by rw [kpa]; rfl))
  have g36 : q_sv f21 mo sd := q_sv_tr hsv (hF.z hmo (by rw [kmo]; rfl)) (fun i9 => hF.z hsd (by rw [ksd]; rfl))
  have g37 : q_pc f21 mo pa xc := q_pc_tr hpc (hF.z hmo (by rw [kmo]; rfl)) (fun i9 => hF.z hpa (by rw [kpa]; rfl))
  subst qy22
  refine q_ifne (tgt := 13) cx ⟨by decide, by decide⟩ dX12_restore_8 (by decide) (fun c38 => ?_) (fun c38 => ?_)
  · exact absurd c38 (by omega)
  · refine q_iconst cx dX12_restore_11 ?_
    refine q_iret cx hr hlk hB dX12_restore_12 ⟨by decide, by decide⟩ ?_
    exact ⟨(by decide), (by decide), (q_isl z25 (by omega)), (q_isu z25 (by omega)), (q_isl z26 (by omega)), (q_isu z26 (by omega)), z27, g35, g37⟩
set_option maxHeartbeats 4000000 in
set_option maxRecDepth 100000 in
theorem r_restore1 (l : Launch) (g : q_G) {K : Nat → Nat} {L : List Nat} (hN : L.Nodup) {f : Nat → va_E} (hT : q_Ty g K L f) (mo : Nat) (hmo : mo ∈ L) (kmo : K mo = 12) (sr : Nat) (hsr : sr ∈ L) (ksr : K sr = 151) (sd : Nat) (hsd : sd ∈ L) (ksd : K sd = 152) (nm : Nat) (hnm : nm ∈ L) (knm : K nm = 156) (snm : Nat) (hsnm : snm ∈ L) (ksnm : K snm = 157) (pa : Nat) (hpa : pa ∈ L) (kpa : K pa = 155) (xt : Int) (lxt : 0 ≤ xt) (uxt : xt ≤ 9999) (xm : Int) (lxm : 0 ≤ xm) (uxm : xm ≤ 60) (xc : Int) (lxc : 0 ≤ xc) (uxc : xc ≤ 10) (xs : Int) (lxs : 0 ≤ xs) (uxs : xs ≤ 10) (hf0 : q_is (q_z f sr 3) xt) (hf1 : q_is (q_z f sr 4) xm) (hf2 : q_is (q_z f sr 0) xc) (hf3 : q_is (q_z f mo 22) 1) (hf4 : q_is (q_z f sd 0) xs) (hr0 : q_ir (q_r f mo 13) sr) (hr1 : q_ir (q_r f mo 14) sd) (hr2 : q_ir (q_r f mo 18) nm) (hr3 : q_ir (q_r f mo 19) snm) (hr4 : q_ir (q_r f mo 17) pa) (hgr : q_gr f sr) (hpk : q_pk f mo pa) (hsv : q_sv f mo sd) (hpc : q_pc f mo pa xc) : q_Ct l g K L yX12_restore cX12_restore 1 (some .int) 2 41 [.ref mo] f [(12, 0, 0), (12, 21, 21), (151, 0, 657), (156, 0, 9)] (q_Pi (fun (z : Int) (f1 : Nat → va_E) => 0 ≤ z ∧ z ≤ 9999 ∧ 0 ≤ q_z f1 sr 3 ∧ q_z f1 sr 3 ≤ 9999 ∧ 0 ≤ q_z f1 sr 4 ∧ q_z f1 sr 4 ≤ 60 ∧ q_is (q_z f1 sr 0) xs ∧ q_gr f1 sr ∧ (q_pk f1 mo pa) ∧ (q_sv f1 mo sd))) := by
  refine q_ofb (by decide +kernel) hN hT (Nat.le_of_ble_eq_true rfl) ?_
  intro p e s m below meth c ls cx hr hlk hB hl
  have hl : lv_has ls 1 [(0, .ref mo)] := hl
  obtain ⟨H, hH⟩ : ∃ H : Heap, H = s.heap := ⟨_, rfl⟩
  obtain ⟨locs, hlocs⟩ : ∃ z : List Loc, z = [] := ⟨_, rfl⟩
  rw [← hH, ← hlocs] at hB
  rw [← hH, ← hlocs]
  refine q_ald_n cx dX12_restore_0 rfl (lv_at hl 0 rfl) ?_
  refine q_ald_n cx dX12_restore_1 rfl (lv_at hl 0 rfl) ?_
  refine q_gX12_168 cx hB hmo kmo hf3 dX12_restore_2 (fun lb86 ub86 => ?_)
  refine q_cVi (As := [.int (q_i 1)]) (rest := []) cx hB (fun _ h => h) hN hmo kmo (by decide) rfl (r_goes1 l g hN hB.2.1 mo hmo kmo 1 (by decide) (by decide)) q_cX12_85 q_dX12_goes (by decide) rfl rfl hl.1 rfl (Nat.le_of_ble_eq_true rfl) dX12_restore_5 (fun y88 H locs f87 ry88 h89 hF hB => ?_)
  obtain ⟨qy88, z90⟩ := h89
  have z91 : q_is (q_z f87 sr 3) xt := Eq.trans (hF.z hsr (by rw [ksr]; rfl)) hf0
  have z92 : q_is (q_z f87 sr 4) xm := Eq.trans (hF.z hsr (by rw [ksr]; rfl)) hf1
  have z93 : q_is (q_z f87 sr 0) xc := Eq.trans (hF.z hsr (by rw [ksr]; rfl)) hf2
  have z94 : q_is (q_z f87 mo 22) 1 := Eq.trans (hF.z hmo (by rw [kmo]; rfl)) hf3
  have z95 : q_is (q_z f87 sd 0) xs := Eq.trans (hF.z hsd (by rw [ksd]; rfl)) hf4
  have z96 : q_ir (q_r f87 mo 13) sr := Eq.trans (hF.r hmo (by rw [kmo]; rfl)) hr0
  have z97 : q_ir (q_r f87 mo 14) sd := Eq.trans (hF.r hmo (by rw [kmo]; rfl)) hr1
  have z98 : q_ir (q_r f87 mo 18) nm := Eq.trans (hF.r hmo (by rw [kmo]; rfl)) hr2
  have z99 : q_ir (q_r f87 mo 19) snm := Eq.trans (hF.r hmo (by rw [kmo]; rfl)) hr3
  have z100 : q_ir (q_r f87 mo 17) pa := Eq.trans (hF.r hmo (by rw [kmo]; rfl)) hr4
  have g101 : q_gr f87 sr := q_gr_fr hgr (fun i9 _ => hF.z hsr (by rw [ksr]; rfl))
  have g102 : q_pk f87 mo pa := q_pk_tr hpk (hF.z hmo (by rw [kmo]; rfl)) (fun i9 => hF.z hpa (by rw [kpa]; rfl))
  have g103 : q_sv f87 mo sd := q_sv_tr hsv (hF.z hmo (by rw [kmo]; rfl)) (fun i9 => hF.z hsd (by rw [ksd]; rfl))
  have g104 : q_pc f87 mo pa xc := q_pc_tr hpc (hF.z hmo (by rw [kmo]; rfl)) (fun i9 => hF.z hpa (by rw [kpa]; rfl))
  subst qy88
  refine q_ifne (tgt := 13) cx ⟨by decide, by decide⟩ dX12_restore_8 (by decide) (fun c105 => ?_) (fun c105 => ?_)
  · obtain ⟨x106, ex106⟩ : ∃ zz, q_is (q_z f87 sd 2) zz := ⟨_, q_isr _⟩
    obtain ⟨lx106, ux106⟩ : 4 ≤ x106 ∧ x106 ≤ 60 := q_isb ex106 ⟨g103 z94, (q_ai (lo := 0) (hi := 60) hB.2.1 hsd ksd (by decide) rfl (by decide) rfl).2⟩
    refine q_ald_n cx dX12_restore_13 rfl (lv_at hl 0 rfl) ?_
    refine q_gX12_23 cx hB hmo kmo z97 dX12_restore_14 (fun hb107 kb107 => ?_)
    refine q_iconst cx dX12_restore_17 ?_
    refine q_ald_n cx dX12_restore_18 rfl (lv_at hl 0 rfl) ?_
    refine q_gX12_20 cx hB hmo kmo z96 dX12_restore_19 (fun hb108 kb108 => ?_)
    refine q_iconst cx dX12_restore_22 ?_
    refine q_cSv (As := [.ref sd, .int (q_i 0), .ref sr, .int (q_i 0)]) (rest := []) cx hB (fun _ h => h) hN (r_copiesRow_sd_sr l g hN hB.2.1 sd hsd ksd 0 (by decide) (by decide) sr hsr ksr 0 (by decide) (by decide) x106 (by omega) (by omega) xs (by omega) (by omega) ex106 z95) q_cX12_154 q_dX12_copiesRow (by decide) rfl rfl hl.1 rfl (Nat.le_of_ble_eq_true rfl) dX12_restore_23 (fun H locs f109 h111 hF hB => ?_)
    obtain ⟨lz112, uz112, lz113, uz113, z114, t115, g116⟩ := h111
    have z117 : q_is (q_z f109 mo 22) 1 := Eq.trans (hF.z hmo (by rw [kmo]; rfl)) z94
    have z118 : q_is (q_z f109 sd 0) xs := Eq.trans (hF.z hsd (by rw [ksd]; rfl)) z95
    have z119 : q_is (q_z f109 mo 0) 0 := Eq.trans (hF.z hmo (by rw [kmo]; rfl)) z90
    have z120 : q_is (q_z f109 sd 2) x106 := Eq.trans (hF.z hsd (by rw [ksd]; rfl)) ex106
    have z121 : q_ir (q_r f109 mo 13) sr := Eq.trans (hF.r hmo (by rw [kmo]; rfl)) z96
    have z122 : q_ir (q_r f109 mo 14) sd := Eq.trans (hF.r hmo (by rw [kmo]; rfl)) z97
    have z123 : q_ir (q_r f109 mo 18) nm := Eq.trans (hF.r hmo (by rw [kmo]; rfl)) z98
    have z124 : q_ir (q_r f109 mo 19) snm := Eq.trans (hF.r hmo (by rw [kmo]; rfl)) z99
    have z125 : q_ir (q_r f109 mo 17) pa := Eq.trans (hF.r hmo (by rw [kmo]; rfl)) z100
    have g126 : q_pk f109 mo pa := q_pk_tr g102 (hF.z hmo (by rw [kmo]; rfl)) (fun i9 => hF.z hpa (by rw [kpa]; rfl))
    have g127 : q_sv f109 mo sd := q_sv_tr g103 (hF.z hmo (by rw [kmo]; rfl)) (fun i9 => hF.z hsd (by rw [ksd]; rfl))
    have g128 : q_pc f109 mo pa xc := q_pc_tr g104 (hF.z hmo (by rw [kmo]; rfl)) (fun i9 => hF.z hpa (by rw [kpa]; rfl))
    obtain ⟨x129, ex129⟩ : ∃ zz, q_is (q_z f109 sr 3) zz := ⟨_, q_isr _⟩
    obtain ⟨lx129, ux129⟩ := q_isb ex129 ⟨lz112, uz112⟩
    obtain ⟨x130, ex130⟩ : ∃ zz, q_is (q_z f109 sr 4) zz := ⟨_, q_isr _⟩
    obtain ⟨lx130, ux130⟩ := q_isb ex130 ⟨lz113, uz113⟩
    refine q_ald_n cx dX12_restore_26 rfl (lv_at hl 0 rfl) ?_
    refine q_gX12_39 cx hB hmo kmo z124 dX12_restore_27 (fun hb131 kb131 => ?_)
    refine q_ald_n cx dX12_restore_30 rfl (lv_at hl 0 rfl) ?_
    refine q_gX12_35 cx hB hmo kmo z123 dX12_restore_31 (fun hb132 kb132 => ?_)
    refine q_cSv (As := [.ref snm, .ref nm]) (rest := []) cx hB (fun _ h => h) hN (r_copiesNames_157_156 l g hN hB.2.1 snm hsnm ksnm nm hnm knm) q_cX12_164 q_dX12_copiesNames (by decide) rfl rfl hl.1 rfl (Nat.le_of_ble_eq_true rfl) dX12_restore_34 (fun H locs f133 h135 hF hB => ?_)
    have z136 : q_is (q_z f133 mo 22) 1 := Eq.trans (hF.z hmo (by rw [kmo]; rfl)) z117
    have z137 : q_is (q_z f133 sd 0) xs := Eq.trans (hF.z hsd (by rw [ksd]; rfl)) z118
    have z138 : q_is (q_z f133 mo 0) 0 := Eq.trans (hF.z hmo (by rw [kmo]; rfl)) z119
    have z139 : q_is (q_z f133 sd 2) x106 := Eq.trans (hF.z hsd (by rw [ksd]; rfl)) z120
    have z140 : q_is (q_z f133 sr 3) x129 := Eq.trans (hF.z hsr (by rw [ksr]; rfl)) ex129
    have z141 : q_is (q_z f133 sr 4) x130 := Eq.trans (hF.z hsr (by rw [ksr]; rfl)) ex130
    have z142 : q_is (q_z f133 sr 0) xs := Eq.trans (hF.z hsr (by rw [ksr]; rfl)) z114
    have z143 : q_ir (q_r f133 mo 13) sr := Eq.trans (hF.r hmo (by rw [kmo]; rfl)) z121
    have z144 : q_ir (q_r f133 mo 14) sd := Eq.trans (hF.r hmo (by rw [kmo]; rfl)) z122
    have z145 : q_ir (q_r f133 mo 18) nm := Eq.trans (hF.r hmo (by rw [kmo]; rfl)) z123
    have z146 : q_ir (q_r f133 mo 19) snm := Eq.trans (hF.r hmo (by rw [kmo]; rfl)) z124
    have z147 : q_ir (q_r f133 mo 17) pa := Eq.trans (hF.r hmo (by rw [kmo]; rfl)) z125
    have g148 : q_gr f133 sr := q_gr_fr g116 (fun i9 _ => hF.z hsr (by rw [ksr]; rfl))
    have g149 : q_pk f133 mo pa := q_pk_tr g126 (hF.z hmo (by rw [kmo]; rfl)) (fun i9 => hF.z hpa (by rw [kpa]; rfl))
    have g150 : q_sv f133 mo sd := q_sv_tr g127 (hF.z hmo (by rw [kmo]; rfl)) (fun i9 => hF.z hsd (by rw [ksd]; rfl))
    have g151 : q_pc f133 mo pa xc := q_pc_tr g128 (hF.z hmo (by rw [kmo]; rfl)) (fun i9 => hF.z hpa (by rw [kpa]; rfl))
    refine q_ald_n cx dX12_restore_37 rfl (lv_at hl 0 rfl) ?_
    refine q_iconst cx dX12_restore_38 ?_
    refine q_pX12_158 cx hB hmo kmo ⟨by decide, by decide⟩ (by decide) (by decide) rfl dX12_restore_39 (fun H locs f152 ef152 z153 hB => ?_)
    have z154 : q_is (q_z f152 mo 22) 1 := by rw [ef152, q_setz (Or.inr (by decide))]; exact z136
    have z155 : q_is (q_z f152 sd 0) xs := by rw [ef152, q_setz (Or.inr (by decide))]; exact z137
    have z156 : q_is (q_z f152 mo 0) 0 := by rw [ef152, q_setz (Or.inr (by decide))]; exact z138
    have z157 : q_is (q_z f152 sd 2) x106 := by rw [ef152, q_setz (Or.inr (by decide))]; exact z139
    have z158 : q_is (q_z f152 sr 3) x129 := by rw [ef152, q_setz (Or.inr (by decide))]; exact z140
    have z159 : q_is (q_z f152 sr 4) x130 := by rw [ef152, q_setz (Or.inr (by decide))]; exact z141
    have z160 : q_is (q_z f152 sr 0) xs := by rw [ef152, q_setz (Or.inr (by decide))]; exact z142
    have z161 : q_ir (q_r f152 mo 13) sr := by rw [ef152, q_setr (Or.inr (by decide))]; exact z143
    have z162 : q_ir (q_r f152 mo 14) sd := by rw [ef152, q_setr (Or.inr (by decide))]; exact z144
    have z163 : q_ir (q_r f152 mo 18) nm := by rw [ef152, q_setr (Or.inr (by decide))]; exact z145
    have z164 : q_ir (q_r f152 mo 19) snm := by rw [ef152, q_setr (Or.inr (by decide))]; exact z146
    have z165 : q_ir (q_r f152 mo 17) pa := by rw [ef152, q_setr (Or.inr (by decide))]; exact z147
    have g166 : q_gr f152 sr := q_gr_ne g148 ef152 (fun q => q_kne (k := 151) (k2 := 12) (by decide) ksr kmo q)
    have g167 : q_sv f152 mo sd := q_sv_tr g150 (by rw [ef152, q_setz (Or.inr (by decide))]) (fun i9 => by rw [ef152, q_setz (Or.inl (fun q => by rw [q, kmo] at ksd; exact absurd ksd (by decide)))])
    have hpk0 : q_pk f152 mo pa := k_pk0 z153
    refine q_ald_n cx dX12_restore_42 rfl (lv_at hl 0 rfl) ?_
    refine q_gX12_20 cx hB hmo kmo z161 dX12_restore_43 (fun hb168 kb168 => ?_)
    refine q_iconst cx dX12_restore_46 ?_
    refine q_iald (lo := (-2147483648)) (hi := 2147483647) (n := 658) cx hB hsr ksr (by decide) rfl rfl (by decide) (by decide) (by decide) rfl z158 dX12_restore_47 (fun lb170 ub170 => ?_)
    refine q_iret cx hr hlk hB dX12_restore_48 ⟨by omega, by omega⟩ ?_
    exact ⟨(by omega), (by omega), (q_isl z158 (by omega)), (q_isu z158 (by omega)), (q_isl z159 (by omega)), (q_isu z159 (by omega)), z160, g166, hpk0, g167⟩
  · exact absurd c105 (by omega)
