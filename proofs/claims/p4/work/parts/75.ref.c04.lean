set_option maxHeartbeats 4000000 in
set_option maxRecDepth 100000 in
theorem f_mreadText (l : Launch) (g : q_G) {K : Nat → Nat} {L : List Nat} (hN : L.Nodup) {f : Nat → va_E} (hT : q_Ty g K L f) (B : Nat → Int) (mo : Nat) (hmo : mo ∈ L) (kmo : K mo = 12) (sr : Nat) (hsr : sr ∈ L) (ksr : K sr = 151) (as : Nat) (has : as ∈ L) (kas : K as = 153) (nm : Nat) (hnm : nm ∈ L) (knm : K nm = 156) (anm : Nat) (hanm : anm ∈ L) (kanm : K anm = 158) (bu : Nat) (hbu : bu ∈ L) (kbu : K bu = 150) (pa : Nat) (hpa : pa ∈ L) (kpa : K pa = 155) (xt : Int) (lxt : 0 ≤ xt) (uxt : xt ≤ 9999) (xm : Int) (lxm : 0 ≤ xm) (uxm : xm ≤ 60) (tn : Int) (ltn : 0 ≤ tn) (utn : tn ≤ 600) (hf0 : q_is (q_z f sr 3) xt) (hf1 : q_is (q_z f sr 4) xm) (hf2 : q_is (q_z f mo 2) tn) (hr0 : q_ir (q_r f mo 13) sr) (hr1 : q_ir (q_r f mo 15) as) (hr2 : q_ir (q_r f mo 18) nm) (hr3 : q_ir (q_r f mo 20) anm) (hr4 : q_ir (q_r f mo 1) bu) (hr5 : q_ir (q_r f mo 17) pa) (hgr : q_gr f sr) (hpk : q_pk f mo pa) (hub : tk_ub f bu B tn) : q_Ct l g K L yX12_readText cX12_readText 2 (some .int) 6 136 [.ref mo] f [(12, 0, 0), (12, 2, 12), (12, 21, 21), (12, 23, 23), (151, 0, 657), (153, 0, 657), (156, 0, 9), (158, 0, 9)] (q_Pi (fun (z : Int) (f1 : Nat → va_E) => (0 ≤ z ∧ z ≤ 10 ∧ 0 ≤ q_z f1 sr 3 ∧ q_z f1 sr 3 ≤ 9999 ∧ 0 ≤ q_z f1 sr 4 ∧ q_z f1 sr 4 ≤ 60 ∧ q_is (q_z f1 mo 2) 0 ∧ q_is (q_z f1 mo 0) 0 ∧ q_is (q_z f1 mo 10) 0 ∧ q_is (q_z f1 mo 11) (-1) ∧ (∃ A1 : tk_A, tk_T B tn (tk_S B tn 0) tk_A0 = tk_ok A1 ∧ z = ((tk_nd A1).length : Int)) ∧ q_gr f1 sr ∧ (q_pk f1 mo pa)) ∨ (z = 0 ∧ 0 ≤ q_z f1 sr 3 ∧ q_z f1 sr 3 ≤ 9999 ∧ 0 ≤ q_z f1 sr 4 ∧ q_z f1 sr 4 ≤ 60 ∧ q_is (q_z f1 mo 2) 0 ∧ q_is (q_z f1 mo 0) 1 ∧ (tk_T B tn (tk_S B tn 0) tk_A0 = tk_er (q_z f1 mo 10) (q_z f1 mo 11)) ∧ q_gr f1 sr ∧ (q_pk f1 mo pa)))) := by
  refine q_ofb (by decide +kernel) hN hT (Nat.le_of_ble_eq_true rfl) ?_
  intro p e s m below meth c ls cx hr hlk hB hl
  have hl : lv_has ls 2 [(0, .ref mo)] := hl
  have J84 : ∀ (n : Nat) (f84 : Nat → va_E) (v84_1 : Int) (lv84_1 : 0 ≤ v84_1) (uv84_1 : v84_1 ≤ 10) (w84_mo_8 : Int) (lw84_mo_8 : 0 ≤ w84_mo_8) (uw84_mo_8 : w84_mo_8 ≤ 0) (w84_mo_9 : Int) (lw84_mo_9 : (-1) ≤ w84_mo_9) (uw84_mo_9 : w84_mo_9 ≤ (-1)) (w84_mo_2 : Int) (lw84_mo_2 : 0 ≤ w84_mo_2) (uw84_mo_2 : w84_mo_2 ≤ 0) (w84_mo_5 : Int) (lw84_mo_5 : 0 ≤ w84_mo_5) (uw84_mo_5 : w84_mo_5 ≤ 600) (w84_as_2 : Int) (lw84_as_2 : 4 ≤ w84_as_2) (uw84_as_2 : w84_as_2 ≤ 60) (w84_sr_3 : Int) (lw84_sr_3 : 0 ≤ w84_sr_3) (uw84_sr_3 : w84_sr_3 ≤ 9999) (w84_sr_4 : Int) (lw84_sr_4 : 0 ≤ w84_sr_4) (uw84_sr_4 : w84_sr_4 ≤ 60) (w84_mo_0 : Int) (lw84_mo_0 : 0 ≤ w84_mo_0) (uw84_mo_0 : w84_mo_0 ≤ 0) (w84_mo_10 : Int) (lw84_mo_10 : 0 ≤ w84_mo_10) (uw84_mo_10 : w84_mo_10 ≤ 0) (w84_mo_11 : Int) (lw84_mo_11 : (-1) ≤ w84_mo_11) (uw84_mo_11 : w84_mo_11 ≤ (-1)) (hj_mo_8 : q_is (q_z f84 mo 8) w84_mo_8) (hj_mo_9 : q_is (q_z f84 mo 9) w84_mo_9) (hj_mo_2 : q_is (q_z f84 mo 2) w84_mo_2) (hj_mo_3 : q_is (q_z f84 mo 3) tn) (hj_mo_5 : q_is (q_z f84 mo 5) w84_mo_5) (hj_as_2 : q_is (q_z f84 as 2) w84_as_2) (hj_sr_3 : q_is (q_z f84 sr 3) w84_sr_3) (hj_sr_4 : q_is (q_z f84 sr 4) w84_sr_4) (hj_mo_0 : q_is (q_z f84 mo 0) w84_mo_0) (hj_mo_10 : q_is (q_z f84 mo 10) w84_mo_10) (hj_mo_11 : q_is (q_z f84 mo 11) w84_mo_11) (hq_mo_13 : q_ir (q_r f84 mo 13) sr) (hq_mo_15 : q_ir (q_r f84 mo 15) as) (hq_mo_18 : q_ir (q_r f84 mo 18) nm) (hq_mo_20 : q_ir (q_r f84 mo 20) anm) (hq_mo_1 : q_ir (q_r f84 mo 1) bu) (hq_mo_17 : q_ir (q_r f84 mo 17) pa) (hgr84 : q_gr f84 sr) (hpk84 : q_pk f84 mo pa) (htr84 : tk_tr f84 mo B tn) (hub84 : tk_ub f84 bu B tn) (hal84 : ∃ A1 : tk_A, tk_T B tn (tk_S B tn 0) tk_A0 = tk_ok A1 ∧ tk_tm f84 mo sr nm A1) (hmu : (Int.toNat (2147483647 - v84_1)) < n) (H : Heap) (locs : List Loc) (hB : q_B g K L (fun q => q ∈ L) [(12, 0, 0), (12, 2, 12), (12, 21, 21), (12, 23, 23), (151, 0, 657), (153, 0, 657), (156, 0, 9), (158, 0, 9)] f f84 s H locs) (ls : Array Slot) (hl : lv_has ls 2 [(0, .ref mo), (1, .int (q_i v84_1))]), W p l e { frames := 6, cells := 0, slots := 0, locals := 136 } s m ([.ref mo] : List Value).toArray below meth c H locs 0 0 (MQ below (q_Q g K L [(12, 0, 0), (12, 2, 12), (12, 21, 21), (12, 23, 23), (151, 0, 657), (153, 0, 657), (156, 0, 9), (158, 0, 9)] f (q_Pi (fun (z : Int) (f1 : Nat → va_E) => (0 ≤ z ∧ z ≤ 10 ∧ 0 ≤ q_z f1 sr 3 ∧ q_z f1 sr 3 ≤ 9999 ∧ 0 ≤ q_z f1 sr 4 ∧ q_z f1 sr 4 ≤ 60 ∧ q_is (q_z f1 mo 2) 0 ∧ q_is (q_z f1 mo 0) 0 ∧ q_is (q_z f1 mo 10) 0 ∧ q_is (q_z f1 mo 11) (-1) ∧ (∃ A1 : tk_A, tk_T B tn (tk_S B tn 0) tk_A0 = tk_ok A1 ∧ z = ((tk_nd A1).length : Int)) ∧ q_gr f1 sr ∧ (q_pk f1 mo pa)) ∨ (z = 0 ∧ 0 ≤ q_z f1 sr 3 ∧ q_z f1 sr 3 ≤ 9999 ∧ 0 ≤ q_z f1 sr 4 ∧ q_z f1 sr 4 ≤ 60 ∧ q_is (q_z f1 mo 2) 0 ∧ q_is (q_z f1 mo 0) 1 ∧ (tk_T B tn (tk_S B tn 0) tk_A0 = tk_er (q_z f1 mo 10) (q_z f1 mo 11)) ∧ q_gr f1 sr ∧ (q_pk f1 mo pa))))) ([.ref mo] : List Value).toArray s 0 0 (fun q => q ∈ L)) (F0 m 84 ls []) := by
    intro n
    induction n with
    | zero =>
      intro f84 v84_1 lv84_1 uv84_1 w84_mo_8 lw84_mo_8 uw84_mo_8 w84_mo_9 lw84_mo_9 uw84_mo_9 w84_mo_2 lw84_mo_2 uw84_mo_2 w84_mo_5 lw84_mo_5 uw84_mo_5 w84_as_2 lw84_as_2 uw84_as_2 w84_sr_3 lw84_sr_3 uw84_sr_3 w84_sr_4 lw84_sr_4 uw84_sr_4 w84_mo_0 lw84_mo_0 uw84_mo_0 w84_mo_10 lw84_mo_10 uw84_mo_10 w84_mo_11 lw84_mo_11 uw84_mo_11 hj_mo_8 hj_mo_9 hj_mo_2 hj_mo_3 hj_mo_5 hj_as_2 hj_sr_3 hj_sr_4 hj_mo_0 hj_mo_10 hj_mo_11 hq_mo_13 hq_mo_15 hq_mo_18 hq_mo_20 hq_mo_1 hq_mo_17 hgr84 hpk84 htr84 hub84 hal84 hmu
      exact absurd hmu (Nat.not_lt_zero _)
    | succ n ih84 =>
      intro f84 v84_1 lv84_1 uv84_1 w84_mo_8 lw84_mo_8 uw84_mo_8 w84_mo_9 lw84_mo_9 uw84_mo_9 w84_mo_2 lw84_mo_2 uw84_mo_2 w84_mo_5 lw84_mo_5 uw84_mo_5 w84_as_2 lw84_as_2 uw84_as_2 w84_sr_3 lw84_sr_3 uw84_sr_3 w84_sr_4 lw84_sr_4 uw84_sr_4 w84_mo_0 lw84_mo_0 uw84_mo_0 w84_mo_10 lw84_mo_10 uw84_mo_10 w84_mo_11 lw84_mo_11 uw84_mo_11 hj_mo_8 hj_mo_9 hj_mo_2 hj_mo_3 hj_mo_5 hj_as_2 hj_sr_3 hj_sr_4 hj_mo_0 hj_mo_10 hj_mo_11 hq_mo_13 hq_mo_15 hq_mo_18 hq_mo_20 hq_mo_1 hq_mo_17 hgr84 hpk84 htr84 hub84 hal84 hmu H locs hB ls hl
      refine q_ild_n cx dX12_readText_84 rfl (lv_at hl 1 rfl) ?_
      obtain ⟨A7, hT7, htm7⟩ := hal84
      refine q_ald_n cx dX12_readText_85 rfl (lv_at hl 0 rfl) ?_
      refine q_gX12_20 cx hB hmo kmo hq_mo_13 dX12_readText_86 (fun hb1264 kb1264 => ?_)
      refine q_iconst cx dX12_readText_89 ?_
      obtain ⟨x1265, ex1265⟩ : ∃ zz, q_is (q_z f84 sr (Int.toNat 0)) zz := ⟨_, q_isr _⟩
      refine q_iald (lo := 0) (hi := 10) (n := 658) cx hB hsr ksr (by decide) rfl rfl (by decide) (by decide) (by decide) rfl ex1265 dX12_readText_90 (fun lb1266 ub1266 => ?_)
      refine q_icge (tgt := 138) cx ⟨by omega, by omega⟩ ⟨by omega, by omega⟩ dX12_readText_91 (by decide) (fun c1267 => ?_) (fun c1267 => ?_)
      · refine q_ald_n cx dX12_readText_138 rfl (lv_at hl 0 rfl) ?_
        refine q_iconst cx dX12_readText_139 ?_
        refine q_pX12_158 cx hB hmo kmo ⟨by decide, by decide⟩ (by decide) (by decide) rfl dX12_readText_140 (fun H locs f1268 ef1268 z1269 hB => ?_)
        have z1270 : q_is (q_z f1268 mo 8) w84_mo_8 := by rw [ef1268, q_setz (Or.inr (by decide))]; exact hj_mo_8
        have z1271 : q_is (q_z f1268 mo 9) w84_mo_9 := by rw [ef1268, q_setz (Or.inr (by decide))]; exact hj_mo_9
        have z1272 : q_is (q_z f1268 mo 2) w84_mo_2 := by rw [ef1268, q_setz (Or.inr (by decide))]; exact hj_mo_2
        have z1273 : q_is (q_z f1268 mo 3) tn := by rw [ef1268, q_setz (Or.inr (by decide))]; exact hj_mo_3
        have z1274 : q_is (q_z f1268 mo 5) w84_mo_5 := by rw [ef1268, q_setz (Or.inr (by decide))]; exact hj_mo_5
        have z1275 : q_is (q_z f1268 as 2) w84_as_2 := by rw [ef1268, q_setz (Or.inr (by decide))]; exact hj_as_2
        have z1276 : q_is (q_z f1268 sr 3) w84_sr_3 := by rw [ef1268, q_setz (Or.inr (by decide))]; exact hj_sr_3
        have z1277 : q_is (q_z f1268 sr 4) w84_sr_4 := by rw [ef1268, q_setz (Or.inr (by decide))]; exact hj_sr_4
        have z1278 : q_is (q_z f1268 mo 0) w84_mo_0 := by rw [ef1268, q_setz (Or.inr (by decide))]; exact hj_mo_0
        have z1279 : q_is (q_z f1268 mo 10) w84_mo_10 := by rw [ef1268, q_setz (Or.inr (by decide))]; exact hj_mo_10
        have z1280 : q_is (q_z f1268 mo 11) w84_mo_11 := by rw [ef1268, q_setz (Or.inr (by decide))]; exact hj_mo_11
        have z1281 : q_is (q_z f1268 sr 0) x1265 := by rw [ef1268, q_setz (Or.inr (by decide))]; exact ex1265
        have z1282 : q_ir (q_r f1268 mo 13) sr := by rw [ef1268, q_setr (Or.inr (by decide))]; exact hq_mo_13
        have z1283 : q_ir (q_r f1268 mo 15) as := by rw [ef1268, q_setr (Or.inr (by decide))]; exact hq_mo_15
        have z1284 : q_ir (q_r f1268 mo 18) nm := by rw [ef1268, q_setr (Or.inr (by decide))]; exact hq_mo_18
        have z1285 : q_ir (q_r f1268 mo 20) anm := by rw [ef1268, q_setr (Or.inr (by decide))]; exact hq_mo_20
        have z1286 : q_ir (q_r f1268 mo 1) bu := by rw [ef1268, q_setr (Or.inr (by decide))]; exact hq_mo_1
        have z1287 : q_ir (q_r f1268 mo 17) pa := by rw [ef1268, q_setr (Or.inr (by decide))]; exact hq_mo_17
        have g1288 : q_gr f1268 sr := q_gr_ne hgr84 ef1268 (fun q => q_kne (k := 151) (k2 := 12) (by decide) ksr kmo q)
        have g1289 : tk_ub f1268 bu B tn := tk_ub_tr hub84 (fun i9 => by rw [ef1268, q_setz (Or.inl (fun q => by rw [q, kmo] at kbu; exact absurd kbu (by decide)))])
        have g1290 : tk_tr f1268 mo B tn := tk_tr_tr htr84 (by rw [ef1268, q_setz (Or.inr (by decide))]) (by rw [ef1268, q_setz (Or.inr (by decide))]) (by rw [ef1268, q_setz (Or.inr (by decide))]) (by rw [ef1268, q_setz (Or.inr (by decide))]) (by rw [ef1268, q_setj (Or.inr (by decide))])
        have g1291 : tk_tm f1268 mo sr nm A7 := tk_tm_tr htm7 (by rw [ef1268, q_setz (Or.inr (by decide))]) (fun i9 h9 k9 => by rw [ef1268, q_setz (Or.inl (fun q => by rw [q, kmo] at ksr; exact absurd ksr (by decide)))]) (fun i9 h9 k9 => by rw [ef1268, q_setz (Or.inl (fun q => by rw [q, kmo] at ksr; exact absurd ksr (by decide)))]) (fun i9 => by rw [ef1268, q_setj (Or.inl (fun q => by rw [q, kmo] at knm; exact absurd knm (by decide)))])
        have hpk0 : q_pk f1268 mo pa := k_pk0 z1269
        refine q_ald_n cx dX12_readText_143 rfl (lv_at hl 0 rfl) ?_
        refine q_gX12_20 cx hB hmo kmo z1282 dX12_readText_144 (fun hb1292 kb1292 => ?_)
        refine q_iconst cx dX12_readText_147 ?_
        refine q_iald (lo := 0) (hi := 10) (n := 658) cx hB hsr ksr (by decide) rfl rfl (by decide) (by decide) (by decide) rfl z1281 dX12_readText_148 (fun lb1294 ub1294 => ?_)
        refine q_iret cx hr hlk hB dX12_readText_149 ⟨by omega, by omega⟩ ?_
        exact (Or.inl ⟨(by omega), (by omega), (q_isl z1276 (by omega)), (q_isu z1276 (by omega)), (q_isl z1277 (by omega)), (q_isu z1277 (by omega)), (Eq.trans z1272 (by omega)), (Eq.trans z1278 (by omega)), (Eq.trans z1279 (by omega)), (Eq.trans z1280 (by omega)), ⟨A7, hT7, (tk_tm_nn g1291 z1281).symm⟩, g1288, hpk0⟩)
      · refine q_ald_n cx dX12_readText_94 rfl (lv_at hl 0 rfl) ?_
        refine q_ild_n cx dX12_readText_95 rfl (lv_at hl 1 rfl) ?_
        refine q_iconst cx dX12_readText_96 ?_
        refine q_ald_n cx dX12_readText_97 rfl (lv_at hl 0 rfl) ?_
        refine q_ild_n cx dX12_readText_98 rfl (lv_at hl 1 rfl) ?_
        refine q_iconst cx dX12_readText_99 ?_
        refine q_cVi (As := [.int (q_i v84_1), .int (q_i 0)]) (rest := [.int (q_i 0), .int (q_i v84_1), .ref mo]) cx hB (fun _ h => h) hN hmo kmo (by decide) rfl (r_ofNode0 l g hN hB.2.1 mo hmo kmo v84_1 (by omega) (by omega) 0 (by decide) (by decide) sr hsr ksr hq_mo_13 hgr84) q_cX12_256 q_dX12_ofNode (by decide) rfl rfl hl.1 rfl (Nat.le_of_ble_eq_true rfl) dX12_readText_100 (fun y1296 H locs f1295 ry1296 h1297 hF hB => ?_)
        obtain ⟨rfl, ly1296, uy1296⟩ := h1297
        refine q_ald_n cx dX12_readText_103 rfl (lv_at hl 0 rfl) ?_
        refine q_gX12_20 cx hB hmo kmo hq_mo_13 dX12_readText_104 (fun hb1298 kb1298 => ?_)
        refine q_iconst cx dX12_readText_107 ?_
        obtain ⟨x1299, ex1299⟩ : ∃ zz, q_is (q_z f84 sr (Int.toNat 2)) zz := ⟨_, q_isr _⟩
        refine q_sald cx hB hsr ksr (by decide) (by decide) ex1299 dX12_readText_108 (fun rx1299 => ?_)
        obtain ⟨lx1299, ux1299⟩ : 4 ≤ x1299 ∧ x1299 ≤ 60 := q_isb ex1299 (q_gr_at hgr84 (by decide) rfl)
        refine q_irem cx ⟨by omega, by omega⟩ ⟨by omega, by omega⟩ (by omega) dX12_readText_109 (fun y1301 ey1301 ay1301 by1301 ny1301 => ?_)
        refine q_cVv (As := [.int (q_i v84_1), .int (q_i 0), .int (q_i y1301)]) (rest := []) cx hB (fun _ h => h) hN hmo kmo (by decide) rfl (r_setsNode0 l g hN hB.2.1 mo hmo kmo v84_1 (by omega) (by omega) 0 (by decide) (by decide) y1301 (by omega) (by omega) sr hsr ksr hq_mo_13 hgr84) q_cX12_202 q_dX12_setsNode (by decide) rfl rfl hl.1 rfl (Nat.le_of_ble_eq_true rfl) dX12_readText_110 (fun H locs f1302 h1304 hF hB => ?_)
        have g1305 := h1304
        have z1306 : q_is (q_z f1302 mo 8) w84_mo_8 := Eq.trans (hF.z hmo (by rw [kmo]; rfl)) hj_mo_8
        have z1307 : q_is (q_z f1302 mo 9) w84_mo_9 := Eq.trans (hF.z hmo (by rw [kmo]; rfl)) hj_mo_9
        have z1308 : q_is (q_z f1302 mo 2) w84_mo_2 := Eq.trans (hF.z hmo (by rw [kmo]; rfl)) hj_mo_2
        have z1309 : q_is (q_z f1302 mo 3) tn := Eq.trans (hF.z hmo (by rw [kmo]; rfl)) hj_mo_3
        have z1310 : q_is (q_z f1302 mo 5) w84_mo_5 := Eq.trans (hF.z hmo (by rw [kmo]; rfl)) hj_mo_5
        have z1311 : q_is (q_z f1302 as 2) w84_as_2 := Eq.trans (hF.z has (by rw [kas]; rfl)) hj_as_2
        have z1312 : q_is (q_z f1302 sr 3) w84_sr_3 := Eq.trans (hF.z hsr (by rw [ksr]; rfl)) hj_sr_3
        have z1313 : q_is (q_z f1302 sr 4) w84_sr_4 := Eq.trans (hF.z hsr (by rw [ksr]; rfl)) hj_sr_4
        have z1314 : q_is (q_z f1302 mo 0) w84_mo_0 := Eq.trans (hF.z hmo (by rw [kmo]; rfl)) hj_mo_0
        have z1315 : q_is (q_z f1302 mo 10) w84_mo_10 := Eq.trans (hF.z hmo (by rw [kmo]; rfl)) hj_mo_10
        have z1316 : q_is (q_z f1302 mo 11) w84_mo_11 := Eq.trans (hF.z hmo (by rw [kmo]; rfl)) hj_mo_11
        have z1317 : q_is (q_z f1302 sr 0) x1265 := Eq.trans (hF.z hsr (by rw [ksr]; rfl)) ex1265
        have z1318 : q_is (q_z f1302 sr 2) x1299 := Eq.trans (hF.z hsr (by rw [ksr]; rfl)) ex1299
        have z1319 : q_ir (q_r f1302 mo 13) sr := Eq.trans (hF.r hmo (by rw [kmo]; rfl)) hq_mo_13
        have z1320 : q_ir (q_r f1302 mo 15) as := Eq.trans (hF.r hmo (by rw [kmo]; rfl)) hq_mo_15
        have z1321 : q_ir (q_r f1302 mo 18) nm := Eq.trans (hF.r hmo (by rw [kmo]; rfl)) hq_mo_18
        have z1322 : q_ir (q_r f1302 mo 20) anm := Eq.trans (hF.r hmo (by rw [kmo]; rfl)) hq_mo_20
        have z1323 : q_ir (q_r f1302 mo 1) bu := Eq.trans (hF.r hmo (by rw [kmo]; rfl)) hq_mo_1
        have z1324 : q_ir (q_r f1302 mo 17) pa := Eq.trans (hF.r hmo (by rw [kmo]; rfl)) hq_mo_17
        have g1325 : q_pk f1302 mo pa := q_pk_tr hpk84 (hF.z hmo (by rw [kmo]; rfl)) (fun i9 => hF.z hpa (by rw [kpa]; rfl))
        have g1326 : tk_ub f1302 bu B tn := tk_ub_tr hub84 (fun i9 => hF.z hbu (by rw [kbu]; rfl))
        have g1327 : tk_tr f1302 mo B tn := tk_tr_tr htr84 (hF.z hmo (by rw [kmo]; rfl)) (hF.z hmo (by rw [kmo]; rfl)) (hF.z hmo (by rw [kmo]; rfl)) (hF.z hmo (by rw [kmo]; rfl)) (hF.j hmo (by rw [kmo]; rfl))
        have g1328 : tk_tm f1302 mo sr nm A7 := tk_tm_tr htm7 (hF.z hmo (by rw [kmo]; rfl)) (fun i9 h9 k9 => hF.z hsr (by rw [ksr]; exact q_inWr rfl h9 k9)) (fun i9 h9 k9 => hF.z hsr (by rw [ksr]; exact q_inWr rfl h9 k9)) (fun i9 => hF.j hnm (by rw [knm]; rfl))
        refine q_ald_n cx dX12_readText_113 rfl (lv_at hl 0 rfl) ?_
        refine q_ild_n cx dX12_readText_114 rfl (lv_at hl 1 rfl) ?_
        refine q_iconst cx dX12_readText_115 ?_
        refine q_ald_n cx dX12_readText_116 rfl (lv_at hl 0 rfl) ?_
        refine q_ild_n cx dX12_readText_117 rfl (lv_at hl 1 rfl) ?_
        refine q_iconst cx dX12_readText_118 ?_
        refine q_cVi (As := [.int (q_i v84_1), .int (q_i 1)]) (rest := [.int (q_i 1), .int (q_i v84_1), .ref mo]) cx hB (fun _ h => h) hN hmo kmo (by decide) rfl (r_ofNode1 l g hN hB.2.1 mo hmo kmo v84_1 (by omega) (by omega) 1 (by decide) (by decide) sr hsr ksr z1319 g1305) q_cX12_256 q_dX12_ofNode (by decide) rfl rfl hl.1 rfl (Nat.le_of_ble_eq_true rfl) dX12_readText_119 (fun y1330 H locs f1329 ry1330 h1331 hF hB => ?_)
        obtain ⟨rfl, ly1330, uy1330⟩ := h1331
        refine q_ald_n cx dX12_readText_122 rfl (lv_at hl 0 rfl) ?_
        refine q_gX12_20 cx hB hmo kmo z1319 dX12_readText_123 (fun hb1332 kb1332 => ?_)
        refine q_iconst cx dX12_readText_126 ?_
        refine q_iald (lo := (-2147483648)) (hi := 2147483647) (n := 658) cx hB hsr ksr (by decide) rfl rfl (by decide) (by decide) (by decide) rfl z1318 dX12_readText_127 (fun lb1334 ub1334 => ?_)
        refine q_irem cx ⟨by omega, by omega⟩ ⟨by omega, by omega⟩ (by omega) dX12_readText_128 (fun y1335 ey1335 ay1335 by1335 ny1335 => ?_)
        refine q_cVv (As := [.int (q_i v84_1), .int (q_i 1), .int (q_i y1335)]) (rest := []) cx hB (fun _ h => h) hN hmo kmo (by decide) rfl (r_setsNode1 l g hN hB.2.1 mo hmo kmo v84_1 (by omega) (by omega) 1 (by decide) (by decide) y1335 (by omega) (by omega) sr hsr ksr z1319 g1305) q_cX12_202 q_dX12_setsNode (by decide) rfl rfl hl.1 rfl (Nat.le_of_ble_eq_true rfl) dX12_readText_129 (fun H locs f1336 h1338 hF hB => ?_)
        have g1339 := h1338
        have z1340 : q_is (q_z f1336 mo 8) w84_mo_8 := Eq.trans (hF.z hmo (by rw [kmo]; rfl)) z1306
        have z1341 : q_is (q_z f1336 mo 9) w84_mo_9 := Eq.trans (hF.z hmo (by rw [kmo]; rfl)) z1307
        have z1342 : q_is (q_z f1336 mo 2) w84_mo_2 := Eq.trans (hF.z hmo (by rw [kmo]; rfl)) z1308
        have z1343 : q_is (q_z f1336 mo 3) tn := Eq.trans (hF.z hmo (by rw [kmo]; rfl)) z1309
        have z1344 : q_is (q_z f1336 mo 5) w84_mo_5 := Eq.trans (hF.z hmo (by rw [kmo]; rfl)) z1310
        have z1345 : q_is (q_z f1336 as 2) w84_as_2 := Eq.trans (hF.z has (by rw [kas]; rfl)) z1311
        have z1346 : q_is (q_z f1336 sr 3) w84_sr_3 := Eq.trans (hF.z hsr (by rw [ksr]; rfl)) z1312
        have z1347 : q_is (q_z f1336 sr 4) w84_sr_4 := Eq.trans (hF.z hsr (by rw [ksr]; rfl)) z1313
        have z1348 : q_is (q_z f1336 mo 0) w84_mo_0 := Eq.trans (hF.z hmo (by rw [kmo]; rfl)) z1314
        have z1349 : q_is (q_z f1336 mo 10) w84_mo_10 := Eq.trans (hF.z hmo (by rw [kmo]; rfl)) z1315
        have z1350 : q_is (q_z f1336 mo 11) w84_mo_11 := Eq.trans (hF.z hmo (by rw [kmo]; rfl)) z1316
        have z1351 : q_is (q_z f1336 sr 0) x1265 := Eq.trans (hF.z hsr (by rw [ksr]; rfl)) z1317
        have z1352 : q_is (q_z f1336 sr 2) x1299 := Eq.trans (hF.z hsr (by rw [ksr]; rfl)) z1318
        have z1353 : q_ir (q_r f1336 mo 13) sr := Eq.trans (hF.r hmo (by rw [kmo]; rfl)) z1319
        have z1354 : q_ir (q_r f1336 mo 15) as := Eq.trans (hF.r hmo (by rw [kmo]; rfl)) z1320
        have z1355 : q_ir (q_r f1336 mo 18) nm := Eq.trans (hF.r hmo (by rw [kmo]; rfl)) z1321
        have z1356 : q_ir (q_r f1336 mo 20) anm := Eq.trans (hF.r hmo (by rw [kmo]; rfl)) z1322
        have z1357 : q_ir (q_r f1336 mo 1) bu := Eq.trans (hF.r hmo (by rw [kmo]; rfl)) z1323
        have z1358 : q_ir (q_r f1336 mo 17) pa := Eq.trans (hF.r hmo (by rw [kmo]; rfl)) z1324
        have g1359 : q_pk f1336 mo pa := q_pk_tr g1325 (hF.z hmo (by rw [kmo]; rfl)) (fun i9 => hF.z hpa (by rw [kpa]; rfl))
        have g1360 : tk_ub f1336 bu B tn := tk_ub_tr g1326 (fun i9 => hF.z hbu (by rw [kbu]; rfl))
        have g1361 : tk_tr f1336 mo B tn := tk_tr_tr g1327 (hF.z hmo (by rw [kmo]; rfl)) (hF.z hmo (by rw [kmo]; rfl)) (hF.z hmo (by rw [kmo]; rfl)) (hF.z hmo (by rw [kmo]; rfl)) (hF.j hmo (by rw [kmo]; rfl))
        have g1362 : tk_tm f1336 mo sr nm A7 := tk_tm_tr g1328 (hF.z hmo (by rw [kmo]; rfl)) (fun i9 h9 k9 => hF.z hsr (by rw [ksr]; exact q_inWr rfl h9 k9)) (fun i9 h9 k9 => hF.z hsr (by rw [ksr]; exact q_inWr rfl h9 k9)) (fun i9 => hF.j hnm (by rw [knm]; rfl))
        refine q_iinc (lv' := [(1, .int (q_i (v84_1 + 1))), (0, .ref mo)]) cx dX12_readText_132 hl (k := 1) rfl (by decide) rfl (fun ls hl => ?_)
        refine lv_goto (tgt := 84) cx.1 cx.2.1 dX12_readText_135 (by decide) ?_
        exact ih84 f1336 (v84_1 + 1) (by omega) (by omega) w84_mo_8 (by omega) (by omega) w84_mo_9 (by omega) (by omega) w84_mo_2 (by omega) (by omega) w84_mo_5 (by omega) (by omega) w84_as_2 (by omega) (by omega) w84_sr_3 (by omega) (by omega) w84_sr_4 (by omega) (by omega) w84_mo_0 (by omega) (by omega) w84_mo_10 (by omega) (by omega) w84_mo_11 (by omega) (by omega) z1340 z1341 z1342 z1343 z1344 z1345 z1346 z1347 z1348 z1349 z1350 z1353 z1354 z1355 z1356 z1357 z1358 g1339 g1359 g1361 g1360 ⟨A7, hT7, g1362⟩ (by omega) H locs hB ls (lv_sub hl [1, 0] rfl)
  have J28 : ∀ (n : Nat) (f28 : Nat → va_E) (w28_mo_8 : Int) (lw28_mo_8 : 0 ≤ w28_mo_8) (uw28_mo_8 : w28_mo_8 ≤ 0) (w28_mo_9 : Int) (lw28_mo_9 : (-1) ≤ w28_mo_9) (uw28_mo_9 : w28_mo_9 ≤ (-1)) (w28_mo_2 : Int) (lw28_mo_2 : 0 ≤ w28_mo_2) (uw28_mo_2 : w28_mo_2 ≤ 0) (w28_mo_5 : Int) (lw28_mo_5 : 0 ≤ w28_mo_5) (uw28_mo_5 : w28_mo_5 ≤ 600) (w28_as_2 : Int) (lw28_as_2 : 4 ≤ w28_as_2) (uw28_as_2 : w28_as_2 ≤ 60) (w28_sr_3 : Int) (lw28_sr_3 : 0 ≤ w28_sr_3) (uw28_sr_3 : w28_sr_3 ≤ 9999) (w28_sr_4 : Int) (lw28_sr_4 : 0 ≤ w28_sr_4) (uw28_sr_4 : w28_sr_4 ≤ 60) (hj_mo_8 : q_is (q_z f28 mo 8) w28_mo_8) (hj_mo_9 : q_is (q_z f28 mo 9) w28_mo_9) (hj_mo_2 : q_is (q_z f28 mo 2) w28_mo_2) (hj_mo_3 : q_is (q_z f28 mo 3) tn) (hj_mo_5 : q_is (q_z f28 mo 5) w28_mo_5) (hj_as_2 : q_is (q_z f28 as 2) w28_as_2) (hj_sr_3 : q_is (q_z f28 sr 3) w28_sr_3) (hj_sr_4 : q_is (q_z f28 sr 4) w28_sr_4) (hq_mo_13 : q_ir (q_r f28 mo 13) sr) (hq_mo_15 : q_ir (q_r f28 mo 15) as) (hq_mo_18 : q_ir (q_r f28 mo 18) nm) (hq_mo_20 : q_ir (q_r f28 mo 20) anm) (hq_mo_1 : q_ir (q_r f28 mo 1) bu) (hq_mo_17 : q_ir (q_r f28 mo 17) pa) (hgr28 : q_gr f28 sr) (hpk28 : q_pk f28 mo pa) (htr28 : tk_tr f28 mo B tn) (hub28 : tk_ub f28 bu B tn) (hrl28_0 : 0 ≤ 1 * tn + -1 * w28_mo_5 + 0) (hal : ∃ A1 : tk_A, tk_T B tn (tk_S B tn 0) tk_A0 = tk_T B tn w28_mo_5 A1 ∧ tk_tm f28 mo sr nm A1) (hmu : (Int.toNat (601 - w28_mo_5)) < n) (H : Heap) (locs : List Loc) (hB : q_B g K L (fun q => q ∈ L) [(12, 0, 0), (12, 2, 12), (12, 21, 21), (12, 23, 23), (151, 0, 657), (153, 0, 657), (156, 0, 9), (158, 0, 9)] f f28 s H locs) (ls : Array Slot) (hl : lv_has ls 2 [(0, .ref mo)]), W p l e { frames := 6, cells := 0, slots := 0, locals := 136 } s m ([.ref mo] : List Value).toArray below meth c H locs 0 0 (MQ below (q_Q g K L [(12, 0, 0), (12, 2, 12), (12, 21, 21), (12, 23, 23), (151, 0, 657), (153, 0, 657), (156, 0, 9), (158, 0, 9)] f (q_Pi (fun (z : Int) (f1 : Nat → va_E) => (0 ≤ z ∧ z ≤ 10 ∧ 0 ≤ q_z f1 sr 3 ∧ q_z f1 sr 3 ≤ 9999 ∧ 0 ≤ q_z f1 sr 4 ∧ q_z f1 sr 4 ≤ 60 ∧ q_is (q_z f1 mo 2) 0 ∧ q_is (q_z f1 mo 0) 0 ∧ q_is (q_z f1 mo 10) 0 ∧ q_is (q_z f1 mo 11) (-1) ∧ (∃ A1 : tk_A, tk_T B tn (tk_S B tn 0) tk_A0 = tk_ok A1 ∧ z = ((tk_nd A1).length : Int)) ∧ q_gr f1 sr ∧ (q_pk f1 mo pa)) ∨ (z = 0 ∧ 0 ≤ q_z f1 sr 3 ∧ q_z f1 sr 3 ≤ 9999 ∧ 0 ≤ q_z f1 sr 4 ∧ q_z f1 sr 4 ≤ 60 ∧ q_is (q_z f1 mo 2) 0 ∧ q_is (q_z f1 mo 0) 1 ∧ (tk_T B tn (tk_S B tn 0) tk_A0 = tk_er (q_z f1 mo 10) (q_z f1 mo 11)) ∧ q_gr f1 sr ∧ (q_pk f1 mo pa))))) ([.ref mo] : List Value).toArray s 0 0 (fun q => q ∈ L)) (F0 m 28 ls []) := by
    intro n
    induction n with
    | zero =>
      intro f28 w28_mo_8 lw28_mo_8 uw28_mo_8 w28_mo_9 lw28_mo_9 uw28_mo_9 w28_mo_2 lw28_mo_2 uw28_mo_2 w28_mo_5 lw28_mo_5 uw28_mo_5 w28_as_2 lw28_as_2 uw28_as_2 w28_sr_3 lw28_sr_3 uw28_sr_3 w28_sr_4 lw28_sr_4 uw28_sr_4 hj_mo_8 hj_mo_9 hj_mo_2 hj_mo_3 hj_mo_5 hj_as_2 hj_sr_3 hj_sr_4 hq_mo_13 hq_mo_15 hq_mo_18 hq_mo_20 hq_mo_1 hq_mo_17 hgr28 hpk28 htr28 hub28 hrl28_0 hal hmu
      exact absurd hmu (Nat.not_lt_zero _)
    | succ n ih28 =>
      intro f28 w28_mo_8 lw28_mo_8 uw28_mo_8 w28_mo_9 lw28_mo_9 uw28_mo_9 w28_mo_2 lw28_mo_2 uw28_mo_2 w28_mo_5 lw28_mo_5 uw28_mo_5 w28_as_2 lw28_as_2 uw28_as_2 w28_sr_3 lw28_sr_3 uw28_sr_3 w28_sr_4 lw28_sr_4 uw28_sr_4 hj_mo_8 hj_mo_9 hj_mo_2 hj_mo_3 hj_mo_5 hj_as_2 hj_sr_3 hj_sr_4 hq_mo_13 hq_mo_15 hq_mo_18 hq_mo_20 hq_mo_1 hq_mo_17 hgr28 hpk28 htr28 hub28 hrl28_0 hal hmu H locs hB ls hl
      refine q_ald_n cx dX12_readText_28 rfl (lv_at hl 0 rfl) ?_
      obtain ⟨A9, hA9, htm9⟩ := hal
      refine q_cVi (As := []) (rest := []) cx hB (fun _ h => h) hN hmo kmo (by decide) rfl (f_misGood l g hN hB.2.1 mo hmo kmo (Eq.trans hj_mo_8 (by omega))) q_cX12_130 q_dX12_isGood (by decide) rfl rfl hl.1 rfl (Nat.le_of_ble_eq_true rfl) dX12_readText_29 (fun y1364 H locs f1363 ry1364 h1365 hF hB => ?_)
      obtain ⟨rfl, qy1364⟩ := h1365
      subst qy1364
      refine q_ifeq (tgt := 49) cx ⟨by decide, by decide⟩ dX12_readText_32 (by decide) (fun c1366 => ?_) (fun c1366 => ?_)
      · exact absurd c1366 (by omega)
      · refine q_ald_n cx dX12_readText_35 rfl (lv_at hl 0 rfl) ?_
        obtain ⟨x1367, ex1367⟩ : ∃ zz, q_is (q_z f28 mo 6) zz := ⟨_, q_isr _⟩
        refine q_gX12_117 cx hB hmo kmo ex1367 dX12_readText_36 (fun lb1368 ub1368 => ?_)
        refine q_ifeq (tgt := 49) cx ⟨by omega, by omega⟩ dX12_readText_39 (by decide) (fun c1369 => ?_) (fun c1369 => ?_)
        · refine q_ald_n cx dX12_readText_49 rfl (lv_at hl 0 rfl) ?_
          refine q_cVi (As := []) (rest := []) cx hB (fun _ h => h) hN hmo kmo (by decide) rfl (f_mendsText0 l g hN hB.2.1 mo hmo kmo (Eq.trans hj_mo_8 (by omega)) (Eq.trans hj_mo_9 (by omega))) q_cX12_253 q_dX12_endsText (by decide) rfl rfl hl.1 rfl (Nat.le_of_ble_eq_true rfl) dX12_readText_50 (fun y1371 H locs f1370 ry1371 h1372 hF hB => ?_)
          obtain ⟨qy1371, z1373, z1374, z1375⟩ := h1372
          have z1376 : q_is (q_z f1370 mo 8) w28_mo_8 := Eq.trans (hF.z hmo (by rw [kmo]; rfl)) hj_mo_8
          have z1377 : q_is (q_z f1370 mo 9) w28_mo_9 := Eq.trans (hF.z hmo (by rw [kmo]; rfl)) hj_mo_9
          have z1378 : q_is (q_z f1370 mo 2) w28_mo_2 := Eq.trans (hF.z hmo (by rw [kmo]; rfl)) hj_mo_2
          have z1379 : q_is (q_z f1370 mo 3) tn := Eq.trans (hF.z hmo (by rw [kmo]; rfl)) hj_mo_3
          have z1380 : q_is (q_z f1370 mo 5) w28_mo_5 := Eq.trans (hF.z hmo (by rw [kmo]; rfl)) hj_mo_5
          have z1381 : q_is (q_z f1370 as 2) w28_as_2 := Eq.trans (hF.z has (by rw [kas]; rfl)) hj_as_2
          have z1382 : q_is (q_z f1370 sr 3) w28_sr_3 := Eq.trans (hF.z hsr (by rw [ksr]; rfl)) hj_sr_3
          have z1383 : q_is (q_z f1370 sr 4) w28_sr_4 := Eq.trans (hF.z hsr (by rw [ksr]; rfl)) hj_sr_4
          have z1384 : q_is (q_z f1370 mo 6) x1367 := Eq.trans (hF.z hmo (by rw [kmo]; rfl)) ex1367
          have z1385 : q_ir (q_r f1370 mo 13) sr := Eq.trans (hF.r hmo (by rw [kmo]; rfl)) hq_mo_13
          have z1386 : q_ir (q_r f1370 mo 15) as := Eq.trans (hF.r hmo (by rw [kmo]; rfl)) hq_mo_15
          have z1387 : q_ir (q_r f1370 mo 18) nm := Eq.trans (hF.r hmo (by rw [kmo]; rfl)) hq_mo_18
          have z1388 : q_ir (q_r f1370 mo 20) anm := Eq.trans (hF.r hmo (by rw [kmo]; rfl)) hq_mo_20
          have z1389 : q_ir (q_r f1370 mo 1) bu := Eq.trans (hF.r hmo (by rw [kmo]; rfl)) hq_mo_1
          have z1390 : q_ir (q_r f1370 mo 17) pa := Eq.trans (hF.r hmo (by rw [kmo]; rfl)) hq_mo_17
          have g1391 : q_gr f1370 sr := q_gr_fr hgr28 (fun i9 _ => hF.z hsr (by rw [ksr]; rfl))
          have g1392 : q_pk f1370 mo pa := q_pk_tr hpk28 (hF.z hmo (by rw [kmo]; rfl)) (fun i9 => hF.z hpa (by rw [kpa]; rfl))
          have g1393 : tk_ub f1370 bu B tn := tk_ub_tr hub28 (fun i9 => hF.z hbu (by rw [kbu]; rfl))
          have g1394 : tk_tr f1370 mo B tn := tk_tr_tr htr28 (hF.z hmo (by rw [kmo]; rfl)) (hF.z hmo (by rw [kmo]; rfl)) (hF.z hmo (by rw [kmo]; rfl)) (hF.z hmo (by rw [kmo]; rfl)) (hF.j hmo (by rw [kmo]; rfl))
          have g1395 : tk_tm f1370 mo sr nm A9 := tk_tm_tr htm9 (hF.z hmo (by rw [kmo]; rfl)) (fun i9 h9 k9 => hF.z hsr (by rw [ksr]; exact q_inWr rfl h9 k9)) (fun i9 h9 k9 => hF.z hsr (by rw [ksr]; exact q_inWr rfl h9 k9)) (fun i9 => hF.j hnm (by rw [knm]; rfl))
          subst qy1371
          refine q_ifne (tgt := 82) cx ⟨by decide, by decide⟩ dX12_readText_53 (by decide) (fun c1396 => ?_) (fun c1396 => ?_)
          · have hT9 : tk_T B tn (tk_S B tn 0) tk_A0 = tk_ok A9 := hA9.trans (tk_T_end (tk_so_0 (tk_tr_s htr28 hj_mo_5 ex1367) (by omega)))
            refine q_iconst cx dX12_readText_82 ?_
            refine lv_istore_n (lv' := [(1, .int (q_i 0)), (0, .ref mo)]) cx.1 cx.2.1 dX12_readText_83 rfl hl (by decide) rfl (fun ls hl => ?_)
            exact J84 ((Int.toNat (2147483647 - 0)) + 1) f1370 0 (by decide) (by decide) w28_mo_8 (by omega) (by omega) w28_mo_9 (by omega) (by omega) w28_mo_2 (by omega) (by omega) w28_mo_5 (by omega) (by omega) w28_as_2 (by omega) (by omega) w28_sr_3 (by omega) (by omega) w28_sr_4 (by omega) (by omega) 0 (by decide) (by decide) 0 (by decide) (by decide) (-1) (by decide) (by decide) z1376 z1377 z1378 z1379 z1380 z1381 z1382 z1383 z1373 z1374 z1375 z1385 z1386 z1387 z1388 z1389 z1390 g1391 g1392 g1394 g1393 ⟨A9, hT9, g1395⟩ (Nat.lt_succ_self _) H locs hB ls (lv_sub hl [1, 0] rfl)
          · exact absurd c1396 (by omega)
        · refine q_ald_n cx dX12_readText_42 rfl (lv_at hl 0 rfl) ?_
          refine q_cVv (As := []) (rest := []) cx hB (fun _ h => h) hN hmo kmo (by decide) rfl (f_mstatement l g hN hB.2.1 B A9 mo hmo kmo sr hsr ksr nm hnm knm bu hbu kbu tn (by omega) (by omega) w28_mo_5 (by omega) (by omega) hj_mo_3 hj_mo_5 (Eq.trans hj_mo_8 (by omega)) (Eq.trans hj_mo_9 (by omega)) hq_mo_13 hq_mo_18 hq_mo_1 hgr28 htr28 hub28 htm9) q_cX12_250 q_dX12_statement (by decide) rfl rfl hl.1 rfl (Nat.le_of_ble_eq_true rfl) dX12_readText_43 (fun H locs f1397 h1399 hF hB => ?_)
          rcases h1399 with h1400 | h1401
          · obtain ⟨z1402, z1403, t1404, g1405, g1406⟩ := h1400
            have z1407 : q_is (q_z f1397 mo 2) w28_mo_2 := Eq.trans (hF.z hmo (by rw [kmo]; rfl)) hj_mo_2
            have z1408 : q_is (q_z f1397 mo 3) tn := Eq.trans (hF.z hmo (by rw [kmo]; rfl)) hj_mo_3
            have z1409 : q_is (q_z f1397 as 2) w28_as_2 := Eq.trans (hF.z has (by rw [kas]; rfl)) hj_as_2
            have z1410 : q_is (q_z f1397 sr 3) w28_sr_3 := Eq.trans (hF.z hsr (by rw [ksr]; rfl)) hj_sr_3
            have z1411 : q_is (q_z f1397 sr 4) w28_sr_4 := Eq.trans (hF.z hsr (by rw [ksr]; rfl)) hj_sr_4
            have z1412 : q_ir (q_r f1397 mo 13) sr := Eq.trans (hF.r hmo (by rw [kmo]; rfl)) hq_mo_13
            have z1413 : q_ir (q_r f1397 mo 15) as := Eq.trans (hF.r hmo (by rw [kmo]; rfl)) hq_mo_15
            have z1414 : q_ir (q_r f1397 mo 18) nm := Eq.trans (hF.r hmo (by rw [kmo]; rfl)) hq_mo_18
            have z1415 : q_ir (q_r f1397 mo 20) anm := Eq.trans (hF.r hmo (by rw [kmo]; rfl)) hq_mo_20
            have z1416 : q_ir (q_r f1397 mo 1) bu := Eq.trans (hF.r hmo (by rw [kmo]; rfl)) hq_mo_1
            have z1417 : q_ir (q_r f1397 mo 17) pa := Eq.trans (hF.r hmo (by rw [kmo]; rfl)) hq_mo_17
            have g1418 : q_pk f1397 mo pa := q_pk_tr hpk28 (hF.z hmo (by rw [kmo]; rfl)) (fun i9 => hF.z hpa (by rw [kpa]; rfl))
            have g1419 : tk_ub f1397 bu B tn := tk_ub_tr hub28 (fun i9 => hF.z hbu (by rw [kbu]; rfl))
            obtain ⟨x1420, ex1420⟩ : ∃ zz, q_is (q_z f1397 mo 5) zz := ⟨_, q_isr _⟩
            obtain ⟨lx1420, ux1420⟩ := q_isb ex1420 (q_fib hB.2.1 hmo kmo (by decide) rfl)
            obtain ⟨-, l0x1420, u0x1420, -, -⟩ := tk_tr_n g1406 ex1420
            obtain ⟨A8, hA8, htm8⟩ := t1404
            have hlt9 := tk_stm_in (tk_okq hA8 ex1420) (by omega) (by omega)
            have hlt8 : w28_mo_5 < x1420 := hlt9.1
            refine lv_goto (tgt := 28) cx.1 cx.2.1 dX12_readText_46 (by decide) ?_
            exact ih28 f1397 0 (by decide) (by decide) (-1) (by decide) (by decide) w28_mo_2 (by omega) (by omega) x1420 (by omega) (by omega) w28_as_2 (by omega) (by omega) w28_sr_3 (by omega) (by omega) w28_sr_4 (by omega) (by omega) z1402 z1403 z1407 z1408 ex1420 z1409 z1410 z1411 z1412 z1413 z1414 z1415 z1416 z1417 g1405 g1418 g1406 g1419 (by omega) ⟨A8, hA9.trans (tk_T_ok (by omega) (by omega) (tk_so_0n (tk_tr_s htr28 hj_mo_5 ex1367) (by omega)) (tk_okq hA8 ex1420)), htm8⟩ (by omega) H locs hB ls (lv_sub hl [0] rfl)
          · obtain ⟨lz1421, uz1421, t1422, g1423⟩ := h1401
            have z1424 : q_is (q_z f1397 mo 2) w28_mo_2 := Eq.trans (hF.z hmo (by rw [kmo]; rfl)) hj_mo_2
            have z1425 : q_is (q_z f1397 mo 3) tn := Eq.trans (hF.z hmo (by rw [kmo]; rfl)) hj_mo_3
            have z1426 : q_is (q_z f1397 as 2) w28_as_2 := Eq.trans (hF.z has (by rw [kas]; rfl)) hj_as_2
            have z1427 : q_is (q_z f1397 sr 3) w28_sr_3 := Eq.trans (hF.z hsr (by rw [ksr]; rfl)) hj_sr_3
            have z1428 : q_is (q_z f1397 sr 4) w28_sr_4 := Eq.trans (hF.z hsr (by rw [ksr]; rfl)) hj_sr_4
            have z1429 : q_ir (q_r f1397 mo 13) sr := Eq.trans (hF.r hmo (by rw [kmo]; rfl)) hq_mo_13
            have z1430 : q_ir (q_r f1397 mo 15) as := Eq.trans (hF.r hmo (by rw [kmo]; rfl)) hq_mo_15
            have z1431 : q_ir (q_r f1397 mo 18) nm := Eq.trans (hF.r hmo (by rw [kmo]; rfl)) hq_mo_18
            have z1432 : q_ir (q_r f1397 mo 20) anm := Eq.trans (hF.r hmo (by rw [kmo]; rfl)) hq_mo_20
            have z1433 : q_ir (q_r f1397 mo 1) bu := Eq.trans (hF.r hmo (by rw [kmo]; rfl)) hq_mo_1
            have z1434 : q_ir (q_r f1397 mo 17) pa := Eq.trans (hF.r hmo (by rw [kmo]; rfl)) hq_mo_17
            have g1435 : q_pk f1397 mo pa := q_pk_tr hpk28 (hF.z hmo (by rw [kmo]; rfl)) (fun i9 => hF.z hpa (by rw [kpa]; rfl))
            have g1436 : tk_ub f1397 bu B tn := tk_ub_tr hub28 (fun i9 => hF.z hbu (by rw [kbu]; rfl))
            obtain ⟨x1437, ex1437⟩ : ∃ zz, q_is (q_z f1397 mo 8) zz := ⟨_, q_isr _⟩
            obtain ⟨lx1437, ux1437⟩ := q_isb ex1437 ⟨lz1421, uz1421⟩
            obtain ⟨x1438, ex1438⟩ : ∃ zz, q_is (q_z f1397 mo 5) zz := ⟨_, q_isr _⟩
            obtain ⟨lx1438, ux1438⟩ := q_isb ex1438 (q_fib hB.2.1 hmo kmo (by decide) rfl)
            obtain ⟨x1439, ex1439⟩ : ∃ zz, q_is (q_z f1397 mo 9) zz := ⟨_, q_isr _⟩
            obtain ⟨lx1439, ux1439⟩ := q_isb ex1439 (q_fib hB.2.1 hmo kmo (by decide) rfl)
            obtain ⟨-, l0x1438, u0x1438, -, -⟩ := tk_tr_n g1423 ex1438
            refine lv_goto (tgt := 28) cx.1 cx.2.1 dX12_readText_46 (by decide) ?_
            refine q_ald_n cx dX12_readText_28 rfl (lv_at hl 0 rfl) ?_
            refine q_cVi (As := []) (rest := []) cx hB (fun _ h => h) hN hmo kmo (by decide) rfl (r_isGood1 l g hN hB.2.1 mo hmo kmo x1437 (by omega) (by omega) ex1437) q_cX12_130 q_dX12_isGood (by decide) rfl rfl hl.1 rfl (Nat.le_of_ble_eq_true rfl) dX12_readText_29 (fun y1441 H locs f1440 ry1441 h1442 hF hB => ?_)
            obtain ⟨rfl, qy1441⟩ := h1442
            subst qy1441
            refine q_ifeq (tgt := 49) cx ⟨by decide, by decide⟩ dX12_readText_32 (by decide) (fun c1443 => ?_) (fun c1443 => ?_)
            · refine q_ald_n cx dX12_readText_49 rfl (lv_at hl 0 rfl) ?_
              refine q_cVi (As := []) (rest := []) cx hB (fun _ h => h) hN hmo kmo (by decide) rfl (f_mendsText1 l g hN hB.2.1 mo hmo kmo x1437 (by omega) (by omega) x1439 (by omega) (by omega) ex1437 ex1439) q_cX12_253 q_dX12_endsText (by decide) rfl rfl hl.1 rfl (Nat.le_of_ble_eq_true rfl) dX12_readText_50 (fun y1445 H locs f1444 ry1445 h1446 hF hB => ?_)
              obtain ⟨qy1445, z1447, z1448, z1449⟩ := h1446
              have z1450 : q_is (q_z f1444 mo 2) w28_mo_2 := Eq.trans (hF.z hmo (by rw [kmo]; rfl)) z1424
              have z1451 : q_is (q_z f1444 mo 3) tn := Eq.trans (hF.z hmo (by rw [kmo]; rfl)) z1425
              have z1452 : q_is (q_z f1444 as 2) w28_as_2 := Eq.trans (hF.z has (by rw [kas]; rfl)) z1426
              have z1453 : q_is (q_z f1444 sr 3) w28_sr_3 := Eq.trans (hF.z hsr (by rw [ksr]; rfl)) z1427
              have z1454 : q_is (q_z f1444 sr 4) w28_sr_4 := Eq.trans (hF.z hsr (by rw [ksr]; rfl)) z1428
              have z1455 : q_is (q_z f1444 mo 8) x1437 := Eq.trans (hF.z hmo (by rw [kmo]; rfl)) ex1437
              have z1456 : q_is (q_z f1444 mo 5) x1438 := Eq.trans (hF.z hmo (by rw [kmo]; rfl)) ex1438
              have z1457 : q_is (q_z f1444 mo 9) x1439 := Eq.trans (hF.z hmo (by rw [kmo]; rfl)) ex1439
              have z1458 : q_ir (q_r f1444 mo 13) sr := Eq.trans (hF.r hmo (by rw [kmo]; rfl)) z1429
              have z1459 : q_ir (q_r f1444 mo 15) as := Eq.trans (hF.r hmo (by rw [kmo]; rfl)) z1430
              have z1460 : q_ir (q_r f1444 mo 18) nm := Eq.trans (hF.r hmo (by rw [kmo]; rfl)) z1431
              have z1461 : q_ir (q_r f1444 mo 20) anm := Eq.trans (hF.r hmo (by rw [kmo]; rfl)) z1432
              have z1462 : q_ir (q_r f1444 mo 1) bu := Eq.trans (hF.r hmo (by rw [kmo]; rfl)) z1433
              have z1463 : q_ir (q_r f1444 mo 17) pa := Eq.trans (hF.r hmo (by rw [kmo]; rfl)) z1434
              have g1464 : q_pk f1444 mo pa := q_pk_tr g1435 (hF.z hmo (by rw [kmo]; rfl)) (fun i9 => hF.z hpa (by rw [kpa]; rfl))
              have g1465 : tk_ub f1444 bu B tn := tk_ub_tr g1436 (fun i9 => hF.z hbu (by rw [kbu]; rfl))
              have g1466 : tk_tr f1444 mo B tn := tk_tr_tr g1423 (hF.z hmo (by rw [kmo]; rfl)) (hF.z hmo (by rw [kmo]; rfl)) (hF.z hmo (by rw [kmo]; rfl)) (hF.z hmo (by rw [kmo]; rfl)) (hF.j hmo (by rw [kmo]; rfl))
              subst qy1445
              refine q_ifne (tgt := 82) cx ⟨by decide, by decide⟩ dX12_readText_53 (by decide) (fun c1467 => ?_) (fun c1467 => ?_)
              · exact absurd c1467 (by omega)
              · refine q_ald_n cx dX12_readText_56 rfl (lv_at hl 0 rfl) ?_
                refine q_gX12_26 cx hB hmo kmo z1459 dX12_readText_57 (fun hb1468 kb1468 => ?_)
                refine q_iconst cx dX12_readText_60 ?_
                refine q_ald_n cx dX12_readText_61 rfl (lv_at hl 0 rfl) ?_
                refine q_gX12_20 cx hB hmo kmo z1458 dX12_readText_62 (fun hb1469 kb1469 => ?_)
                refine q_iconst cx dX12_readText_65 ?_
                refine q_cSv (As := [.ref as, .int (q_i 0), .ref sr, .int (q_i 0)]) (rest := []) cx hB (fun _ h => h) hN (r_copiesRow_as_sr l g hN hB.2.1 as has kas 0 (by decide) (by decide) sr hsr ksr 0 (by decide) (by decide) w28_as_2 (by omega) (by omega) z1452) q_cX12_154 q_dX12_copiesRow (by decide) rfl rfl hl.1 rfl (Nat.le_of_ble_eq_true rfl) dX12_readText_66 (fun H locs f1470 h1472 hF hB => ?_)
                obtain ⟨lz1473, uz1473, lz1474, uz1474, t1475, g1476⟩ := h1472
                have z1477 : q_is (q_z f1470 mo 2) w28_mo_2 := Eq.trans (hF.z hmo (by rw [kmo]; rfl)) z1450
                have z1478 : q_is (q_z f1470 mo 3) tn := Eq.trans (hF.z hmo (by rw [kmo]; rfl)) z1451
                have z1479 : q_is (q_z f1470 as 2) w28_as_2 := Eq.trans (hF.z has (by rw [kas]; rfl)) z1452
                have z1480 : q_is (q_z f1470 mo 8) x1437 := Eq.trans (hF.z hmo (by rw [kmo]; rfl)) z1455
                have z1481 : q_is (q_z f1470 mo 5) x1438 := Eq.trans (hF.z hmo (by rw [kmo]; rfl)) z1456
                have z1482 : q_is (q_z f1470 mo 9) x1439 := Eq.trans (hF.z hmo (by rw [kmo]; rfl)) z1457
                have z1483 : q_is (q_z f1470 mo 0) 1 := Eq.trans (hF.z hmo (by rw [kmo]; rfl)) z1447
                have z1484 : q_is (q_z f1470 mo 10) x1437 := Eq.trans (hF.z hmo (by rw [kmo]; rfl)) z1448
                have z1485 : q_is (q_z f1470 mo 11) x1439 := Eq.trans (hF.z hmo (by rw [kmo]; rfl)) z1449
                have z1486 : q_ir (q_r f1470 mo 13) sr := Eq.trans (hF.r hmo (by rw [kmo]; rfl)) z1458
                have z1487 : q_ir (q_r f1470 mo 15) as := Eq.trans (hF.r hmo (by rw [kmo]; rfl)) z1459
                have z1488 : q_ir (q_r f1470 mo 18) nm := Eq.trans (hF.r hmo (by rw [kmo]; rfl)) z1460
                have z1489 : q_ir (q_r f1470 mo 20) anm := Eq.trans (hF.r hmo (by rw [kmo]; rfl)) z1461
                have z1490 : q_ir (q_r f1470 mo 1) bu := Eq.trans (hF.r hmo (by rw [kmo]; rfl)) z1462
                have z1491 : q_ir (q_r f1470 mo 17) pa := Eq.trans (hF.r hmo (by rw [kmo]; rfl)) z1463
                have g1492 : q_pk f1470 mo pa := q_pk_tr g1464 (hF.z hmo (by rw [kmo]; rfl)) (fun i9 => hF.z hpa (by rw [kpa]; rfl))
                have g1493 : tk_ub f1470 bu B tn := tk_ub_tr g1465 (fun i9 => hF.z hbu (by rw [kbu]; rfl))
                have g1494 : tk_tr f1470 mo B tn := tk_tr_tr g1466 (hF.z hmo (by rw [kmo]; rfl)) (hF.z hmo (by rw [kmo]; rfl)) (hF.z hmo (by rw [kmo]; rfl)) (hF.z hmo (by rw [kmo]; rfl)) (hF.j hmo (by rw [kmo]; rfl))
                obtain ⟨x1495, ex1495⟩ : ∃ zz, q_is (q_z f1470 sr 3) zz := ⟨_, q_isr _⟩
                obtain ⟨lx1495, ux1495⟩ := q_isb ex1495 ⟨lz1473, uz1473⟩
                obtain ⟨x1496, ex1496⟩ : ∃ zz, q_is (q_z f1470 sr 4) zz := ⟨_, q_isr _⟩
                obtain ⟨lx1496, ux1496⟩ := q_isb ex1496 ⟨lz1474, uz1474⟩
                refine q_ald_n cx dX12_readText_69 rfl (lv_at hl 0 rfl) ?_
                refine q_gX12_42 cx hB hmo kmo z1489 dX12_readText_70 (fun hb1497 kb1497 => ?_)
                refine q_ald_n cx dX12_readText_73 rfl (lv_at hl 0 rfl) ?_
                refine q_gX12_35 cx hB hmo kmo z1488 dX12_readText_74 (fun hb1498 kb1498 => ?_)
                refine q_cSv (As := [.ref anm, .ref nm]) (rest := []) cx hB (fun _ h => h) hN (r_copiesNames_158_156 l g hN hB.2.1 anm hanm kanm nm hnm knm) q_cX12_164 q_dX12_copiesNames (by decide) rfl rfl hl.1 rfl (Nat.le_of_ble_eq_true rfl) dX12_readText_77 (fun H locs f1499 h1501 hF hB => ?_)
                have z1502 : q_is (q_z f1499 mo 2) w28_mo_2 := Eq.trans (hF.z hmo (by rw [kmo]; rfl)) z1477
                have z1503 : q_is (q_z f1499 mo 3) tn := Eq.trans (hF.z hmo (by rw [kmo]; rfl)) z1478
                have z1504 : q_is (q_z f1499 as 2) w28_as_2 := Eq.trans (hF.z has (by rw [kas]; rfl)) z1479
                have z1505 : q_is (q_z f1499 mo 8) x1437 := Eq.trans (hF.z hmo (by rw [kmo]; rfl)) z1480
                have z1506 : q_is (q_z f1499 mo 5) x1438 := Eq.trans (hF.z hmo (by rw [kmo]; rfl)) z1481
                have z1507 : q_is (q_z f1499 mo 9) x1439 := Eq.trans (hF.z hmo (by rw [kmo]; rfl)) z1482
                have z1508 : q_is (q_z f1499 mo 0) 1 := Eq.trans (hF.z hmo (by rw [kmo]; rfl)) z1483
                have z1509 : q_is (q_z f1499 mo 10) x1437 := Eq.trans (hF.z hmo (by rw [kmo]; rfl)) z1484
                have z1510 : q_is (q_z f1499 mo 11) x1439 := Eq.trans (hF.z hmo (by rw [kmo]; rfl)) z1485
                have z1511 : q_is (q_z f1499 sr 3) x1495 := Eq.trans (hF.z hsr (by rw [ksr]; rfl)) ex1495
                have z1512 : q_is (q_z f1499 sr 4) x1496 := Eq.trans (hF.z hsr (by rw [ksr]; rfl)) ex1496
                have z1513 : q_ir (q_r f1499 mo 13) sr := Eq.trans (hF.r hmo (by rw [kmo]; rfl)) z1486
                have z1514 : q_ir (q_r f1499 mo 15) as := Eq.trans (hF.r hmo (by rw [kmo]; rfl)) z1487
                have z1515 : q_ir (q_r f1499 mo 18) nm := Eq.trans (hF.r hmo (by rw [kmo]; rfl)) z1488
                have z1516 : q_ir (q_r f1499 mo 20) anm := Eq.trans (hF.r hmo (by rw [kmo]; rfl)) z1489
                have z1517 : q_ir (q_r f1499 mo 1) bu := Eq.trans (hF.r hmo (by rw [kmo]; rfl)) z1490
                have z1518 : q_ir (q_r f1499 mo 17) pa := Eq.trans (hF.r hmo (by rw [kmo]; rfl)) z1491
                have g1519 : q_gr f1499 sr := q_gr_fr g1476 (fun i9 _ => hF.z hsr (by rw [ksr]; rfl))
                have g1520 : q_pk f1499 mo pa := q_pk_tr g1492 (hF.z hmo (by rw [kmo]; rfl)) (fun i9 => hF.z hpa (by rw [kpa]; rfl))
                have g1521 : tk_ub f1499 bu B tn := tk_ub_tr g1493 (fun i9 => hF.z hbu (by rw [kbu]; rfl))
                have g1522 : tk_tr f1499 mo B tn := tk_tr_tr g1494 (hF.z hmo (by rw [kmo]; rfl)) (hF.z hmo (by rw [kmo]; rfl)) (hF.z hmo (by rw [kmo]; rfl)) (hF.z hmo (by rw [kmo]; rfl)) (hF.j hmo (by rw [kmo]; rfl))
                refine q_iconst cx dX12_readText_80 ?_
                refine q_iret cx hr hlk hB dX12_readText_81 ⟨by decide, by decide⟩ ?_
                exact (Or.inr ⟨rfl, (q_isl z1511 (by omega)), (q_isu z1511 (by omega)), (q_isl z1512 (by omega)), (q_isu z1512 (by omega)), (Eq.trans z1502 (by omega)), z1508, (tk_erp (hA9.trans (tk_T_er (tk_so_0n (tk_tr_s htr28 hj_mo_5 ex1367) (by omega)) (tk_erx t1422 ex1437 ex1439))) z1509 z1510), g1519, g1520⟩)
            · exact absurd c1443 (by omega)
  obtain ⟨H, hH⟩ : ∃ H : Heap, H = s.heap := ⟨_, rfl⟩
  obtain ⟨locs, hlocs⟩ : ∃ z : List Loc, z = [] := ⟨_, rfl⟩
  rw [← hH, ← hlocs] at hB
  rw [← hH, ← hlocs]
  refine q_ald_n cx dX12_readText_0 rfl (lv_at hl 0 rfl) ?_
  refine q_cVv (As := []) (rest := []) cx hB (fun _ h => h) hN hmo kmo (by decide) rfl (f_mbeginsText l g hN hB.2.1 B mo hmo kmo bu hbu kbu tn (by omega) (by omega) hf2 hr4 hub) q_cX12_244 q_dX12_beginsText (by decide) rfl rfl hl.1 rfl (Nat.le_of_ble_eq_true rfl) dX12_readText_1 (fun H locs f1523 h1525 hF hB => ?_)
  obtain ⟨z1526, z1527, z1528, z1529, t1530, g1531⟩ := h1525
  have z1532 : q_is (q_z f1523 sr 3) xt := Eq.trans (hF.z hsr (by rw [ksr]; rfl)) hf0
  have z1533 : q_is (q_z f1523 sr 4) xm := Eq.trans (hF.z hsr (by rw [ksr]; rfl)) hf1
  have z1534 : q_ir (q_r f1523 mo 13) sr := Eq.trans (hF.r hmo (by rw [kmo]; rfl)) hr0
  have z1535 : q_ir (q_r f1523 mo 15) as := Eq.trans (hF.r hmo (by rw [kmo]; rfl)) hr1
  have z1536 : q_ir (q_r f1523 mo 18) nm := Eq.trans (hF.r hmo (by rw [kmo]; rfl)) hr2
  have z1537 : q_ir (q_r f1523 mo 20) anm := Eq.trans (hF.r hmo (by rw [kmo]; rfl)) hr3
  have z1538 : q_ir (q_r f1523 mo 1) bu := Eq.trans (hF.r hmo (by rw [kmo]; rfl)) hr4
  have z1539 : q_ir (q_r f1523 mo 17) pa := Eq.trans (hF.r hmo (by rw [kmo]; rfl)) hr5
  have g1540 : q_gr f1523 sr := q_gr_fr hgr (fun i9 _ => hF.z hsr (by rw [ksr]; rfl))
  have g1541 : q_pk f1523 mo pa := q_pk_tr hpk (hF.z hmo (by rw [kmo]; rfl)) (fun i9 => hF.z hpa (by rw [kpa]; rfl))
  have g1542 : tk_ub f1523 bu B tn := tk_ub_tr hub (fun i9 => hF.z hbu (by rw [kbu]; rfl))
  obtain ⟨x1543, ex1543⟩ : ∃ zz, q_is (q_z f1523 mo 5) zz := ⟨_, q_isr _⟩
  obtain ⟨lx1543, ux1543⟩ := q_isb ex1543 (q_fib hB.2.1 hmo kmo (by decide) rfl)
  obtain ⟨-, l0x1543, u0x1543, -, -⟩ := tk_tr_n g1531 ex1543
  refine q_ald_n cx dX12_readText_4 rfl (lv_at hl 0 rfl) ?_
  refine q_cVv (As := []) (rest := []) cx hB (fun _ h => h) hN hmo kmo (by decide) rfl (r_laysAside l g hN hB.2.1 mo hmo kmo sr hsr ksr as has kas xt (by omega) (by omega) xm (by omega) (by omega) z1532 z1533 z1534 z1535 g1540) q_cX12_247 q_dX12_laysAside (by decide) rfl rfl hl.1 rfl (Nat.le_of_ble_eq_true rfl) dX12_readText_5 (fun H locs f1544 h1546 hF hB => ?_)
  obtain ⟨lz1547, uz1547⟩ := h1546
  have z1548 : q_is (q_z f1544 sr 3) xt := Eq.trans (hF.z hsr (by rw [ksr]; rfl)) z1532
  have z1549 : q_is (q_z f1544 sr 4) xm := Eq.trans (hF.z hsr (by rw [ksr]; rfl)) z1533
  have z1550 : q_is (q_z f1544 mo 8) 0 := Eq.trans (hF.z hmo (by rw [kmo]; rfl)) z1526
  have z1551 : q_is (q_z f1544 mo 9) (-1) := Eq.trans (hF.z hmo (by rw [kmo]; rfl)) z1527
  have z1552 : q_is (q_z f1544 mo 2) 0 := Eq.trans (hF.z hmo (by rw [kmo]; rfl)) z1528
  have z1553 : q_is (q_z f1544 mo 3) tn := Eq.trans (hF.z hmo (by rw [kmo]; rfl)) z1529
  have z1554 : q_is (q_z f1544 mo 5) x1543 := Eq.trans (hF.z hmo (by rw [kmo]; rfl)) ex1543
  have z1555 : q_ir (q_r f1544 mo 13) sr := Eq.trans (hF.r hmo (by rw [kmo]; rfl)) z1534
  have z1556 : q_ir (q_r f1544 mo 15) as := Eq.trans (hF.r hmo (by rw [kmo]; rfl)) z1535
  have z1557 : q_ir (q_r f1544 mo 18) nm := Eq.trans (hF.r hmo (by rw [kmo]; rfl)) z1536
  have z1558 : q_ir (q_r f1544 mo 20) anm := Eq.trans (hF.r hmo (by rw [kmo]; rfl)) z1537
  have z1559 : q_ir (q_r f1544 mo 1) bu := Eq.trans (hF.r hmo (by rw [kmo]; rfl)) z1538
  have z1560 : q_ir (q_r f1544 mo 17) pa := Eq.trans (hF.r hmo (by rw [kmo]; rfl)) z1539
  have g1561 : q_gr f1544 sr := q_gr_fr g1540 (fun i9 _ => hF.z hsr (by rw [ksr]; rfl))
  have g1562 : q_pk f1544 mo pa := q_pk_tr g1541 (hF.z hmo (by rw [kmo]; rfl)) (fun i9 => hF.z hpa (by rw [kpa]; rfl))
  have g1563 : tk_ub f1544 bu B tn := tk_ub_tr g1542 (fun i9 => hF.z hbu (by rw [kbu]; rfl))
  have g1564 : tk_tr f1544 mo B tn := tk_tr_tr g1531 (hF.z hmo (by rw [kmo]; rfl)) (hF.z hmo (by rw [kmo]; rfl)) (hF.z hmo (by rw [kmo]; rfl)) (hF.z hmo (by rw [kmo]; rfl)) (hF.j hmo (by rw [kmo]; rfl))
  obtain ⟨x1565, ex1565⟩ : ∃ zz, q_is (q_z f1544 as 2) zz := ⟨_, q_isr _⟩
  obtain ⟨lx1565, ux1565⟩ := q_isb ex1565 ⟨lz1547, uz1547⟩
  refine q_ald_n cx dX12_readText_8 rfl (lv_at hl 0 rfl) ?_
  refine q_gX12_35 cx hB hmo kmo z1557 dX12_readText_9 (fun hb1566 kb1566 => ?_)
  refine q_ald_n cx dX12_readText_12 rfl (lv_at hl 0 rfl) ?_
  refine q_gX12_42 cx hB hmo kmo z1558 dX12_readText_13 (fun hb1567 kb1567 => ?_)
  refine q_cSv (As := [.ref nm, .ref anm]) (rest := []) cx hB (fun _ h => h) hN (r_copiesNames_156_158 l g hN hB.2.1 nm hnm knm anm hanm kanm) q_cX12_164 q_dX12_copiesNames (by decide) rfl rfl hl.1 rfl (Nat.le_of_ble_eq_true rfl) dX12_readText_16 (fun H locs f1568 h1570 hF hB => ?_)
  have z1571 : q_is (q_z f1568 sr 3) xt := Eq.trans (hF.z hsr (by rw [ksr]; rfl)) z1548
  have z1572 : q_is (q_z f1568 sr 4) xm := Eq.trans (hF.z hsr (by rw [ksr]; rfl)) z1549
  have z1573 : q_is (q_z f1568 mo 8) 0 := Eq.trans (hF.z hmo (by rw [kmo]; rfl)) z1550
  have z1574 : q_is (q_z f1568 mo 9) (-1) := Eq.trans (hF.z hmo (by rw [kmo]; rfl)) z1551
  have z1575 : q_is (q_z f1568 mo 2) 0 := Eq.trans (hF.z hmo (by rw [kmo]; rfl)) z1552
  have z1576 : q_is (q_z f1568 mo 3) tn := Eq.trans (hF.z hmo (by rw [kmo]; rfl)) z1553
  have z1577 : q_is (q_z f1568 mo 5) x1543 := Eq.trans (hF.z hmo (by rw [kmo]; rfl)) z1554
  have z1578 : q_is (q_z f1568 as 2) x1565 := Eq.trans (hF.z has (by rw [kas]; rfl)) ex1565
  have z1579 : q_ir (q_r f1568 mo 13) sr := Eq.trans (hF.r hmo (by rw [kmo]; rfl)) z1555
  have z1580 : q_ir (q_r f1568 mo 15) as := Eq.trans (hF.r hmo (by rw [kmo]; rfl)) z1556
  have z1581 : q_ir (q_r f1568 mo 18) nm := Eq.trans (hF.r hmo (by rw [kmo]; rfl)) z1557
  have z1582 : q_ir (q_r f1568 mo 20) anm := Eq.trans (hF.r hmo (by rw [kmo]; rfl)) z1558
  have z1583 : q_ir (q_r f1568 mo 1) bu := Eq.trans (hF.r hmo (by rw [kmo]; rfl)) z1559
  have z1584 : q_ir (q_r f1568 mo 17) pa := Eq.trans (hF.r hmo (by rw [kmo]; rfl)) z1560
  have g1585 : q_gr f1568 sr := q_gr_fr g1561 (fun i9 _ => hF.z hsr (by rw [ksr]; rfl))
  have g1586 : q_pk f1568 mo pa := q_pk_tr g1562 (hF.z hmo (by rw [kmo]; rfl)) (fun i9 => hF.z hpa (by rw [kpa]; rfl))
  have g1587 : tk_ub f1568 bu B tn := tk_ub_tr g1563 (fun i9 => hF.z hbu (by rw [kbu]; rfl))
  have g1588 : tk_tr f1568 mo B tn := tk_tr_tr g1564 (hF.z hmo (by rw [kmo]; rfl)) (hF.z hmo (by rw [kmo]; rfl)) (hF.z hmo (by rw [kmo]; rfl)) (hF.z hmo (by rw [kmo]; rfl)) (hF.j hmo (by rw [kmo]; rfl))
  refine q_ald_n cx dX12_readText_19 rfl (lv_at hl 0 rfl) ?_
  refine q_cVv (As := []) (rest := []) cx hB (fun _ h => h) hN hmo kmo (by decide) rfl (f_mclears l g hN hB.2.1 mo hmo kmo sr hsr ksr nm hnm knm z1579 z1581) q_cX12_72 q_dX12_clears (by decide) rfl rfl hl.1 rfl (Nat.le_of_ble_eq_true rfl) dX12_readText_20 (fun H locs f1589 h1591 hF hB => ?_)
  obtain ⟨lz1592, uz1592, lz1593, uz1593, z1594, z1595, g1596⟩ := h1591
  have z1597 : q_is (q_z f1589 mo 8) 0 := Eq.trans (hF.z hmo (by rw [kmo]; rfl)) z1573
  have z1598 : q_is (q_z f1589 mo 9) (-1) := Eq.trans (hF.z hmo (by rw [kmo]; rfl)) z1574
  have z1599 : q_is (q_z f1589 mo 2) 0 := Eq.trans (hF.z hmo (by rw [kmo]; rfl)) z1575
  have z1600 : q_is (q_z f1589 mo 3) tn := Eq.trans (hF.z hmo (by rw [kmo]; rfl)) z1576
  have z1601 : q_is (q_z f1589 mo 5) x1543 := Eq.trans (hF.z hmo (by rw [kmo]; rfl)) z1577
  have z1602 : q_is (q_z f1589 as 2) x1565 := Eq.trans (hF.z has (by rw [kas]; rfl)) z1578
  have z1603 : q_ir (q_r f1589 mo 13) sr := Eq.trans (hF.r hmo (by rw [kmo]; rfl)) z1579
  have z1604 : q_ir (q_r f1589 mo 15) as := Eq.trans (hF.r hmo (by rw [kmo]; rfl)) z1580
  have z1605 : q_ir (q_r f1589 mo 18) nm := Eq.trans (hF.r hmo (by rw [kmo]; rfl)) z1581
  have z1606 : q_ir (q_r f1589 mo 20) anm := Eq.trans (hF.r hmo (by rw [kmo]; rfl)) z1582
  have z1607 : q_ir (q_r f1589 mo 1) bu := Eq.trans (hF.r hmo (by rw [kmo]; rfl)) z1583
  have z1608 : q_ir (q_r f1589 mo 17) pa := Eq.trans (hF.r hmo (by rw [kmo]; rfl)) z1584
  have g1609 : q_pk f1589 mo pa := q_pk_tr g1586 (hF.z hmo (by rw [kmo]; rfl)) (fun i9 => hF.z hpa (by rw [kpa]; rfl))
  have g1610 : tk_ub f1589 bu B tn := tk_ub_tr g1587 (fun i9 => hF.z hbu (by rw [kbu]; rfl))
  have g1611 : tk_tr f1589 mo B tn := tk_tr_tr g1588 (hF.z hmo (by rw [kmo]; rfl)) (hF.z hmo (by rw [kmo]; rfl)) (hF.z hmo (by rw [kmo]; rfl)) (hF.z hmo (by rw [kmo]; rfl)) (hF.j hmo (by rw [kmo]; rfl))
  obtain ⟨x1612, ex1612⟩ : ∃ zz, q_is (q_z f1589 sr 3) zz := ⟨_, q_isr _⟩
  obtain ⟨lx1612, ux1612⟩ := q_isb ex1612 ⟨lz1592, uz1592⟩
  obtain ⟨x1613, ex1613⟩ : ∃ zz, q_is (q_z f1589 sr 4) zz := ⟨_, q_isr _⟩
  obtain ⟨lx1613, ux1613⟩ := q_isb ex1613 ⟨lz1593, uz1593⟩
  refine q_ald_n cx dX12_readText_23 rfl (lv_at hl 0 rfl) ?_
  refine q_iconst cx dX12_readText_24 ?_
  refine q_pX12_182 cx hB hmo kmo ⟨by decide, by decide⟩ (by decide) (by decide) rfl dX12_readText_25 (fun H locs f1614 ef1614 z1615 hB => ?_)
  have z1616 : q_is (q_z f1614 mo 8) 0 := by rw [ef1614, q_setz (Or.inr (by decide))]; exact z1597
  have z1617 : q_is (q_z f1614 mo 9) (-1) := by rw [ef1614, q_setz (Or.inr (by decide))]; exact z1598
  have z1618 : q_is (q_z f1614 mo 2) 0 := by rw [ef1614, q_setz (Or.inr (by decide))]; exact z1599
  have z1619 : q_is (q_z f1614 mo 3) tn := by rw [ef1614, q_setz (Or.inr (by decide))]; exact z1600
  have z1620 : q_is (q_z f1614 mo 5) x1543 := by rw [ef1614, q_setz (Or.inr (by decide))]; exact z1601
  have z1621 : q_is (q_z f1614 as 2) x1565 := by rw [ef1614, q_setz (Or.inr (by decide))]; exact z1602
  have z1622 : q_is (q_z f1614 sr 3) x1612 := by rw [ef1614, q_setz (Or.inr (by decide))]; exact ex1612
  have z1623 : q_is (q_z f1614 sr 4) x1613 := by rw [ef1614, q_setz (Or.inr (by decide))]; exact ex1613
  have z1624 : q_is (q_z f1614 sr 0) 0 := by rw [ef1614, q_setz (Or.inr (by decide))]; exact z1594
  have z1625 : q_is (q_z f1614 sr 1) 0 := by rw [ef1614, q_setz (Or.inr (by decide))]; exact z1595
  have z1626 : q_ir (q_r f1614 mo 13) sr := by rw [ef1614, q_setr (Or.inr (by decide))]; exact z1603
  have z1627 : q_ir (q_r f1614 mo 15) as := by rw [ef1614, q_setr (Or.inr (by decide))]; exact z1604
  have z1628 : q_ir (q_r f1614 mo 18) nm := by rw [ef1614, q_setr (Or.inr (by decide))]; exact z1605
  have z1629 : q_ir (q_r f1614 mo 20) anm := by rw [ef1614, q_setr (Or.inr (by decide))]; exact z1606
  have z1630 : q_ir (q_r f1614 mo 1) bu := by rw [ef1614, q_setr (Or.inr (by decide))]; exact z1607
  have z1631 : q_ir (q_r f1614 mo 17) pa := by rw [ef1614, q_setr (Or.inr (by decide))]; exact z1608
  have g1632 : q_gr f1614 sr := q_gr_ne g1596 ef1614 (fun q => q_kne (k := 151) (k2 := 12) (by decide) ksr kmo q)
  have g1633 : q_pk f1614 mo pa := q_pk_tr g1609 (by rw [ef1614, q_setz (Or.inr (by decide))]) (fun i9 => by rw [ef1614, q_setz (Or.inl (fun q => by rw [q, kmo] at kpa; exact absurd kpa (by decide)))])
  have g1634 : tk_ub f1614 bu B tn := tk_ub_tr g1610 (fun i9 => by rw [ef1614, q_setz (Or.inl (fun q => by rw [q, kmo] at kbu; exact absurd kbu (by decide)))])
  have g1635 : tk_tr f1614 mo B tn := tk_tr_tr g1611 (by rw [ef1614, q_setz (Or.inr (by decide))]) (by rw [ef1614, q_setz (Or.inr (by decide))]) (by rw [ef1614, q_setz (Or.inr (by decide))]) (by rw [ef1614, q_setz (Or.inr (by decide))]) (by rw [ef1614, q_setj (Or.inr (by decide))])
  exact J28 ((Int.toNat (601 - x1543)) + 1) f1614 0 (by decide) (by decide) (-1) (by decide) (by decide) 0 (by decide) (by decide) x1543 (by omega) (by omega) x1565 (by omega) (by omega) x1612 (by omega) (by omega) x1613 (by omega) (by omega) z1616 z1617 z1618 z1619 z1620 z1621 z1622 z1623 z1626 z1627 z1628 z1629 z1630 z1631 g1632 g1633 g1635 g1634 (by omega) ⟨tk_A0, congrArg (fun q9 => tk_T B tn q9 tk_A0) (Eq.symm (Eq.trans (Eq.symm ex1543) t1530)), tk_tm_0 z1615 z1624 z1625⟩ (Nat.lt_succ_self _) H locs hB ls (lv_sub hl [0] rfl)
