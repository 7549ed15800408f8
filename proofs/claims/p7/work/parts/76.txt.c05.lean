set_option maxHeartbeats 4000000 in
set_option maxRecDepth 100000 in
theorem f_vcopy40 (l : Launch) (g : q_G) {K : Nat → Nat} {L : List Nat} (hN : L.Nodup) {f : Nat → va_E} (hT : q_Ty g K L f) (nl9 : List (List Int)) (v : Nat) (hv : v ∈ L) (kv : K v = 16) (u0 : Nat) (hu0 : u0 ∈ L) (ku0 : K u0 = 10) (ndv : Nat) (hndv : ndv ∈ L) (kndv : K ndv = 114) (ndp : Nat) (hndp : ndp ∈ L) (kndp : K ndp = 110) (nn : Int) (lnn : 0 ≤ nn) (unn : nn ≤ 10) (hf0 : q_is (q_z f u0 3) nn) (hr0 : q_ir (q_r f v 0) ndv) (hr1 : q_ir (q_r f u0 0) ndp) (hp0 : tk_vn K L 5 f u0 ndp nl9) (hp1 : tk_ik K L 20 f ndv) : q_Ct l g K L yX10_copyFrom cX10_copyFrom 3 none 1 21 [.ref v, .ref u0] f [(16, 3, 12), (20, 0, 8), (24, 0, 4), (28, 0, 7)] (q_Pv (fun (f1 : Nat → va_E) => q_is (q_z f1 v 3) nn ∧ (tk_vn K L 20 f1 v ndv nl9) ∧ (∀ u9 : Nat, u9 ∈ L → K u9 = 16 → u9 ≠ v → q_z f1 u9 3 = q_z f u9 3) ∧ (∀ a9 : Nat, a9 ∈ L → K a9 = 20 → (∀ i9 : Nat, i9 < 10 → a9 ≠ q_r f ndv i9) → q_j f1 a9 0 = q_j f a9 0))) := by
  refine q_ofb (by decide +kernel) hN hT (Nat.le_of_ble_eq_true rfl) ?_
  intro p e s m below meth c ls cx hr hlk hB hl
  have hl : lv_has ls 3 [(0, .ref v), (1, .ref u0)] := hl
  have J140 : ∀ (n : Nat) (f140 : Nat → va_E) (v140_2 : Int) (lv140_2 : 0 ≤ v140_2) (uv140_2 : v140_2 ≤ 61) (hj_u0_3 : q_is (q_z f140 u0 3) nn) (hj_v_3 : q_is (q_z f140 v 3) nn) (hq_v_0 : q_ir (q_r f140 v 0) ndv) (hq_u0_0 : q_ir (q_r f140 u0 0) ndp) (hiv140 : tk_ik K L 20 f140 ndv) (ho0140 : ∀ a9 : Nat, a9 ∈ L → K a9 = 20 → (∀ i9 : Nat, i9 < 10 → a9 ≠ q_r f ndv i9) → q_j f140 a9 0 = q_j f a9 0) (ho3140 : ∀ u9 : Nat, u9 ∈ L → K u9 = 16 → u9 ≠ v → q_z f140 u9 3 = q_z f u9 3) (hrv140 : ∀ i9 : Nat, q_r f140 ndv i9 = q_r f ndv i9) (hvp140 : tk_vn K L 5 f140 u0 ndp nl9) (hvq140 : tk_vn K L 20 f140 v ndv nl9) (hmu : (Int.toNat (2147483647 - v140_2)) < n) (H : Heap) (locs : List Loc) (hB : q_B g K L (fun q => q ∈ L) [(16, 3, 12), (20, 0, 8), (24, 0, 4), (28, 0, 7)] f f140 s H locs) (ls : Array Slot) (hl : lv_has ls 3 [(0, .ref v), (1, .ref u0), (2, .int (q_i v140_2))]), W p l e { frames := 1, cells := 0, slots := 0, locals := 21 } s m ([.ref v, .ref u0] : List Value).toArray below meth c H locs 0 0 (MQ below (q_Q g K L [(16, 3, 12), (20, 0, 8), (24, 0, 4), (28, 0, 7)] f (q_Pv (fun (f1 : Nat → va_E) => q_is (q_z f1 v 3) nn ∧ (tk_vn K L 20 f1 v ndv nl9) ∧ (∀ u9 : Nat, u9 ∈ L → K u9 = 16 → u9 ≠ v → q_z f1 u9 3 = q_z f u9 3) ∧ (∀ a9 : Nat, a9 ∈ L → K a9 = 20 → (∀ i9 : Nat, i9 < 10 → a9 ≠ q_r f ndv i9) → q_j f1 a9 0 = q_j f a9 0)))) ([.ref v, .ref u0] : List Value).toArray s 0 0 (fun q => q ∈ L)) (F0 m 140 ls []) := by
    intro n
    induction n with
    | zero =>
      intro f140 v140_2 lv140_2 uv140_2 hj_u0_3 hj_v_3 hq_v_0 hq_u0_0 hiv140 ho0140 ho3140 hrv140 hvp140 hvq140 hmu
      exact absurd hmu (Nat.not_lt_zero _)
    | succ n ih140 =>
      intro f140 v140_2 lv140_2 uv140_2 hj_u0_3 hj_v_3 hq_v_0 hq_u0_0 hiv140 ho0140 ho3140 hrv140 hvp140 hvq140 hmu H locs hB ls hl
      refine q_ild_n cx dX10_copyFrom_140 rfl (lv_at hl 2 rfl) ?_
      refine q_ald_n cx dX10_copyFrom_141 rfl (lv_at hl 0 rfl) ?_
      obtain ⟨x1250, ex1250⟩ : ∃ zz, q_is (q_z f140 v 5) zz := ⟨_, q_isr _⟩
      refine q_gX10_42_16 cx hB hv kv ex1250 dX10_copyFrom_142 (fun lb1251 ub1251 => ?_)
      refine q_icge (tgt := 167) cx ⟨by omega, by omega⟩ ⟨by omega, by omega⟩ dX10_copyFrom_145 (by decide) (fun c1252 => ?_) (fun c1252 => ?_)
      · refine q_vret cx hr hlk hB dX10_copyFrom_167 ?_
        exact ⟨hj_v_3, hvq140, ho3140, ho0140⟩
      · refine q_ald_n cx dX10_copyFrom_148 rfl (lv_at hl 0 rfl) ?_
        refine q_ild_n cx dX10_copyFrom_149 rfl (lv_at hl 2 rfl) ?_
        refine q_cVr (As := [.int (q_i v140_2)]) (rest := []) cx hB (fun _ h => h) hN hv kv (by decide) rfl (g_X10_messageAt_4 l g hN hB.2.1 v hv kv v140_2 (by omega) (by omega)) q_cX10_81 q_dX10_messageAt (by decide) rfl rfl hl.1 rfl (Nat.le_of_ble_eq_true rfl) dX10_copyFrom_150 (fun y1254 H locs f1253 h1255 hF hB => ?_)
        obtain ⟨rfl, hy1254, ky1254⟩ := h1255
        refine q_ald_n cx dX10_copyFrom_153 rfl (lv_at hl 1 rfl) ?_
        refine q_ild_n cx dX10_copyFrom_154 rfl (lv_at hl 2 rfl) ?_
        refine q_cVr (As := [.int (q_i v140_2)]) (rest := [.ref y1254]) cx hB (fun _ h => h) hN hu0 ku0 (by decide) rfl (g_X10_messageAt l g hN hB.2.1 u0 hu0 ku0 v140_2 (by omega) (by omega)) q_cX10_81 q_dX10_messageAt (by decide) rfl rfl hl.1 rfl (Nat.le_of_ble_eq_true rfl) dX10_copyFrom_155 (fun y1257 H locs f1256 h1258 hF hB => ?_)
        obtain ⟨rfl, hy1257, ky1257⟩ := h1258
        refine q_cVv (As := [.ref y1257]) (rest := []) cx hB (fun _ h => h) hN hy1254 ky1254 (by decide) rfl (g_X4_copyFrom_40 l g hN hB.2.1 y1254 hy1254 ky1254 y1257 hy1257 ky1257) q_cX10_85 q_dX4_copyFrom (by decide) rfl rfl hl.1 rfl (Nat.le_of_ble_eq_true rfl) dX10_copyFrom_158 (fun H locs f1259 h1261 hF hB => ?_)
        have z1262 : q_is (q_z f1259 u0 3) nn := Eq.trans (hF.z hu0 (by rw [ku0]; rfl)) hj_u0_3
        have z1263 : q_is (q_z f1259 v 3) nn := Eq.trans (hF.z hv (by rw [kv]; rfl)) hj_v_3
        have z1264 : q_is (q_z f1259 v 5) x1250 := Eq.trans (hF.z hv (by rw [kv]; rfl)) ex1250
        have z1265 : q_ir (q_r f1259 v 0) ndv := Eq.trans (hF.r hv (by rw [kv]; rfl)) hq_v_0
        have z1266 : q_ir (q_r f1259 u0 0) ndp := Eq.trans (hF.r hu0 (by rw [ku0]; rfl)) hq_u0_0
        have g1267 : tk_vn K L 5 f1259 u0 ndp nl9 := tk_vn_tr hvp140 (hF.z hu0 (by rw [ku0]; rfl)) (fun a9 h9 k9 => hF.j h9 (by rw [k9]; rfl)) (fun i9 => hF.r hndp (by rw [kndp]; rfl))
        have g1268 : tk_ik K L 20 f1259 ndv := tk_ik_tr hiv140 (fun i9 => hF.r hndv (by rw [kndv]; rfl))
        have g1269 : ∀ i9 : Nat, q_r f1259 ndv i9 = q_r f ndv i9 := tk_rv_tr hrv140 (fun i9 => hF.r hndv (by rw [kndv]; rfl))
        have g1270 : ∀ u9 : Nat, u9 ∈ L → K u9 = 16 → u9 ≠ v → q_z f1259 u9 3 = q_z f u9 3 := tk_o3_tr ho3140 (fun a9 h9 k9 n9 => hF.z h9 (by rw [k9]; rfl))
        have g1271 : ∀ a9 : Nat, a9 ∈ L → K a9 = 20 → (∀ i9 : Nat, i9 < 10 → a9 ≠ q_r f ndv i9) → q_j f1259 a9 0 = q_j f a9 0 := tk_o0_tr ho0140 (fun a9 h9 k9 => hF.j h9 (by rw [k9]; rfl))
        have g1272 : tk_vn K L 20 f1259 v ndv nl9 := tk_vn_tr hvq140 (hF.z hv (by rw [kv]; rfl)) (fun a9 h9 k9 => hF.j h9 (by rw [k9]; rfl)) (fun i9 => hF.r hndv (by rw [kndv]; rfl))
        refine q_iinc (lv' := [(2, .int (q_i (v140_2 + 1))), (0, .ref v), (1, .ref u0)]) cx dX10_copyFrom_161 hl (k := 2) rfl (by decide) rfl (fun ls hl => ?_)
        refine lv_goto (tgt := 140) cx.1 cx.2.1 dX10_copyFrom_164 (by decide) ?_
        exact ih140 f1259 (v140_2 + 1) (by omega) (by omega) z1262 z1263 z1265 z1266 g1268 g1271 g1270 g1269 g1267 g1272 (by omega) H locs hB ls (lv_sub hl [1, 2, 0] rfl)
  have J111 : ∀ (n : Nat) (f111 : Nat → va_E) (v111_2 : Int) (lv111_2 : 0 ≤ v111_2) (uv111_2 : v111_2 ≤ 16) (hj_u0_3 : q_is (q_z f111 u0 3) nn) (hj_v_3 : q_is (q_z f111 v 3) nn) (hq_v_0 : q_ir (q_r f111 v 0) ndv) (hq_u0_0 : q_ir (q_r f111 u0 0) ndp) (hiv111 : tk_ik K L 20 f111 ndv) (ho0111 : ∀ a9 : Nat, a9 ∈ L → K a9 = 20 → (∀ i9 : Nat, i9 < 10 → a9 ≠ q_r f ndv i9) → q_j f111 a9 0 = q_j f a9 0) (ho3111 : ∀ u9 : Nat, u9 ∈ L → K u9 = 16 → u9 ≠ v → q_z f111 u9 3 = q_z f u9 3) (hrv111 : ∀ i9 : Nat, q_r f111 ndv i9 = q_r f ndv i9) (hvp111 : tk_vn K L 5 f111 u0 ndp nl9) (hvq111 : tk_vn K L 20 f111 v ndv nl9) (hmu : (Int.toNat (2147483647 - v111_2)) < n) (H : Heap) (locs : List Loc) (hB : q_B g K L (fun q => q ∈ L) [(16, 3, 12), (20, 0, 8), (24, 0, 4), (28, 0, 7)] f f111 s H locs) (ls : Array Slot) (hl : lv_has ls 3 [(0, .ref v), (1, .ref u0), (2, .int (q_i v111_2))]), W p l e { frames := 1, cells := 0, slots := 0, locals := 21 } s m ([.ref v, .ref u0] : List Value).toArray below meth c H locs 0 0 (MQ below (q_Q g K L [(16, 3, 12), (20, 0, 8), (24, 0, 4), (28, 0, 7)] f (q_Pv (fun (f1 : Nat → va_E) => q_is (q_z f1 v 3) nn ∧ (tk_vn K L 20 f1 v ndv nl9) ∧ (∀ u9 : Nat, u9 ∈ L → K u9 = 16 → u9 ≠ v → q_z f1 u9 3 = q_z f u9 3) ∧ (∀ a9 : Nat, a9 ∈ L → K a9 = 20 → (∀ i9 : Nat, i9 < 10 → a9 ≠ q_r f ndv i9) → q_j f1 a9 0 = q_j f a9 0)))) ([.ref v, .ref u0] : List Value).toArray s 0 0 (fun q => q ∈ L)) (F0 m 111 ls []) := by
    intro n
    induction n with
    | zero =>
      intro f111 v111_2 lv111_2 uv111_2 hj_u0_3 hj_v_3 hq_v_0 hq_u0_0 hiv111 ho0111 ho3111 hrv111 hvp111 hvq111 hmu
      exact absurd hmu (Nat.not_lt_zero _)
    | succ n ih111 =>
      intro f111 v111_2 lv111_2 uv111_2 hj_u0_3 hj_v_3 hq_v_0 hq_u0_0 hiv111 ho0111 ho3111 hrv111 hvp111 hvq111 hmu H locs hB ls hl
      refine q_ild_n cx dX10_copyFrom_111 rfl (lv_at hl 2 rfl) ?_
      refine q_ald_n cx dX10_copyFrom_112 rfl (lv_at hl 0 rfl) ?_
      obtain ⟨x1273, ex1273⟩ : ∃ zz, q_is (q_z f111 v 4) zz := ⟨_, q_isr _⟩
      refine q_gX10_39_16 cx hB hv kv ex1273 dX10_copyFrom_113 (fun lb1274 ub1274 => ?_)
      refine q_icge (tgt := 138) cx ⟨by omega, by omega⟩ ⟨by omega, by omega⟩ dX10_copyFrom_116 (by decide) (fun c1275 => ?_) (fun c1275 => ?_)
      · refine q_iconst cx dX10_copyFrom_138 ?_
        refine lv_istore_n (lv' := [(2, .int (q_i 0)), (0, .ref v), (1, .ref u0)]) cx.1 cx.2.1 dX10_copyFrom_139 rfl hl (by decide) rfl (fun ls hl => ?_)
        exact J140 ((Int.toNat (2147483647 - 0)) + 1) f111 0 (by decide) (by decide) hj_u0_3 hj_v_3 hq_v_0 hq_u0_0 hiv111 ho0111 ho3111 hrv111 hvp111 hvq111 (Nat.lt_succ_self _) H locs hB ls (lv_sub hl [1, 2, 0] rfl)
      · refine q_ald_n cx dX10_copyFrom_119 rfl (lv_at hl 0 rfl) ?_
        refine q_ild_n cx dX10_copyFrom_120 rfl (lv_at hl 2 rfl) ?_
        refine q_cVr (As := [.int (q_i v111_2)]) (rest := []) cx hB (fun _ h => h) hN hv kv (by decide) rfl (g_X10_linkAt_4 l g hN hB.2.1 v hv kv v111_2 (by omega) (by omega)) q_cX10_74 q_dX10_linkAt (by decide) rfl rfl hl.1 rfl (Nat.le_of_ble_eq_true rfl) dX10_copyFrom_121 (fun y1277 H locs f1276 h1278 hF hB => ?_)
        obtain ⟨rfl, hy1277, ky1277⟩ := h1278
        refine q_ald_n cx dX10_copyFrom_124 rfl (lv_at hl 1 rfl) ?_
        refine q_ild_n cx dX10_copyFrom_125 rfl (lv_at hl 2 rfl) ?_
        refine q_cVr (As := [.int (q_i v111_2)]) (rest := [.ref y1277]) cx hB (fun _ h => h) hN hu0 ku0 (by decide) rfl (g_X10_linkAt l g hN hB.2.1 u0 hu0 ku0 v111_2 (by omega) (by omega)) q_cX10_74 q_dX10_linkAt (by decide) rfl rfl hl.1 rfl (Nat.le_of_ble_eq_true rfl) dX10_copyFrom_126 (fun y1280 H locs f1279 h1281 hF hB => ?_)
        obtain ⟨rfl, hy1280, ky1280⟩ := h1281
        refine q_cVv (As := [.ref y1280]) (rest := []) cx hB (fun _ h => h) hN hy1277 ky1277 (by decide) rfl (g_X3_copyFrom_40 l g hN hB.2.1 y1277 hy1277 ky1277 y1280 hy1280 ky1280) q_cX10_78 q_dX3_copyFrom (by decide) rfl rfl hl.1 rfl (Nat.le_of_ble_eq_true rfl) dX10_copyFrom_129 (fun H locs f1282 h1284 hF hB => ?_)
        have z1285 : q_is (q_z f1282 u0 3) nn := Eq.trans (hF.z hu0 (by rw [ku0]; rfl)) hj_u0_3
        have z1286 : q_is (q_z f1282 v 3) nn := Eq.trans (hF.z hv (by rw [kv]; rfl)) hj_v_3
        have z1287 : q_is (q_z f1282 v 4) x1273 := Eq.trans (hF.z hv (by rw [kv]; rfl)) ex1273
        have z1288 : q_ir (q_r f1282 v 0) ndv := Eq.trans (hF.r hv (by rw [kv]; rfl)) hq_v_0
        have z1289 : q_ir (q_r f1282 u0 0) ndp := Eq.trans (hF.r hu0 (by rw [ku0]; rfl)) hq_u0_0
        have g1290 : tk_vn K L 5 f1282 u0 ndp nl9 := tk_vn_tr hvp111 (hF.z hu0 (by rw [ku0]; rfl)) (fun a9 h9 k9 => hF.j h9 (by rw [k9]; rfl)) (fun i9 => hF.r hndp (by rw [kndp]; rfl))
        have g1291 : tk_ik K L 20 f1282 ndv := tk_ik_tr hiv111 (fun i9 => hF.r hndv (by rw [kndv]; rfl))
        have g1292 : ∀ i9 : Nat, q_r f1282 ndv i9 = q_r f ndv i9 := tk_rv_tr hrv111 (fun i9 => hF.r hndv (by rw [kndv]; rfl))
        have g1293 : ∀ u9 : Nat, u9 ∈ L → K u9 = 16 → u9 ≠ v → q_z f1282 u9 3 = q_z f u9 3 := tk_o3_tr ho3111 (fun a9 h9 k9 n9 => hF.z h9 (by rw [k9]; rfl))
        have g1294 : ∀ a9 : Nat, a9 ∈ L → K a9 = 20 → (∀ i9 : Nat, i9 < 10 → a9 ≠ q_r f ndv i9) → q_j f1282 a9 0 = q_j f a9 0 := tk_o0_tr ho0111 (fun a9 h9 k9 => hF.j h9 (by rw [k9]; rfl))
        have g1295 : tk_vn K L 20 f1282 v ndv nl9 := tk_vn_tr hvq111 (hF.z hv (by rw [kv]; rfl)) (fun a9 h9 k9 => hF.j h9 (by rw [k9]; rfl)) (fun i9 => hF.r hndv (by rw [kndv]; rfl))
        refine q_iinc (lv' := [(2, .int (q_i (v111_2 + 1))), (0, .ref v), (1, .ref u0)]) cx dX10_copyFrom_132 hl (k := 2) rfl (by decide) rfl (fun ls hl => ?_)
        refine lv_goto (tgt := 111) cx.1 cx.2.1 dX10_copyFrom_135 (by decide) ?_
        exact ih111 f1282 (v111_2 + 1) (by omega) (by omega) z1285 z1286 z1288 z1289 g1291 g1294 g1293 g1292 g1290 g1295 (by omega) H locs hB ls (lv_sub hl [1, 2, 0] rfl)
  have J82 : ∀ (n : Nat) (f82 : Nat → va_E) (v82_2 : Int) (lv82_2 : 0 ≤ v82_2) (uv82_2 : v82_2 ≤ 10) (hj_u0_3 : q_is (q_z f82 u0 3) nn) (hj_v_3 : q_is (q_z f82 v 3) nn) (hq_v_0 : q_ir (q_r f82 v 0) ndv) (hq_u0_0 : q_ir (q_r f82 u0 0) ndp) (hiv82 : tk_ik K L 20 f82 ndv) (ho082 : ∀ a9 : Nat, a9 ∈ L → K a9 = 20 → (∀ i9 : Nat, i9 < 10 → a9 ≠ q_r f ndv i9) → q_j f82 a9 0 = q_j f a9 0) (ho382 : ∀ u9 : Nat, u9 ∈ L → K u9 = 16 → u9 ≠ v → q_z f82 u9 3 = q_z f u9 3) (hrv82 : ∀ i9 : Nat, q_r f82 ndv i9 = q_r f ndv i9) (hvp82 : tk_vn K L 5 f82 u0 ndp nl9) (hcp : ∀ j : Nat, (j : Int) < v82_2 → q_j f82 (q_r f82 ndv j) 0 = tk_cw (nl9.getD j [])) (hmu : (Int.toNat (2147483647 - v82_2)) < n) (H : Heap) (locs : List Loc) (hB : q_B g K L (fun q => q ∈ L) [(16, 3, 12), (20, 0, 8), (24, 0, 4), (28, 0, 7)] f f82 s H locs) (ls : Array Slot) (hl : lv_has ls 3 [(0, .ref v), (1, .ref u0), (2, .int (q_i v82_2))]), W p l e { frames := 1, cells := 0, slots := 0, locals := 21 } s m ([.ref v, .ref u0] : List Value).toArray below meth c H locs 0 0 (MQ below (q_Q g K L [(16, 3, 12), (20, 0, 8), (24, 0, 4), (28, 0, 7)] f (q_Pv (fun (f1 : Nat → va_E) => q_is (q_z f1 v 3) nn ∧ (tk_vn K L 20 f1 v ndv nl9) ∧ (∀ u9 : Nat, u9 ∈ L → K u9 = 16 → u9 ≠ v → q_z f1 u9 3 = q_z f u9 3) ∧ (∀ a9 : Nat, a9 ∈ L → K a9 = 20 → (∀ i9 : Nat, i9 < 10 → a9 ≠ q_r f ndv i9) → q_j f1 a9 0 = q_j f a9 0)))) ([.ref v, .ref u0] : List Value).toArray s 0 0 (fun q => q ∈ L)) (F0 m 82 ls []) := by
    intro n
    induction n with
    | zero =>
      intro f82 v82_2 lv82_2 uv82_2 hj_u0_3 hj_v_3 hq_v_0 hq_u0_0 hiv82 ho082 ho382 hrv82 hvp82 hcp hmu
      exact absurd hmu (Nat.not_lt_zero _)
    | succ n ih82 =>
      intro f82 v82_2 lv82_2 uv82_2 hj_u0_3 hj_v_3 hq_v_0 hq_u0_0 hiv82 ho082 ho382 hrv82 hvp82 hcp hmu H locs hB ls hl
      refine q_ild_n cx dX10_copyFrom_82 rfl (lv_at hl 2 rfl) ?_
      refine q_ald_n cx dX10_copyFrom_83 rfl (lv_at hl 0 rfl) ?_
      refine q_gX10_35_16 cx hB hv kv hj_v_3 dX10_copyFrom_84 (fun lb1296 ub1296 => ?_)
      refine q_icge (tgt := 109) cx ⟨by omega, by omega⟩ ⟨by omega, by omega⟩ dX10_copyFrom_87 (by decide) (fun c1297 => ?_) (fun c1297 => ?_)
      · have hvq9 : tk_vn K L 20 f82 v ndv nl9 := tk_vn_mk hiv82 hj_v_3 hvp82 hj_u0_3 hcp (by omega)
        refine q_iconst cx dX10_copyFrom_109 ?_
        refine lv_istore_n (lv' := [(2, .int (q_i 0)), (0, .ref v), (1, .ref u0)]) cx.1 cx.2.1 dX10_copyFrom_110 rfl hl (by decide) rfl (fun ls hl => ?_)
        exact J111 ((Int.toNat (2147483647 - 0)) + 1) f82 0 (by decide) (by decide) hj_u0_3 hj_v_3 hq_v_0 hq_u0_0 hiv82 ho082 ho382 hrv82 hvp82 hvq9 (Nat.lt_succ_self _) H locs hB ls (lv_sub hl [1, 2, 0] rfl)
      · refine q_ald_n cx dX10_copyFrom_90 rfl (lv_at hl 0 rfl) ?_
        refine q_ild_n cx dX10_copyFrom_91 rfl (lv_at hl 2 rfl) ?_
        refine q_cVr (As := [.int (q_i v82_2)]) (rest := []) cx hB (fun _ h => h) hN hv kv (by decide) rfl (f_nodeAt4 l g hN hB.2.1 v hv kv v82_2 (by omega) (by omega) ndv hndv kndv hq_v_0) q_cX10_66 q_dX10_nodeAt (by decide) rfl rfl hl.1 rfl (Nat.le_of_ble_eq_true rfl) dX10_copyFrom_92 (fun y1299 H locs f1298 h1300 hF hB => ?_)
        obtain ⟨rfl, hy1299, ky1299, t1301⟩ := h1300
        refine q_ald_n cx dX10_copyFrom_95 rfl (lv_at hl 1 rfl) ?_
        refine q_ild_n cx dX10_copyFrom_96 rfl (lv_at hl 2 rfl) ?_
        refine q_cVr (As := [.int (q_i v82_2)]) (rest := [.ref y1299]) cx hB (fun _ h => h) hN hu0 ku0 (by decide) rfl (f_nodeAt0 l g hN hB.2.1 u0 hu0 ku0 v82_2 (by omega) (by omega) ndp hndp kndp hq_u0_0) q_cX10_66 q_dX10_nodeAt (by decide) rfl rfl hl.1 rfl (Nat.le_of_ble_eq_true rfl) dX10_copyFrom_97 (fun y1303 H locs f1302 h1304 hF hB => ?_)
        obtain ⟨rfl, hy1303, ky1303, t1305⟩ := h1304
        refine q_cVv (As := [.ref y1303]) (rest := []) cx hB (fun _ h => h) hN hy1299 ky1299 (by decide) rfl (f_ncopy40 l g hN hB.2.1 y1299 hy1299 ky1299 y1303 hy1303 ky1303) q_cX10_70 q_dX5_copyFrom (by decide) rfl rfl hl.1 rfl (Nat.le_of_ble_eq_true rfl) dX10_copyFrom_100 (fun H locs f1306 h1308 hF hB => ?_)
        obtain ⟨t1309, t1310⟩ := h1308
        have z1311 : q_is (q_z f1306 u0 3) nn := Eq.trans (hF.z hu0 (by rw [ku0]; rfl)) hj_u0_3
        have z1312 : q_is (q_z f1306 v 3) nn := Eq.trans (hF.z hv (by rw [kv]; rfl)) hj_v_3
        have z1313 : q_ir (q_r f1306 v 0) ndv := Eq.trans (hF.r hv (by rw [kv]; rfl)) hq_v_0
        have z1314 : q_ir (q_r f1306 u0 0) ndp := Eq.trans (hF.r hu0 (by rw [ku0]; rfl)) hq_u0_0
        have g1315 : tk_vn K L 5 f1306 u0 ndp nl9 := tk_vn_tr hvp82 (hF.z hu0 (by rw [ku0]; rfl)) (fun a9 h9 k9 => hF.j h9 (by rw [k9]; rfl)) (fun i9 => hF.r hndp (by rw [kndp]; rfl))
        have g1316 : tk_ik K L 20 f1306 ndv := tk_ik_tr hiv82 (fun i9 => hF.r hndv (by rw [kndv]; rfl))
        have g1317 : ∀ i9 : Nat, q_r f1306 ndv i9 = q_r f ndv i9 := tk_rv_tr hrv82 (fun i9 => hF.r hndv (by rw [kndv]; rfl))
        have g1318 : ∀ u9 : Nat, u9 ∈ L → K u9 = 16 → u9 ≠ v → q_z f1306 u9 3 = q_z f u9 3 := tk_o3_tr ho382 (fun a9 h9 k9 n9 => hF.z h9 (by rw [k9]; rfl))
        have hcp9 := tk_cp_step hcp hvp82 hiv82 (by omega) (by have h7 := tk_vn_nn hvp82 hj_u0_3; omega) t1301 t1305 t1309 t1310 (fun i9 => hF.r hndv (by rw [kndv]; rfl))
        have ho09 : ∀ a9 : Nat, a9 ∈ L → K a9 = 20 → (∀ i9 : Nat, i9 < 10 → a9 ≠ q_r f ndv i9) → q_j f1306 a9 0 = q_j f a9 0 := tk_o0_st ho082 hrv82 (by omega) (by omega) t1301 t1310
        refine q_iinc (lv' := [(2, .int (q_i (v82_2 + 1))), (0, .ref v), (1, .ref u0)]) cx dX10_copyFrom_103 hl (k := 2) rfl (by decide) rfl (fun ls hl => ?_)
        refine lv_goto (tgt := 82) cx.1 cx.2.1 dX10_copyFrom_106 (by decide) ?_
        exact ih82 f1306 (v82_2 + 1) (by omega) (by omega) z1311 z1312 z1313 z1314 g1316 ho09 g1318 g1317 g1315 hcp9 (by omega) H locs hB ls (lv_sub hl [1, 2, 0] rfl)
  obtain ⟨H, hH⟩ : ∃ H : Heap, H = s.heap := ⟨_, rfl⟩
  obtain ⟨locs, hlocs⟩ : ∃ z : List Loc, z = [] := ⟨_, rfl⟩
  rw [← hH, ← hlocs] at hB
  rw [← hH, ← hlocs]
  have g1319 : tk_vn K L 5 f u0 ndp nl9 := hp0
  have g1320 : tk_ik K L 20 f ndv := hp1
  have g1321 : ∀ i9 : Nat, q_r f ndv i9 = q_r f ndv i9 := fun _ => rfl
  have g1322 : ∀ u9 : Nat, u9 ∈ L → K u9 = 16 → u9 ≠ v → q_z f u9 3 = q_z f u9 3 := fun _ _ _ _ => rfl
  have g1323 : ∀ a9 : Nat, a9 ∈ L → K a9 = 20 → (∀ i9 : Nat, i9 < 10 → a9 ≠ q_r f ndv i9) → q_j f a9 0 = q_j f a9 0 := fun _ _ _ _ => rfl
  refine q_ald_n cx dX10_copyFrom_0 rfl (lv_at hl 0 rfl) ?_
  refine q_ald_n cx dX10_copyFrom_1 rfl (lv_at hl 1 rfl) ?_
  refine q_gX10_35 cx hB hu0 ku0 hf0 dX10_copyFrom_2 (fun lb1324 ub1324 => ?_)
  refine q_pX10_35_16 cx hB hv kv ⟨by omega, by omega⟩ (by omega) (by omega) rfl dX10_copyFrom_5 (fun H locs f1325 ef1325 z1326 hB => ?_)
  have z1327 : q_is (q_z f1325 u0 3) nn := by rw [ef1325, q_setz (Or.inl (fun q => by rw [q, kv] at ku0; exact absurd ku0 (by decide)))]; exact hf0
  have z1328 : q_ir (q_r f1325 v 0) ndv := by rw [ef1325, q_setr (Or.inr (by decide))]; exact hr0
  have z1329 : q_ir (q_r f1325 u0 0) ndp := by rw [ef1325, q_setr (Or.inr (by decide))]; exact hr1
  have g1330 : tk_vn K L 5 f1325 u0 ndp nl9 := tk_vn_tr g1319 (by rw [ef1325, q_setz (Or.inl (fun q => by rw [q, kv] at ku0; exact absurd ku0 (by decide)))]) (fun a9 h9 k9 => by rw [ef1325, q_setj (Or.inl (fun q => by rw [q, kv] at k9; exact absurd k9 (by decide)))]) (fun i9 => by rw [ef1325, q_setr (Or.inl (fun q => by rw [q, kv] at kndp; exact absurd kndp (by decide)))])
  have g1331 : tk_ik K L 20 f1325 ndv := tk_ik_tr g1320 (fun i9 => by rw [ef1325, q_setr (Or.inl (fun q => by rw [q, kv] at kndv; exact absurd kndv (by decide)))])
  have g1332 : ∀ i9 : Nat, q_r f1325 ndv i9 = q_r f ndv i9 := tk_rv_tr g1321 (fun i9 => by rw [ef1325, q_setr (Or.inl (fun q => by rw [q, kv] at kndv; exact absurd kndv (by decide)))])
  have g1333 : ∀ u9 : Nat, u9 ∈ L → K u9 = 16 → u9 ≠ v → q_z f1325 u9 3 = q_z f u9 3 := tk_o3_tr g1322 (fun a9 h9 k9 n9 => by rw [ef1325, q_setz (Or.inl n9)])
  have g1334 : ∀ a9 : Nat, a9 ∈ L → K a9 = 20 → (∀ i9 : Nat, i9 < 10 → a9 ≠ q_r f ndv i9) → q_j f1325 a9 0 = q_j f a9 0 := tk_o0_tr g1323 (fun a9 h9 k9 => by rw [ef1325, q_setj (Or.inl (fun q => by rw [q, kv] at k9; exact absurd k9 (by decide)))])
  refine q_ald_n cx dX10_copyFrom_8 rfl (lv_at hl 0 rfl) ?_
  refine q_ald_n cx dX10_copyFrom_9 rfl (lv_at hl 1 rfl) ?_
  obtain ⟨x1335, ex1335⟩ : ∃ zz, q_is (q_z f1325 u0 4) zz := ⟨_, q_isr _⟩
  refine q_gX10_39 cx hB hu0 ku0 ex1335 dX10_copyFrom_10 (fun lb1336 ub1336 => ?_)
  refine q_pX10_39_16 cx hB hv kv ⟨by omega, by omega⟩ (by omega) (by omega) rfl dX10_copyFrom_13 (fun H locs f1337 ef1337 z1338 hB => ?_)
  have z1339 : q_is (q_z f1337 u0 3) nn := by rw [ef1337, q_setz (Or.inr (by decide))]; exact z1327
  have z1340 : q_is (q_z f1337 v 3) nn := by rw [ef1337, q_setz (Or.inr (by decide))]; exact z1326
  have z1341 : q_is (q_z f1337 u0 4) x1335 := by rw [ef1337, q_setz (Or.inl (fun q => by rw [q, kv] at ku0; exact absurd ku0 (by decide)))]; exact ex1335
  have z1342 : q_ir (q_r f1337 v 0) ndv := by rw [ef1337, q_setr (Or.inr (by decide))]; exact z1328
  have z1343 : q_ir (q_r f1337 u0 0) ndp := by rw [ef1337, q_setr (Or.inr (by decide))]; exact z1329
  have g1344 : tk_vn K L 5 f1337 u0 ndp nl9 := tk_vn_tr g1330 (by rw [ef1337, q_setz (Or.inr (by decide))]) (fun a9 h9 k9 => by rw [ef1337, q_setj (Or.inl (fun q => by rw [q, kv] at k9; exact absurd k9 (by decide)))]) (fun i9 => by rw [ef1337, q_setr (Or.inl (fun q => by rw [q, kv] at kndp; exact absurd kndp (by decide)))])
  have g1345 : tk_ik K L 20 f1337 ndv := tk_ik_tr g1331 (fun i9 => by rw [ef1337, q_setr (Or.inl (fun q => by rw [q, kv] at kndv; exact absurd kndv (by decide)))])
  have g1346 : ∀ i9 : Nat, q_r f1337 ndv i9 = q_r f ndv i9 := tk_rv_tr g1332 (fun i9 => by rw [ef1337, q_setr (Or.inl (fun q => by rw [q, kv] at kndv; exact absurd kndv (by decide)))])
  have g1347 : ∀ u9 : Nat, u9 ∈ L → K u9 = 16 → u9 ≠ v → q_z f1337 u9 3 = q_z f u9 3 := tk_o3_tr g1333 (fun a9 h9 k9 n9 => by rw [ef1337, q_setz (Or.inr (by decide))])
  have g1348 : ∀ a9 : Nat, a9 ∈ L → K a9 = 20 → (∀ i9 : Nat, i9 < 10 → a9 ≠ q_r f ndv i9) → q_j f1337 a9 0 = q_j f a9 0 := tk_o0_tr g1334 (fun a9 h9 k9 => by rw [ef1337, q_setj (Or.inl (fun q => by rw [q, kv] at k9; exact absurd k9 (by decide)))])
  refine q_ald_n cx dX10_copyFrom_16 rfl (lv_at hl 0 rfl) ?_
  refine q_ald_n cx dX10_copyFrom_17 rfl (lv_at hl 1 rfl) ?_
  obtain ⟨x1349, ex1349⟩ : ∃ zz, q_is (q_z f1337 u0 5) zz := ⟨_, q_isr _⟩
  refine q_gX10_42 cx hB hu0 ku0 ex1349 dX10_copyFrom_18 (fun lb1350 ub1350 => ?_)
  refine q_pX10_42_16 cx hB hv kv ⟨by omega, by omega⟩ (by omega) (by omega) rfl dX10_copyFrom_21 (fun H locs f1351 ef1351 z1352 hB => ?_)
  have z1353 : q_is (q_z f1351 u0 3) nn := by rw [ef1351, q_setz (Or.inr (by decide))]; exact z1339
  have z1354 : q_is (q_z f1351 v 3) nn := by rw [ef1351, q_setz (Or.inr (by decide))]; exact z1340
  have z1355 : q_is (q_z f1351 u0 4) x1335 := by rw [ef1351, q_setz (Or.inr (by decide))]; exact z1341
  have z1356 : q_is (q_z f1351 v 4) x1335 := by rw [ef1351, q_setz (Or.inr (by decide))]; exact z1338
  have z1357 : q_is (q_z f1351 u0 5) x1349 := by rw [ef1351, q_setz (Or.inl (fun q => by rw [q, kv] at ku0; exact absurd ku0 (by decide)))]; exact ex1349
  have z1358 : q_ir (q_r f1351 v 0) ndv := by rw [ef1351, q_setr (Or.inr (by decide))]; exact z1342
  have z1359 : q_ir (q_r f1351 u0 0) ndp := by rw [ef1351, q_setr (Or.inr (by decide))]; exact z1343
  have g1360 : tk_vn K L 5 f1351 u0 ndp nl9 := tk_vn_tr g1344 (by rw [ef1351, q_setz (Or.inr (by decide))]) (fun a9 h9 k9 => by rw [ef1351, q_setj (Or.inl (fun q => by rw [q, kv] at k9; exact absurd k9 (by decide)))]) (fun i9 => by rw [ef1351, q_setr (Or.inl (fun q => by rw [q, kv] at kndp; exact absurd kndp (by decide)))])
  have g1361 : tk_ik K L 20 f1351 ndv := tk_ik_tr g1345 (fun i9 => by rw [ef1351, q_setr (Or.inl (fun q => by rw [q, kv] at kndv; exact absurd kndv (by decide)))])
  have g1362 : ∀ i9 : Nat, q_r f1351 ndv i9 = q_r f ndv i9 := tk_rv_tr g1346 (fun i9 => by rw [ef1351, q_setr (Or.inl (fun q => by rw [q, kv] at kndv; exact absurd kndv (by decide)))])
  have g1363 : ∀ u9 : Nat, u9 ∈ L → K u9 = 16 → u9 ≠ v → q_z f1351 u9 3 = q_z f u9 3 := tk_o3_tr g1347 (fun a9 h9 k9 n9 => by rw [ef1351, q_setz (Or.inr (by decide))])
  have g1364 : ∀ a9 : Nat, a9 ∈ L → K a9 = 20 → (∀ i9 : Nat, i9 < 10 → a9 ≠ q_r f ndv i9) → q_j f1351 a9 0 = q_j f a9 0 := tk_o0_tr g1348 (fun a9 h9 k9 => by rw [ef1351, q_setj (Or.inl (fun q => by rw [q, kv] at k9; exact absurd k9 (by decide)))])
  refine q_ald_n cx dX10_copyFrom_24 rfl (lv_at hl 0 rfl) ?_
  refine q_ald_n cx dX10_copyFrom_25 rfl (lv_at hl 1 rfl) ?_
  obtain ⟨x1365, ex1365⟩ : ∃ zz, q_is (q_z f1351 u0 6) zz := ⟨_, q_isr _⟩
  refine q_gX10_45 cx hB hu0 ku0 ex1365 dX10_copyFrom_26 (fun lb1366 ub1366 => ?_)
  refine q_pX10_45_16 cx hB hv kv ⟨by omega, by omega⟩ (by omega) (by omega) rfl dX10_copyFrom_29 (fun H locs f1367 ef1367 z1368 hB => ?_)
  have z1369 : q_is (q_z f1367 u0 3) nn := by rw [ef1367, q_setz (Or.inr (by decide))]; exact z1353
  have z1370 : q_is (q_z f1367 v 3) nn := by rw [ef1367, q_setz (Or.inr (by decide))]; exact z1354
  have z1371 : q_is (q_z f1367 u0 4) x1335 := by rw [ef1367, q_setz (Or.inr (by decide))]; exact z1355
  have z1372 : q_is (q_z f1367 v 4) x1335 := by rw [ef1367, q_setz (Or.inr (by decide))]; exact z1356
  have z1373 : q_is (q_z f1367 u0 5) x1349 := by rw [ef1367, q_setz (Or.inr (by decide))]; exact z1357
  have z1374 : q_is (q_z f1367 v 5) x1349 := by rw [ef1367, q_setz (Or.inr (by decide))]; exact z1352
  have z1375 : q_is (q_z f1367 u0 6) x1365 := by rw [ef1367, q_setz (Or.inl (fun q => by rw [q, kv] at ku0; exact absurd ku0 (by decide)))]; exact ex1365
  have z1376 : q_ir (q_r f1367 v 0) ndv := by rw [ef1367, q_setr (Or.inr (by decide))]; exact z1358
  have z1377 : q_ir (q_r f1367 u0 0) ndp := by rw [ef1367, q_setr (Or.inr (by decide))]; exact z1359
  have g1378 : tk_vn K L 5 f1367 u0 ndp nl9 := tk_vn_tr g1360 (by rw [ef1367, q_setz (Or.inr (by decide))]) (fun a9 h9 k9 => by rw [ef1367, q_setj (Or.inl (fun q => by rw [q, kv] at k9; exact absurd k9 (by decide)))]) (fun i9 => by rw [ef1367, q_setr (Or.inl (fun q => by rw [q, kv] at kndp; exact absurd kndp (by decide)))])
  have g1379 : tk_ik K L 20 f1367 ndv := tk_ik_tr g1361 (fun i9 => by rw [ef1367, q_setr (Or.inl (fun q => by rw [q, kv] at kndv; exact absurd kndv (by decide)))])
  have g1380 : ∀ i9 : Nat, q_r f1367 ndv i9 = q_r f ndv i9 := tk_rv_tr g1362 (fun i9 => by rw [ef1367, q_setr (Or.inl (fun q => by rw [q, kv] at kndv; exact absurd kndv (by decide)))])
  have g1381 : ∀ u9 : Nat, u9 ∈ L → K u9 = 16 → u9 ≠ v → q_z f1367 u9 3 = q_z f u9 3 := tk_o3_tr g1363 (fun a9 h9 k9 n9 => by rw [ef1367, q_setz (Or.inr (by decide))])
  have g1382 : ∀ a9 : Nat, a9 ∈ L → K a9 = 20 → (∀ i9 : Nat, i9 < 10 → a9 ≠ q_r f ndv i9) → q_j f1367 a9 0 = q_j f a9 0 := tk_o0_tr g1364 (fun a9 h9 k9 => by rw [ef1367, q_setj (Or.inl (fun q => by rw [q, kv] at k9; exact absurd k9 (by decide)))])
  refine q_ald_n cx dX10_copyFrom_32 rfl (lv_at hl 0 rfl) ?_
  refine q_ald_n cx dX10_copyFrom_33 rfl (lv_at hl 1 rfl) ?_
  obtain ⟨x1383, ex1383⟩ : ∃ zz, q_is (q_z f1367 u0 7) zz := ⟨_, q_isr _⟩
  refine q_gX10_48 cx hB hu0 ku0 ex1383 dX10_copyFrom_34 (fun lb1384 ub1384 => ?_)
  refine q_pX10_48_16 cx hB hv kv ⟨by omega, by omega⟩ (by omega) (by omega) rfl dX10_copyFrom_37 (fun H locs f1385 ef1385 z1386 hB => ?_)
  have z1387 : q_is (q_z f1385 u0 3) nn := by rw [ef1385, q_setz (Or.inr (by decide))]; exact z1369
  have z1388 : q_is (q_z f1385 v 3) nn := by rw [ef1385, q_setz (Or.inr (by decide))]; exact z1370
  have z1389 : q_is (q_z f1385 u0 4) x1335 := by rw [ef1385, q_setz (Or.inr (by decide))]; exact z1371
  have z1390 : q_is (q_z f1385 v 4) x1335 := by rw [ef1385, q_setz (Or.inr (by decide))]; exact z1372
  have z1391 : q_is (q_z f1385 u0 5) x1349 := by rw [ef1385, q_setz (Or.inr (by decide))]; exact z1373
  have z1392 : q_is (q_z f1385 v 5) x1349 := by rw [ef1385, q_setz (Or.inr (by decide))]; exact z1374
  have z1393 : q_is (q_z f1385 u0 6) x1365 := by rw [ef1385, q_setz (Or.inr (by decide))]; exact z1375
  have z1394 : q_is (q_z f1385 v 6) x1365 := by rw [ef1385, q_setz (Or.inr (by decide))]; exact z1368
  have z1395 : q_is (q_z f1385 u0 7) x1383 := by rw [ef1385, q_setz (Or.inl (fun q => by rw [q, kv] at ku0; exact absurd ku0 (by decide)))]; exact ex1383
  have z1396 : q_ir (q_r f1385 v 0) ndv := by rw [ef1385, q_setr (Or.inr (by decide))]; exact z1376
  have z1397 : q_ir (q_r f1385 u0 0) ndp := by rw [ef1385, q_setr (Or.inr (by decide))]; exact z1377
  have g1398 : tk_vn K L 5 f1385 u0 ndp nl9 := tk_vn_tr g1378 (by rw [ef1385, q_setz (Or.inr (by decide))]) (fun a9 h9 k9 => by rw [ef1385, q_setj (Or.inl (fun q => by rw [q, kv] at k9; exact absurd k9 (by decide)))]) (fun i9 => by rw [ef1385, q_setr (Or.inl (fun q => by rw [q, kv] at kndp; exact absurd kndp (by decide)))])
  have g1399 : tk_ik K L 20 f1385 ndv := tk_ik_tr g1379 (fun i9 => by rw [ef1385, q_setr (Or.inl (fun q => by rw [q, kv] at kndv; exact absurd kndv (by decide)))])
  have g1400 : ∀ i9 : Nat, q_r f1385 ndv i9 = q_r f ndv i9 := tk_rv_tr g1380 (fun i9 => by rw [ef1385, q_setr (Or.inl (fun q => by rw [q, kv] at kndv; exact absurd kndv (by decide)))])
  have g1401 : ∀ u9 : Nat, u9 ∈ L → K u9 = 16 → u9 ≠ v → q_z f1385 u9 3 = q_z f u9 3 := tk_o3_tr g1381 (fun a9 h9 k9 n9 => by rw [ef1385, q_setz (Or.inr (by decide))])
  have g1402 : ∀ a9 : Nat, a9 ∈ L → K a9 = 20 → (∀ i9 : Nat, i9 < 10 → a9 ≠ q_r f ndv i9) → q_j f1385 a9 0 = q_j f a9 0 := tk_o0_tr g1382 (fun a9 h9 k9 => by rw [ef1385, q_setj (Or.inl (fun q => by rw [q, kv] at k9; exact absurd k9 (by decide)))])
  refine q_ald_n cx dX10_copyFrom_40 rfl (lv_at hl 0 rfl) ?_
  refine q_ald_n cx dX10_copyFrom_41 rfl (lv_at hl 1 rfl) ?_
  obtain ⟨x1403, ex1403⟩ : ∃ zz, q_is (q_z f1385 u0 8) zz := ⟨_, q_isr _⟩
  refine q_gX10_51 cx hB hu0 ku0 ex1403 dX10_copyFrom_42 (fun lb1404 ub1404 => ?_)
  refine q_pX10_51_16 cx hB hv kv ⟨by omega, by omega⟩ (by omega) (by omega) rfl dX10_copyFrom_45 (fun H locs f1405 ef1405 z1406 hB => ?_)
  have z1407 : q_is (q_z f1405 u0 3) nn := by rw [ef1405, q_setz (Or.inr (by decide))]; exact z1387
  have z1408 : q_is (q_z f1405 v 3) nn := by rw [ef1405, q_setz (Or.inr (by decide))]; exact z1388
  have z1409 : q_is (q_z f1405 u0 4) x1335 := by rw [ef1405, q_setz (Or.inr (by decide))]; exact z1389
  have z1410 : q_is (q_z f1405 v 4) x1335 := by rw [ef1405, q_setz (Or.inr (by decide))]; exact z1390
  have z1411 : q_is (q_z f1405 u0 5) x1349 := by rw [ef1405, q_setz (Or.inr (by decide))]; exact z1391
  have z1412 : q_is (q_z f1405 v 5) x1349 := by rw [ef1405, q_setz (Or.inr (by decide))]; exact z1392
  have z1413 : q_is (q_z f1405 u0 6) x1365 := by rw [ef1405, q_setz (Or.inr (by decide))]; exact z1393
  have z1414 : q_is (q_z f1405 v 6) x1365 := by rw [ef1405, q_setz (Or.inr (by decide))]; exact z1394
  have z1415 : q_is (q_z f1405 u0 7) x1383 := by rw [ef1405, q_setz (Or.inr (by decide))]; exact z1395
  have z1416 : q_is (q_z f1405 v 7) x1383 := by rw [ef1405, q_setz (Or.inr (by decide))]; exact z1386
  have z1417 : q_is (q_z f1405 u0 8) x1403 := by rw [ef1405, q_setz (Or.inl (fun q => by rw [q, kv] at ku0; exact absurd ku0 (by decide)))]; exact ex1403
  have z1418 : q_ir (q_r f1405 v 0) ndv := by rw [ef1405, q_setr (Or.inr (by decide))]; exact z1396
  have z1419 : q_ir (q_r f1405 u0 0) ndp := by rw [ef1405, q_setr (Or.inr (by decide))]; exact z1397
  have g1420 : tk_vn K L 5 f1405 u0 ndp nl9 := tk_vn_tr g1398 (by rw [ef1405, q_setz (Or.inr (by decide))]) (fun a9 h9 k9 => by rw [ef1405, q_setj (Or.inl (fun q => by rw [q, kv] at k9; exact absurd k9 (by decide)))]) (fun i9 => by rw [ef1405, q_setr (Or.inl (fun q => by rw [q, kv] at kndp; exact absurd kndp (by decide)))])
  have g1421 : tk_ik K L 20 f1405 ndv := tk_ik_tr g1399 (fun i9 => by rw [ef1405, q_setr (Or.inl (fun q => by rw [q, kv] at kndv; exact absurd kndv (by decide)))])
  have g1422 : ∀ i9 : Nat, q_r f1405 ndv i9 = q_r f ndv i9 := tk_rv_tr g1400 (fun i9 => by rw [ef1405, q_setr (Or.inl (fun q => by rw [q, kv] at kndv; exact absurd kndv (by decide)))])
  have g1423 : ∀ u9 : Nat, u9 ∈ L → K u9 = 16 → u9 ≠ v → q_z f1405 u9 3 = q_z f u9 3 := tk_o3_tr g1401 (fun a9 h9 k9 n9 => by rw [ef1405, q_setz (Or.inr (by decide))])
  have g1424 : ∀ a9 : Nat, a9 ∈ L → K a9 = 20 → (∀ i9 : Nat, i9 < 10 → a9 ≠ q_r f ndv i9) → q_j f1405 a9 0 = q_j f a9 0 := tk_o0_tr g1402 (fun a9 h9 k9 => by rw [ef1405, q_setj (Or.inl (fun q => by rw [q, kv] at k9; exact absurd k9 (by decide)))])
  refine q_ald_n cx dX10_copyFrom_48 rfl (lv_at hl 0 rfl) ?_
  refine q_ald_n cx dX10_copyFrom_49 rfl (lv_at hl 1 rfl) ?_
  obtain ⟨x1425, ex1425⟩ : ∃ zz, q_is (q_z f1405 u0 9) zz := ⟨_, q_isr _⟩
  refine q_gX10_54 cx hB hu0 ku0 ex1425 dX10_copyFrom_50 (fun lb1426 ub1426 => ?_)
  refine q_pX10_54_16 cx hB hv kv ⟨by omega, by omega⟩ (by omega) (by omega) rfl dX10_copyFrom_53 (fun H locs f1427 ef1427 z1428 hB => ?_)
  have z1429 : q_is (q_z f1427 u0 3) nn := by rw [ef1427, q_setz (Or.inr (by decide))]; exact z1407
  have z1430 : q_is (q_z f1427 v 3) nn := by rw [ef1427, q_setz (Or.inr (by decide))]; exact z1408
  have z1431 : q_is (q_z f1427 u0 4) x1335 := by rw [ef1427, q_setz (Or.inr (by decide))]; exact z1409
  have z1432 : q_is (q_z f1427 v 4) x1335 := by rw [ef1427, q_setz (Or.inr (by decide))]; exact z1410
  have z1433 : q_is (q_z f1427 u0 5) x1349 := by rw [ef1427, q_setz (Or.inr (by decide))]; exact z1411
  have z1434 : q_is (q_z f1427 v 5) x1349 := by rw [ef1427, q_setz (Or.inr (by decide))]; exact z1412
  have z1435 : q_is (q_z f1427 u0 6) x1365 := by rw [ef1427, q_setz (Or.inr (by decide))]; exact z1413
  have z1436 : q_is (q_z f1427 v 6) x1365 := by rw [ef1427, q_setz (Or.inr (by decide))]; exact z1414
  have z1437 : q_is (q_z f1427 u0 7) x1383 := by rw [ef1427, q_setz (Or.inr (by decide))]; exact z1415
  have z1438 : q_is (q_z f1427 v 7) x1383 := by rw [ef1427, q_setz (Or.inr (by decide))]; exact z1416
  have z1439 : q_is (q_z f1427 u0 8) x1403 := by rw [ef1427, q_setz (Or.inr (by decide))]; exact z1417
  have z1440 : q_is (q_z f1427 v 8) x1403 := by rw [ef1427, q_setz (Or.inr (by decide))]; exact z1406
  have z1441 : q_is (q_z f1427 u0 9) x1425 := by rw [ef1427, q_setz (Or.inl (fun q => by rw [q, kv] at ku0; exact absurd ku0 (by decide)))]; exact ex1425
  have z1442 : q_ir (q_r f1427 v 0) ndv := by rw [ef1427, q_setr (Or.inr (by decide))]; exact z1418
  have z1443 : q_ir (q_r f1427 u0 0) ndp := by rw [ef1427, q_setr (Or.inr (by decide))]; exact z1419
  have g1444 : tk_vn K L 5 f1427 u0 ndp nl9 := tk_vn_tr g1420 (by rw [ef1427, q_setz (Or.inr (by decide))]) (fun a9 h9 k9 => by rw [ef1427, q_setj (Or.inl (fun q => by rw [q, kv] at k9; exact absurd k9 (by decide)))]) (fun i9 => by rw [ef1427, q_setr (Or.inl (fun q => by rw [q, kv] at kndp; exact absurd kndp (by decide)))])
  have g1445 : tk_ik K L 20 f1427 ndv := tk_ik_tr g1421 (fun i9 => by rw [ef1427, q_setr (Or.inl (fun q => by rw [q, kv] at kndv; exact absurd kndv (by decide)))])
  have g1446 : ∀ i9 : Nat, q_r f1427 ndv i9 = q_r f ndv i9 := tk_rv_tr g1422 (fun i9 => by rw [ef1427, q_setr (Or.inl (fun q => by rw [q, kv] at kndv; exact absurd kndv (by decide)))])
  have g1447 : ∀ u9 : Nat, u9 ∈ L → K u9 = 16 → u9 ≠ v → q_z f1427 u9 3 = q_z f u9 3 := tk_o3_tr g1423 (fun a9 h9 k9 n9 => by rw [ef1427, q_setz (Or.inr (by decide))])
  have g1448 : ∀ a9 : Nat, a9 ∈ L → K a9 = 20 → (∀ i9 : Nat, i9 < 10 → a9 ≠ q_r f ndv i9) → q_j f1427 a9 0 = q_j f a9 0 := tk_o0_tr g1424 (fun a9 h9 k9 => by rw [ef1427, q_setj (Or.inl (fun q => by rw [q, kv] at k9; exact absurd k9 (by decide)))])
  refine q_ald_n cx dX10_copyFrom_56 rfl (lv_at hl 0 rfl) ?_
  refine q_ald_n cx dX10_copyFrom_57 rfl (lv_at hl 1 rfl) ?_
  obtain ⟨x1449, ex1449⟩ : ∃ zz, q_is (q_z f1427 u0 10) zz := ⟨_, q_isr _⟩
  refine q_gX10_57 cx hB hu0 ku0 ex1449 dX10_copyFrom_58 (fun lb1450 ub1450 => ?_)
  refine q_pX10_57_16 cx hB hv kv ⟨by omega, by omega⟩ (by omega) (by omega) rfl dX10_copyFrom_61 (fun H locs f1451 ef1451 z1452 hB => ?_)
  have z1453 : q_is (q_z f1451 u0 3) nn := by rw [ef1451, q_setz (Or.inr (by decide))]; exact z1429
  have z1454 : q_is (q_z f1451 v 3) nn := by rw [ef1451, q_setz (Or.inr (by decide))]; exact z1430
  have z1455 : q_is (q_z f1451 u0 4) x1335 := by rw [ef1451, q_setz (Or.inr (by decide))]; exact z1431
  have z1456 : q_is (q_z f1451 v 4) x1335 := by rw [ef1451, q_setz (Or.inr (by decide))]; exact z1432
  have z1457 : q_is (q_z f1451 u0 5) x1349 := by rw [ef1451, q_setz (Or.inr (by decide))]; exact z1433
  have z1458 : q_is (q_z f1451 v 5) x1349 := by rw [ef1451, q_setz (Or.inr (by decide))]; exact z1434
  have z1459 : q_is (q_z f1451 u0 6) x1365 := by rw [ef1451, q_setz (Or.inr (by decide))]; exact z1435
  have z1460 : q_is (q_z f1451 v 6) x1365 := by rw [ef1451, q_setz (Or.inr (by decide))]; exact z1436
  have z1461 : q_is (q_z f1451 u0 7) x1383 := by rw [ef1451, q_setz (Or.inr (by decide))]; exact z1437
  have z1462 : q_is (q_z f1451 v 7) x1383 := by rw [ef1451, q_setz (Or.inr (by decide))]; exact z1438
  have z1463 : q_is (q_z f1451 u0 8) x1403 := by rw [ef1451, q_setz (Or.inr (by decide))]; exact z1439
  have z1464 : q_is (q_z f1451 v 8) x1403 := by rw [ef1451, q_setz (Or.inr (by decide))]; exact z1440
  have z1465 : q_is (q_z f1451 u0 9) x1425 := by rw [ef1451, q_setz (Or.inr (by decide))]; exact z1441
  have z1466 : q_is (q_z f1451 v 9) x1425 := by rw [ef1451, q_setz (Or.inr (by decide))]; exact z1428
  have z1467 : q_is (q_z f1451 u0 10) x1449 := by rw [ef1451, q_setz (Or.inl (fun q => by rw [q, kv] at ku0; exact absurd ku0 (by decide)))]; exact ex1449
  have z1468 : q_ir (q_r f1451 v 0) ndv := by rw [ef1451, q_setr (Or.inr (by decide))]; exact z1442
  have z1469 : q_ir (q_r f1451 u0 0) ndp := by rw [ef1451, q_setr (Or.inr (by decide))]; exact z1443
  have g1470 : tk_vn K L 5 f1451 u0 ndp nl9 := tk_vn_tr g1444 (by rw [ef1451, q_setz (Or.inr (by decide))]) (fun a9 h9 k9 => by rw [ef1451, q_setj (Or.inl (fun q => by rw [q, kv] at k9; exact absurd k9 (by decide)))]) (fun i9 => by rw [ef1451, q_setr (Or.inl (fun q => by rw [q, kv] at kndp; exact absurd kndp (by decide)))])
  have g1471 : tk_ik K L 20 f1451 ndv := tk_ik_tr g1445 (fun i9 => by rw [ef1451, q_setr (Or.inl (fun q => by rw [q, kv] at kndv; exact absurd kndv (by decide)))])
  have g1472 : ∀ i9 : Nat, q_r f1451 ndv i9 = q_r f ndv i9 := tk_rv_tr g1446 (fun i9 => by rw [ef1451, q_setr (Or.inl (fun q => by rw [q, kv] at kndv; exact absurd kndv (by decide)))])
  have g1473 : ∀ u9 : Nat, u9 ∈ L → K u9 = 16 → u9 ≠ v → q_z f1451 u9 3 = q_z f u9 3 := tk_o3_tr g1447 (fun a9 h9 k9 n9 => by rw [ef1451, q_setz (Or.inr (by decide))])
  have g1474 : ∀ a9 : Nat, a9 ∈ L → K a9 = 20 → (∀ i9 : Nat, i9 < 10 → a9 ≠ q_r f ndv i9) → q_j f1451 a9 0 = q_j f a9 0 := tk_o0_tr g1448 (fun a9 h9 k9 => by rw [ef1451, q_setj (Or.inl (fun q => by rw [q, kv] at k9; exact absurd k9 (by decide)))])
  refine q_ald_n cx dX10_copyFrom_64 rfl (lv_at hl 0 rfl) ?_
  refine q_ald_n cx dX10_copyFrom_65 rfl (lv_at hl 1 rfl) ?_
  obtain ⟨x1475, ex1475⟩ : ∃ zz, q_is (q_z f1451 u0 11) zz := ⟨_, q_isr _⟩
  refine q_gX10_60 cx hB hu0 ku0 ex1475 dX10_copyFrom_66 (fun lb1476 ub1476 => ?_)
  refine q_pX10_60_16 cx hB hv kv ⟨by omega, by omega⟩ (by omega) (by omega) rfl dX10_copyFrom_69 (fun H locs f1477 ef1477 z1478 hB => ?_)
  have z1479 : q_is (q_z f1477 u0 3) nn := by rw [ef1477, q_setz (Or.inr (by decide))]; exact z1453
  have z1480 : q_is (q_z f1477 v 3) nn := by rw [ef1477, q_setz (Or.inr (by decide))]; exact z1454
  have z1481 : q_is (q_z f1477 u0 4) x1335 := by rw [ef1477, q_setz (Or.inr (by decide))]; exact z1455
  have z1482 : q_is (q_z f1477 v 4) x1335 := by rw [ef1477, q_setz (Or.inr (by decide))]; exact z1456
  have z1483 : q_is (q_z f1477 u0 5) x1349 := by rw [ef1477, q_setz (Or.inr (by decide))]; exact z1457
  have z1484 : q_is (q_z f1477 v 5) x1349 := by rw [ef1477, q_setz (Or.inr (by decide))]; exact z1458
  have z1485 : q_is (q_z f1477 u0 6) x1365 := by rw [ef1477, q_setz (Or.inr (by decide))]; exact z1459
  have z1486 : q_is (q_z f1477 v 6) x1365 := by rw [ef1477, q_setz (Or.inr (by decide))]; exact z1460
  have z1487 : q_is (q_z f1477 u0 7) x1383 := by rw [ef1477, q_setz (Or.inr (by decide))]; exact z1461
  have z1488 : q_is (q_z f1477 v 7) x1383 := by rw [ef1477, q_setz (Or.inr (by decide))]; exact z1462
  have z1489 : q_is (q_z f1477 u0 8) x1403 := by rw [ef1477, q_setz (Or.inr (by decide))]; exact z1463
  have z1490 : q_is (q_z f1477 v 8) x1403 := by rw [ef1477, q_setz (Or.inr (by decide))]; exact z1464
  have z1491 : q_is (q_z f1477 u0 9) x1425 := by rw [ef1477, q_setz (Or.inr (by decide))]; exact z1465
  have z1492 : q_is (q_z f1477 v 9) x1425 := by rw [ef1477, q_setz (Or.inr (by decide))]; exact z1466
  have z1493 : q_is (q_z f1477 u0 10) x1449 := by rw [ef1477, q_setz (Or.inr (by decide))]; exact z1467
  have z1494 : q_is (q_z f1477 v 10) x1449 := by rw [ef1477, q_setz (Or.inr (by decide))]; exact z1452
  have z1495 : q_is (q_z f1477 u0 11) x1475 := by rw [ef1477, q_setz (Or.inl (fun q => by rw [q, kv] at ku0; exact absurd ku0 (by decide)))]; exact ex1475
  have z1496 : q_ir (q_r f1477 v 0) ndv := by rw [ef1477, q_setr (Or.inr (by decide))]; exact z1468
  have z1497 : q_ir (q_r f1477 u0 0) ndp := by rw [ef1477, q_setr (Or.inr (by decide))]; exact z1469
  have g1498 : tk_vn K L 5 f1477 u0 ndp nl9 := tk_vn_tr g1470 (by rw [ef1477, q_setz (Or.inr (by decide))]) (fun a9 h9 k9 => by rw [ef1477, q_setj (Or.inl (fun q => by rw [q, kv] at k9; exact absurd k9 (by decide)))]) (fun i9 => by rw [ef1477, q_setr (Or.inl (fun q => by rw [q, kv] at kndp; exact absurd kndp (by decide)))])
  have g1499 : tk_ik K L 20 f1477 ndv := tk_ik_tr g1471 (fun i9 => by rw [ef1477, q_setr (Or.inl (fun q => by rw [q, kv] at kndv; exact absurd kndv (by decide)))])
  have g1500 : ∀ i9 : Nat, q_r f1477 ndv i9 = q_r f ndv i9 := tk_rv_tr g1472 (fun i9 => by rw [ef1477, q_setr (Or.inl (fun q => by rw [q, kv] at kndv; exact absurd kndv (by decide)))])
  have g1501 : ∀ u9 : Nat, u9 ∈ L → K u9 = 16 → u9 ≠ v → q_z f1477 u9 3 = q_z f u9 3 := tk_o3_tr g1473 (fun a9 h9 k9 n9 => by rw [ef1477, q_setz (Or.inr (by decide))])
  have g1502 : ∀ a9 : Nat, a9 ∈ L → K a9 = 20 → (∀ i9 : Nat, i9 < 10 → a9 ≠ q_r f ndv i9) → q_j f1477 a9 0 = q_j f a9 0 := tk_o0_tr g1474 (fun a9 h9 k9 => by rw [ef1477, q_setj (Or.inl (fun q => by rw [q, kv] at k9; exact absurd k9 (by decide)))])
  refine q_ald_n cx dX10_copyFrom_72 rfl (lv_at hl 0 rfl) ?_
  refine q_ald_n cx dX10_copyFrom_73 rfl (lv_at hl 1 rfl) ?_
  obtain ⟨x1503, ex1503⟩ : ∃ zz, q_is (q_z f1477 u0 12) zz := ⟨_, q_isr _⟩
  refine q_gX10_63 cx hB hu0 ku0 ex1503 dX10_copyFrom_74 (fun lb1504 ub1504 => ?_)
  refine q_pX10_63_16 cx hB hv kv ⟨by omega, by omega⟩ (by omega) (by omega) rfl dX10_copyFrom_77 (fun H locs f1505 ef1505 z1506 hB => ?_)
  have z1507 : q_is (q_z f1505 u0 3) nn := by rw [ef1505, q_setz (Or.inr (by decide))]; exact z1479
  have z1508 : q_is (q_z f1505 v 3) nn := by rw [ef1505, q_setz (Or.inr (by decide))]; exact z1480
  have z1509 : q_is (q_z f1505 u0 4) x1335 := by rw [ef1505, q_setz (Or.inr (by decide))]; exact z1481
  have z1510 : q_is (q_z f1505 v 4) x1335 := by rw [ef1505, q_setz (Or.inr (by decide))]; exact z1482
  have z1511 : q_is (q_z f1505 u0 5) x1349 := by rw [ef1505, q_setz (Or.inr (by decide))]; exact z1483
  have z1512 : q_is (q_z f1505 v 5) x1349 := by rw [ef1505, q_setz (Or.inr (by decide))]; exact z1484
  have z1513 : q_is (q_z f1505 u0 6) x1365 := by rw [ef1505, q_setz (Or.inr (by decide))]; exact z1485
  have z1514 : q_is (q_z f1505 v 6) x1365 := by rw [ef1505, q_setz (Or.inr (by decide))]; exact z1486
  have z1515 : q_is (q_z f1505 u0 7) x1383 := by rw [ef1505, q_setz (Or.inr (by decide))]; exact z1487
  have z1516 : q_is (q_z f1505 v 7) x1383 := by rw [ef1505, q_setz (Or.inr (by decide))]; exact z1488
  have z1517 : q_is (q_z f1505 u0 8) x1403 := by rw [ef1505, q_setz (Or.inr (by decide))]; exact z1489
  have z1518 : q_is (q_z f1505 v 8) x1403 := by rw [ef1505, q_setz (Or.inr (by decide))]; exact z1490
  have z1519 : q_is (q_z f1505 u0 9) x1425 := by rw [ef1505, q_setz (Or.inr (by decide))]; exact z1491
  have z1520 : q_is (q_z f1505 v 9) x1425 := by rw [ef1505, q_setz (Or.inr (by decide))]; exact z1492
  have z1521 : q_is (q_z f1505 u0 10) x1449 := by rw [ef1505, q_setz (Or.inr (by decide))]; exact z1493
  have z1522 : q_is (q_z f1505 v 10) x1449 := by rw [ef1505, q_setz (Or.inr (by decide))]; exact z1494
  have z1523 : q_is (q_z f1505 u0 11) x1475 := by rw [ef1505, q_setz (Or.inr (by decide))]; exact z1495
  have z1524 : q_is (q_z f1505 v 11) x1475 := by rw [ef1505, q_setz (Or.inr (by decide))]; exact z1478
  have z1525 : q_is (q_z f1505 u0 12) x1503 := by rw [ef1505, q_setz (Or.inl (fun q => by rw [q, kv] at ku0; exact absurd ku0 (by decide)))]; exact ex1503
  have z1526 : q_ir (q_r f1505 v 0) ndv := by rw [ef1505, q_setr (Or.inr (by decide))]; exact z1496
  have z1527 : q_ir (q_r f1505 u0 0) ndp := by rw [ef1505, q_setr (Or.inr (by decide))]; exact z1497
  have g1528 : tk_vn K L 5 f1505 u0 ndp nl9 := tk_vn_tr g1498 (by rw [ef1505, q_setz (Or.inr (by decide))]) (fun a9 h9 k9 => by rw [ef1505, q_setj (Or.inl (fun q => by rw [q, kv] at k9; exact absurd k9 (by decide)))]) (fun i9 => by rw [ef1505, q_setr (Or.inl (fun q => by rw [q, kv] at kndp; exact absurd kndp (by decide)))])
  have g1529 : tk_ik K L 20 f1505 ndv := tk_ik_tr g1499 (fun i9 => by rw [ef1505, q_setr (Or.inl (fun q => by rw [q, kv] at kndv; exact absurd kndv (by decide)))])
  have g1530 : ∀ i9 : Nat, q_r f1505 ndv i9 = q_r f ndv i9 := tk_rv_tr g1500 (fun i9 => by rw [ef1505, q_setr (Or.inl (fun q => by rw [q, kv] at kndv; exact absurd kndv (by decide)))])
  have g1531 : ∀ u9 : Nat, u9 ∈ L → K u9 = 16 → u9 ≠ v → q_z f1505 u9 3 = q_z f u9 3 := tk_o3_tr g1501 (fun a9 h9 k9 n9 => by rw [ef1505, q_setz (Or.inr (by decide))])
  have g1532 : ∀ a9 : Nat, a9 ∈ L → K a9 = 20 → (∀ i9 : Nat, i9 < 10 → a9 ≠ q_r f ndv i9) → q_j f1505 a9 0 = q_j f a9 0 := tk_o0_tr g1502 (fun a9 h9 k9 => by rw [ef1505, q_setj (Or.inl (fun q => by rw [q, kv] at k9; exact absurd k9 (by decide)))])
  refine q_iconst cx dX10_copyFrom_80 ?_
  refine lv_istore_n (lv' := [(2, .int (q_i 0)), (0, .ref v), (1, .ref u0)]) cx.1 cx.2.1 dX10_copyFrom_81 rfl hl (by decide) rfl (fun ls hl => ?_)
  exact J82 ((Int.toNat (2147483647 - 0)) + 1) f1505 0 (by decide) (by decide) z1507 z1508 z1526 z1527 g1529 g1532 g1531 g1530 g1528 (fun j hj => absurd hj (by omega)) (Nat.lt_succ_self _) H locs hB ls (lv_sub hl [1, 2, 0] rfl)
set_option maxHeartbeats 4000000 in
set_option maxRecDepth 100000 in
theorem f_keep (l : Launch) (g : q_G) {K : Nat → Nat} {L : List Nat} (hN : L.Nodup) {f : Nat → va_E} (hT : q_Ty g K L f) (nl9 : List (List Int)) (hist : Nat) (hhist : hist ∈ L) (khist : K hist = 2) (now : Nat) (hnow : now ∈ L) (know : K now = 10) (ka : Nat) (hka : ka ∈ L) (kka : K ka = 140) (ndn : Nat) (hndn : ndn ∈ L) (kndn : K ndn = 110) (hr0 : q_ir (q_r f hist 0) ka) (hr1 : q_ir (q_r f now 0) ndn) (hvn : tk_vn K L 5 f now ndn nl9) (hvk : tk_vk K L f hist ka now ndn) : q_Ct l g K L yX2_keep cX2_keep 2 none 2 43 [.ref hist, .ref now] f [(2, 1, 2), (16, 3, 12), (20, 0, 8), (24, 0, 4), (28, 0, 7)] (q_Pv (fun (f1 : Nat → va_E) => (tk_vk K L f1 hist ka now ndn))) := by
  refine q_ofb (by decide +kernel) hN hT (Nat.le_of_ble_eq_true rfl) ?_
  intro p e s m below meth c ls cx hr hlk hB hl
  have hl : lv_has ls 2 [(0, .ref hist), (1, .ref now)] := hl
  obtain ⟨H, hH⟩ : ∃ H : Heap, H = s.heap := ⟨_, rfl⟩
  obtain ⟨locs, hlocs⟩ : ∃ z : List Loc, z = [] := ⟨_, rfl⟩
  rw [← hH, ← hlocs] at hB
  rw [← hH, ← hlocs]
  obtain ⟨x124, ex124⟩ : ∃ zz, q_is (q_z f hist 1) zz := ⟨_, q_isr _⟩
  obtain ⟨lx124, ux124⟩ : 0 ≤ x124 ∧ x124 ≤ 6 := q_isb ex124 hvk.2.1.1
  obtain ⟨x125, ex125⟩ : ∃ zz, q_is (q_z f hist 2) zz := ⟨_, q_isr _⟩
  obtain ⟨lx125, ux125⟩ : 0 ≤ x125 ∧ x125 ≤ 6 := q_isb ex125 hvk.2.1.2
  have g126 : tk_fr K L f f ka ndn now := tk_fr_0
  refine q_ald_n cx dX2_keep_0 rfl (lv_at hl 0 rfl) ?_
  refine q_gX2_20 cx hB hhist khist ex124 dX2_keep_1 (fun lb127 ub127 => ?_)
  refine q_iflt (tgt := 19) cx ⟨by omega, by omega⟩ dX2_keep_4 (by decide) (fun c128 => ?_) (fun c128 => ?_)
  · exact absurd c128 (by omega)
  · refine q_ald_n cx dX2_keep_7 rfl (lv_at hl 0 rfl) ?_
    refine q_gX2_20 cx hB hhist khist ex124 dX2_keep_8 (fun lb129 ub129 => ?_)
    refine q_ald_n cx dX2_keep_11 rfl (lv_at hl 0 rfl) ?_
    refine q_gX2_11 cx hB hhist khist hr0 dX2_keep_12 (fun hb130 kb130 => ?_)
    refine q_alen (n := 6) cx hB hka kka (by decide) rfl 8 rfl rfl dX2_keep_15 ?_
    refine q_iclt (tgt := 24) cx ⟨by omega, by omega⟩ ⟨by decide, by decide⟩ dX2_keep_16 (by decide) (fun c131 => ?_) (fun c131 => ?_)
    · refine q_ald_n cx dX2_keep_24 rfl (lv_at hl 0 rfl) ?_
      refine q_gX2_11 cx hB hhist khist hr0 dX2_keep_25 (fun hb132 kb132 => ?_)
      refine q_ald_n cx dX2_keep_28 rfl (lv_at hl 0 rfl) ?_
      refine q_gX2_20 cx hB hhist khist ex124 dX2_keep_29 (fun lb133 ub133 => ?_)
      obtain ⟨p134, ep134⟩ : ∃ zz, q_ir (q_r f ka (Int.toNat x124)) zz := ⟨_, q_irr _⟩
      refine q_aald (k2 := 16) (n := 6) cx hB hka kka (by decide) rfl 8 rfl (by decide) rfl (by omega) (by omega) (by decide) rfl ep134 dX2_keep_32 (fun hb135 kb135 => ?_)
      refine q_ald_n cx dX2_keep_33 rfl (lv_at hl 1 rfl) ?_
      have g136 : tk_ks K L f ka := tk_ks_tr hvk.1.1 g126.1 g126.2.2.1 g126.2.2.2.1
      obtain ⟨⟨hu9, ku9⟩, ⟨hd9, kd9⟩, hik9, -⟩ := g136 (Int.toNat x124) (by omega)
      have ey9 : q_r f ka (Int.toNat x124) = p134 := ep134
      rw [ey9] at hd9 kd9 hik9
      obtain ⟨pu9, epu9⟩ : ∃ zz, q_ir (q_r f p134 0) zz := ⟨_, q_irr _⟩
      have epu8 : q_r f p134 0 = pu9 := epu9
      rw [epu8] at hd9 kd9 hik9
      obtain ⟨x137, ex137⟩ : ∃ zz, q_is (q_z f now 3) zz := ⟨_, q_isr _⟩
      obtain ⟨lx137, ux137⟩ := q_isb ex137 (q_fib hB.2.1 hnow know (by decide) rfl)
      refine q_cVv (As := [.ref now]) (rest := []) cx hB (fun _ h => h) hN hb135 kb135 (by decide) rfl (f_vcopy40 l g hN hB.2.1 nl9 p134 hb135 kb135 now hnow know pu9 hd9 kd9 ndn hndn kndn x137 (by omega) (by omega) ex137 epu9 hr1 hvn hik9) q_cX2_23 q_dX10_copyFrom (by decide) rfl rfl hl.1 rfl (Nat.le_of_ble_eq_true rfl) dX2_keep_34 (fun H locs f138 h140 hF hB => ?_)
      obtain ⟨z141, t142, t143, t144⟩ := h140
      have z145 : q_is (q_z f138 hist 1) x124 := Eq.trans (hF.z hhist (by rw [khist]; rfl)) ex124
      have z146 : q_is (q_z f138 hist 2) x125 := Eq.trans (hF.z hhist (by rw [khist]; rfl)) ex125
      have z147 : q_is (q_z f138 now 3) x137 := Eq.trans (hF.z hnow (by rw [know]; rfl)) ex137
      have z148 : q_ir (q_r f138 hist 0) ka := Eq.trans (hF.r hhist (by rw [khist]; rfl)) hr0
      have z149 : q_ir (q_r f138 now 0) ndn := Eq.trans (hF.r hnow (by rw [know]; rfl)) hr1
      have z150 : q_ir (q_r f138 p134 0) pu9 := Eq.trans (hF.r hb135 (by rw [kb135]; rfl)) epu9
      have g151 : tk_vn K L 5 f138 now ndn nl9 := tk_vn_tr hvn (hF.z hnow (by rw [know]; rfl)) (fun a9 h9 k9 => hF.j h9 (by rw [k9]; rfl)) (fun i9 => hF.r hndn (by rw [kndn]; rfl))
      have g152 : tk_fr K L f138 f138 ka ndn now := tk_fr_0
      have g153 : ∀ i : Nat, q_r f138 ka i = q_r f ka i := (fun i9 => ((fun i9 => hF.r hka (by rw [kka]; rfl)) i9).trans (g126.1 i9))
      have g154 : ∀ i : Nat, q_r f138 ndn i = q_r f ndn i := (fun i9 => ((fun i9 => hF.r hndn (by rw [kndn]; rfl)) i9).trans (g126.2.1 i9))
      have g155 : ∀ a : Nat, a ∈ L → K a = 16 → q_r f138 a 0 = q_r f a 0 := (fun a9 h9 k9 => ((fun a9 h9 k9 => hF.r h9 (by rw [k9]; rfl)) a9 h9 k9).trans (g126.2.2.1 a9 h9 k9))
      have g156 : ∀ a : Nat, a ∈ L → K a = 114 → ∀ i : Nat, q_r f138 a i = q_r f a i := (fun a9 h9 k9 i9 => ((fun a9 h9 k9 i9 => hF.r h9 (by rw [k9]; rfl)) a9 h9 k9 i9).trans (g126.2.2.2.1 a9 h9 k9 i9))
      have g157 : ∀ a : Nat, a ∈ L → K a = 5 → q_j f138 a 0 = q_j f a 0 := (fun a9 h9 k9 => ((fun a9 h9 k9 => hF.j h9 (by rw [k9]; rfl)) a9 h9 k9).trans (g126.2.2.2.2.1 a9 h9 k9))
      have g158 : q_z f138 now 3 = q_z f now 3 := (Eq.trans (hF.z hnow (by rw [know]; rfl)) g126.2.2.2.2.2.1)
      have g159 : ∀ u9 : Nat, u9 ∈ L → K u9 = 16 → u9 ≠ p134 → q_z f138 u9 3 = q_z f u9 3 := fun u9 h9 k9 n9 => (t143 u9 h9 k9 n9).trans (g126.2.2.2.2.2.2.1 u9 h9 k9)
      have g160 : ∀ a9 : Nat, a9 ∈ L → K a9 = 20 → (∀ i9 : Nat, i9 < 10 → a9 ≠ q_r f pu9 i9) → q_j f138 a9 0 = q_j f a9 0 := fun a9 h9 k9 n9 => (t144 a9 h9 k9 (fun i9 j9 => by rw [g126.2.2.2.1 _ hd9 kd9]; exact n9 i9 j9)).trans (g126.2.2.2.2.2.2.2 a9 h9 k9)
      have g161 : p134 = q_r f ka (Int.toNat x124) := by rw [← g126.1]; exact ey9.symm
      have g162 : pu9 = q_r f p134 0 := by rw [← g126.2.2.1 _ hb135 kb135]; exact epu8.symm
      refine q_ald_n cx dX2_keep_37 rfl (lv_at hl 0 rfl) ?_
      refine lv_dup cx.1 cx.2.1 dX2_keep_38 rfl ?_
      refine q_gX2_20 cx hB hhist khist z145 dX2_keep_39 (fun lb163 ub163 => ?_)
      refine q_iconst cx dX2_keep_42 ?_
      refine q_iadd cx dX2_keep_43 ?_
      refine q_pX2_20 cx hB hhist khist ⟨by omega, by omega⟩ (by omega) (by omega) rfl dX2_keep_44 (fun H locs f164 ef164 z165 hB => ?_)
      have z166 : q_is (q_z f164 hist 2) x125 := by rw [ef164, q_setz (Or.inr (by decide))]; exact z146
      have z167 : q_is (q_z f164 now 3) x137 := by rw [ef164, q_setz (Or.inr (by decide))]; exact z147
      have z168 : q_is (q_z f164 p134 3) x137 := by rw [ef164, q_setz (Or.inr (by decide))]; exact z141
      have z169 : q_ir (q_r f164 hist 0) ka := by rw [ef164, q_setr (Or.inr (by decide))]; exact z148
      have z170 : q_ir (q_r f164 now 0) ndn := by rw [ef164, q_setr (Or.inr (by decide))]; exact z149
      have z171 : q_ir (q_r f164 p134 0) pu9 := by rw [ef164, q_setr (Or.inr (by decide))]; exact z150
      have g172 : tk_vn K L 5 f164 now ndn nl9 := tk_vn_tr g151 (by rw [ef164, q_setz (Or.inr (by decide))]) (fun a9 h9 k9 => by rw [ef164, q_setj (Or.inl (fun q => by rw [q, khist] at k9; exact absurd k9 (by decide)))]) (fun i9 => by rw [ef164, q_setr (Or.inl (fun q => by rw [q, khist] at kndn; exact absurd kndn (by decide)))])
      have g173 : tk_fr K L f138 f164 ka ndn now := tk_fr_tr g152 (fun i9 => by rw [ef164, q_setr (Or.inl (fun q => by rw [q, khist] at kka; exact absurd kka (by decide)))]) (fun i9 => by rw [ef164, q_setr (Or.inl (fun q => by rw [q, khist] at kndn; exact absurd kndn (by decide)))]) (fun a9 h9 k9 => by rw [ef164, q_setr (Or.inl (fun q => by rw [q, khist] at k9; exact absurd k9 (by decide)))]) (fun a9 h9 k9 i9 => by rw [ef164, q_setr (Or.inl (fun q => by rw [q, khist] at k9; exact absurd k9 (by decide)))]) (fun a9 h9 k9 => by rw [ef164, q_setj (Or.inl (fun q => by rw [q, khist] at k9; exact absurd k9 (by decide)))]) (by rw [ef164, q_setz (Or.inr (by decide))]) (fun a9 h9 k9 => by rw [ef164, q_setz (Or.inl (fun q => by rw [q, khist] at k9; exact absurd k9 (by decide)))]) (fun a9 h9 k9 => by rw [ef164, q_setj (Or.inl (fun q => by rw [q, khist] at k9; exact absurd k9 (by decide)))])
      refine q_ald_n cx dX2_keep_47 rfl (lv_at hl 0 rfl) ?_
      refine q_bipush cx dX2_keep_48 rfl ?_
      refine q_ald_n cx dX2_keep_50 rfl (lv_at hl 0 rfl) ?_
      refine q_gX2_16 cx hB hhist khist z166 dX2_keep_51 (fun lb174 ub174 => ?_)
      refine q_iconst cx dX2_keep_54 ?_
      refine q_iadd cx dX2_keep_55 ?_
      refine q_mmin (rest := [.ref hist]) cx hl.1 q_h1138 q_h714 q_h157 q_h715 (by decide) (Nat.le_of_ble_eq_true rfl) (by decide) (by decide) ⟨by decide, by decide⟩ ⟨by omega, by omega⟩ dX2_keep_56 (fun y175 ay175 by175 ey175 => ?_)
      refine q_pX2_16 cx hB hhist khist ⟨by omega, by omega⟩ (by omega) (by omega) rfl dX2_keep_59 (fun H locs f176 ef176 z177 hB => ?_)
      have z178 : q_is (q_z f176 now 3) x137 := by rw [ef176, q_setz (Or.inr (by decide))]; exact z167
      have z179 : q_is (q_z f176 p134 3) x137 := by rw [ef176, q_setz (Or.inr (by decide))]; exact z168
      have z180 : q_is (q_z f176 hist 1) (x124 + 1) := by rw [ef176, q_setz (Or.inr (by decide))]; exact z165
      have z181 : q_ir (q_r f176 hist 0) ka := by rw [ef176, q_setr (Or.inr (by decide))]; exact z169
      have z182 : q_ir (q_r f176 now 0) ndn := by rw [ef176, q_setr (Or.inr (by decide))]; exact z170
      have z183 : q_ir (q_r f176 p134 0) pu9 := by rw [ef176, q_setr (Or.inr (by decide))]; exact z171
      have g184 : tk_vn K L 5 f176 now ndn nl9 := tk_vn_tr g172 (by rw [ef176, q_setz (Or.inr (by decide))]) (fun a9 h9 k9 => by rw [ef176, q_setj (Or.inl (fun q => by rw [q, khist] at k9; exact absurd k9 (by decide)))]) (fun i9 => by rw [ef176, q_setr (Or.inl (fun q => by rw [q, khist] at kndn; exact absurd kndn (by decide)))])
      have g185 : tk_fr K L f138 f176 ka ndn now := tk_fr_tr g173 (fun i9 => by rw [ef176, q_setr (Or.inl (fun q => by rw [q, khist] at kka; exact absurd kka (by decide)))]) (fun i9 => by rw [ef176, q_setr (Or.inl (fun q => by rw [q, khist] at kndn; exact absurd kndn (by decide)))]) (fun a9 h9 k9 => by rw [ef176, q_setr (Or.inl (fun q => by rw [q, khist] at k9; exact absurd k9 (by decide)))]) (fun a9 h9 k9 i9 => by rw [ef176, q_setr (Or.inl (fun q => by rw [q, khist] at k9; exact absurd k9 (by decide)))]) (fun a9 h9 k9 => by rw [ef176, q_setj (Or.inl (fun q => by rw [q, khist] at k9; exact absurd k9 (by decide)))]) (by rw [ef176, q_setz (Or.inr (by decide))]) (fun a9 h9 k9 => by rw [ef176, q_setz (Or.inl (fun q => by rw [q, khist] at k9; exact absurd k9 (by decide)))]) (fun a9 h9 k9 => by rw [ef176, q_setj (Or.inl (fun q => by rw [q, khist] at k9; exact absurd k9 (by decide)))])
      refine q_vret cx hr hlk hB dX2_keep_62 ?_
      exact (tk_vk_keep hvk hvn ex124 ex125 (by omega) g161 g162 t142 g159 g160 g153 g154 g155 g156 g157 g158 (by omega) (Eq.trans z180 (by omega)) z177 g185.2.2.2.2.2.1 g185.2.2.2.2.1 g185.2.1 g185.2.2.2.2.2.2.1 g185.2.2.2.2.2.2.2 g185.1 g185.2.2.1 g185.2.2.2.1)
    · refine q_ald_n cx dX2_keep_19 rfl (lv_at hl 0 rfl) ?_
      refine q_iconst cx dX2_keep_20 ?_
      refine q_pX2_20 cx hB hhist khist ⟨by decide, by decide⟩ (by decide) (by decide) rfl dX2_keep_21 (fun H locs f186 ef186 z187 hB => ?_)
      have z188 : q_is (q_z f186 hist 2) x125 := by rw [ef186, q_setz (Or.inr (by decide))]; exact ex125
      have z189 : q_ir (q_r f186 hist 0) ka := by rw [ef186, q_setr (Or.inr (by decide))]; exact hr0
      have z190 : q_ir (q_r f186 now 0) ndn := by rw [ef186, q_setr (Or.inr (by decide))]; exact hr1
      have g191 : tk_vn K L 5 f186 now ndn nl9 := tk_vn_tr hvn (by rw [ef186, q_setz (Or.inr (by decide))]) (fun a9 h9 k9 => by rw [ef186, q_setj (Or.inl (fun q => by rw [q, khist] at k9; exact absurd k9 (by decide)))]) (fun i9 => by rw [ef186, q_setr (Or.inl (fun q => by rw [q, khist] at kndn; exact absurd kndn (by decide)))])
      have g192 : tk_fr K L f f186 ka ndn now := tk_fr_tr g126 (fun i9 => by rw [ef186, q_setr (Or.inl (fun q => by rw [q, khist] at kka; exact absurd kka (by decide)))]) (fun i9 => by rw [ef186, q_setr (Or.inl (fun q => by rw [q, khist] at kndn; exact absurd kndn (by decide)))]) (fun a9 h9 k9 => by rw [ef186, q_setr (Or.inl (fun q => by rw [q, khist] at k9; exact absurd k9 (by decide)))]) (fun a9 h9 k9 i9 => by rw [ef186, q_setr (Or.inl (fun q => by rw [q, khist] at k9; exact absurd k9 (by decide)))]) (fun a9 h9 k9 => by rw [ef186, q_setj (Or.inl (fun q => by rw [q, khist] at k9; exact absurd k9 (by decide)))]) (by rw [ef186, q_setz (Or.inr (by decide))]) (fun a9 h9 k9 => by rw [ef186, q_setz (Or.inl (fun q => by rw [q, khist] at k9; exact absurd k9 (by decide)))]) (fun a9 h9 k9 => by rw [ef186, q_setj (Or.inl (fun q => by rw [q, khist] at k9; exact absurd k9 (by decide)))])
      refine q_ald_n cx dX2_keep_24 rfl (lv_at hl 0 rfl) ?_
      refine q_gX2_11 cx hB hhist khist z189 dX2_keep_25 (fun hb193 kb193 => ?_)
      refine q_ald_n cx dX2_keep_28 rfl (lv_at hl 0 rfl) ?_
      refine q_gX2_20 cx hB hhist khist z187 dX2_keep_29 (fun lb194 ub194 => ?_)
      obtain ⟨p195, ep195⟩ : ∃ zz, q_ir (q_r f186 ka (Int.toNat 0)) zz := ⟨_, q_irr _⟩
      refine q_aald (k2 := 16) (n := 6) cx hB hka kka (by decide) rfl 8 rfl (by decide) rfl (by decide) (by decide) (by decide) rfl ep195 dX2_keep_32 (fun hb196 kb196 => ?_)
      refine q_ald_n cx dX2_keep_33 rfl (lv_at hl 1 rfl) ?_
      have g197 : tk_ks K L f186 ka := tk_ks_tr hvk.1.1 g192.1 g192.2.2.1 g192.2.2.2.1
      obtain ⟨⟨hu9, ku9⟩, ⟨hd9, kd9⟩, hik9, -⟩ := g197 (Int.toNat 0) (by omega)
      have ey9 : q_r f186 ka (Int.toNat 0) = p195 := ep195
      rw [ey9] at hd9 kd9 hik9
      obtain ⟨pu9, epu9⟩ : ∃ zz, q_ir (q_r f186 p195 0) zz := ⟨_, q_irr _⟩
      have epu8 : q_r f186 p195 0 = pu9 := epu9
      rw [epu8] at hd9 kd9 hik9
      obtain ⟨x198, ex198⟩ : ∃ zz, q_is (q_z f186 now 3) zz := ⟨_, q_isr _⟩
      obtain ⟨lx198, ux198⟩ := q_isb ex198 (q_fib hB.2.1 hnow know (by decide) rfl)
      refine q_cVv (As := [.ref now]) (rest := []) cx hB (fun _ h => h) hN hb196 kb196 (by decide) rfl (f_vcopy40 l g hN hB.2.1 nl9 p195 hb196 kb196 now hnow know pu9 hd9 kd9 ndn hndn kndn x198 (by omega) (by omega) ex198 epu9 z190 g191 hik9) q_cX2_23 q_dX10_copyFrom (by decide) rfl rfl hl.1 rfl (Nat.le_of_ble_eq_true rfl) dX2_keep_34 (fun H locs f199 h201 hF hB => ?_)
      obtain ⟨z202, t203, t204, t205⟩ := h201
      have z206 : q_is (q_z f199 hist 2) x125 := Eq.trans (hF.z hhist (by rw [khist]; rfl)) z188
      have z207 : q_is (q_z f199 hist 1) 0 := Eq.trans (hF.z hhist (by rw [khist]; rfl)) z187
      have z208 : q_is (q_z f199 now 3) x198 := Eq.trans (hF.z hnow (by rw [know]; rfl)) ex198
      have z209 : q_ir (q_r f199 hist 0) ka := Eq.trans (hF.r hhist (by rw [khist]; rfl)) z189
      have z210 : q_ir (q_r f199 now 0) ndn := Eq.trans (hF.r hnow (by rw [know]; rfl)) z190
      have z211 : q_ir (q_r f199 p195 0) pu9 := Eq.trans (hF.r hb196 (by rw [kb196]; rfl)) epu9
      have g212 : tk_vn K L 5 f199 now ndn nl9 := tk_vn_tr g191 (hF.z hnow (by rw [know]; rfl)) (fun a9 h9 k9 => hF.j h9 (by rw [k9]; rfl)) (fun i9 => hF.r hndn (by rw [kndn]; rfl))
      have g213 : tk_fr K L f199 f199 ka ndn now := tk_fr_0
      have g214 : ∀ i : Nat, q_r f199 ka i = q_r f ka i := (fun i9 => ((fun i9 => hF.r hka (by rw [kka]; rfl)) i9).trans (g192.1 i9))
      have g215 : ∀ i : Nat, q_r f199 ndn i = q_r f ndn i := (fun i9 => ((fun i9 => hF.r hndn (by rw [kndn]; rfl)) i9).trans (g192.2.1 i9))
      have g216 : ∀ a : Nat, a ∈ L → K a = 16 → q_r f199 a 0 = q_r f a 0 := (fun a9 h9 k9 => ((fun a9 h9 k9 => hF.r h9 (by rw [k9]; rfl)) a9 h9 k9).trans (g192.2.2.1 a9 h9 k9))
      have g217 : ∀ a : Nat, a ∈ L → K a = 114 → ∀ i : Nat, q_r f199 a i = q_r f a i := (fun a9 h9 k9 i9 => ((fun a9 h9 k9 i9 => hF.r h9 (by rw [k9]; rfl)) a9 h9 k9 i9).trans (g192.2.2.2.1 a9 h9 k9 i9))
      have g218 : ∀ a : Nat, a ∈ L → K a = 5 → q_j f199 a 0 = q_j f a 0 := (fun a9 h9 k9 => ((fun a9 h9 k9 => hF.j h9 (by rw [k9]; rfl)) a9 h9 k9).trans (g192.2.2.2.2.1 a9 h9 k9))
      have g219 : q_z f199 now 3 = q_z f now 3 := (Eq.trans (hF.z hnow (by rw [know]; rfl)) g192.2.2.2.2.2.1)
      have g220 : ∀ u9 : Nat, u9 ∈ L → K u9 = 16 → u9 ≠ p195 → q_z f199 u9 3 = q_z f u9 3 := fun u9 h9 k9 n9 => (t204 u9 h9 k9 n9).trans (g192.2.2.2.2.2.2.1 u9 h9 k9)
      have g221 : ∀ a9 : Nat, a9 ∈ L → K a9 = 20 → (∀ i9 : Nat, i9 < 10 → a9 ≠ q_r f pu9 i9) → q_j f199 a9 0 = q_j f a9 0 := fun a9 h9 k9 n9 => (t205 a9 h9 k9 (fun i9 j9 => by rw [g192.2.2.2.1 _ hd9 kd9]; exact n9 i9 j9)).trans (g192.2.2.2.2.2.2.2 a9 h9 k9)
      have g222 : p195 = q_r f ka (Int.toNat 0) := by rw [← g192.1]; exact ey9.symm
      have g223 : pu9 = q_r f p195 0 := by rw [← g192.2.2.1 _ hb196 kb196]; exact epu8.symm
      refine q_ald_n cx dX2_keep_37 rfl (lv_at hl 0 rfl) ?_
      refine lv_dup cx.1 cx.2.1 dX2_keep_38 rfl ?_
      refine q_gX2_20 cx hB hhist khist z207 dX2_keep_39 (fun lb224 ub224 => ?_)
      refine q_iconst cx dX2_keep_42 ?_
      refine q_iadd cx dX2_keep_43 ?_
      refine q_pX2_20 cx hB hhist khist ⟨by decide, by decide⟩ (by decide) (by decide) rfl dX2_keep_44 (fun H locs f225 ef225 z226 hB => ?_)
      have z227 : q_is (q_z f225 hist 2) x125 := by rw [ef225, q_setz (Or.inr (by decide))]; exact z206
      have z228 : q_is (q_z f225 now 3) x198 := by rw [ef225, q_setz (Or.inr (by decide))]; exact z208
      have z229 : q_is (q_z f225 p195 3) x198 := by rw [ef225, q_setz (Or.inr (by decide))]; exact z202
      have z230 : q_ir (q_r f225 hist 0) ka := by rw [ef225, q_setr (Or.inr (by decide))]; exact z209
      have z231 : q_ir (q_r f225 now 0) ndn := by rw [ef225, q_setr (Or.inr (by decide))]; exact z210
      have z232 : q_ir (q_r f225 p195 0) pu9 := by rw [ef225, q_setr (Or.inr (by decide))]; exact z211
      have g233 : tk_vn K L 5 f225 now ndn nl9 := tk_vn_tr g212 (by rw [ef225, q_setz (Or.inr (by decide))]) (fun a9 h9 k9 => by rw [ef225, q_setj (Or.inl (fun q => by rw [q, khist] at k9; exact absurd k9 (by decide)))]) (fun i9 => by rw [ef225, q_setr (Or.inl (fun q => by rw [q, khist] at kndn; exact absurd kndn (by decide)))])
      have g234 : tk_fr K L f199 f225 ka ndn now := tk_fr_tr g213 (fun i9 => by rw [ef225, q_setr (Or.inl (fun q => by rw [q, khist] at kka; exact absurd kka (by decide)))]) (fun i9 => by rw [ef225, q_setr (Or.inl (fun q => by rw [q, khist] at kndn; exact absurd kndn (by decide)))]) (fun a9 h9 k9 => by rw [ef225, q_setr (Or.inl (fun q => by rw [q, khist] at k9; exact absurd k9 (by decide)))]) (fun a9 h9 k9 i9 => by rw [ef225, q_setr (Or.inl (fun q => by rw [q, khist] at k9; exact absurd k9 (by decide)))]) (fun a9 h9 k9 => by rw [ef225, q_setj (Or.inl (fun q => by rw [q, khist] at k9; exact absurd k9 (by decide)))]) (by rw [ef225, q_setz (Or.inr (by decide))]) (fun a9 h9 k9 => by rw [ef225, q_setz (Or.inl (fun q => by rw [q, khist] at k9; exact absurd k9 (by decide)))]) (fun a9 h9 k9 => by rw [ef225, q_setj (Or.inl (fun q => by rw [q, khist] at k9; exact absurd k9 (by decide)))])
      refine q_ald_n cx dX2_keep_47 rfl (lv_at hl 0 rfl) ?_
      refine q_bipush cx dX2_keep_48 rfl ?_
      refine q_ald_n cx dX2_keep_50 rfl (lv_at hl 0 rfl) ?_
      refine q_gX2_16 cx hB hhist khist z227 dX2_keep_51 (fun lb235 ub235 => ?_)
      refine q_iconst cx dX2_keep_54 ?_
      refine q_iadd cx dX2_keep_55 ?_
      refine q_mmin (rest := [.ref hist]) cx hl.1 q_h1138 q_h714 q_h157 q_h715 (by decide) (Nat.le_of_ble_eq_true rfl) (by decide) (by decide) ⟨by decide, by decide⟩ ⟨by omega, by omega⟩ dX2_keep_56 (fun y236 ay236 by236 ey236 => ?_)
      refine q_pX2_16 cx hB hhist khist ⟨by omega, by omega⟩ (by omega) (by omega) rfl dX2_keep_59 (fun H locs f237 ef237 z238 hB => ?_)
      have z239 : q_is (q_z f237 now 3) x198 := by rw [ef237, q_setz (Or.inr (by decide))]; exact z228
      have z240 : q_is (q_z f237 p195 3) x198 := by rw [ef237, q_setz (Or.inr (by decide))]; exact z229
      have z241 : q_is (q_z f237 hist 1) (0 + 1) := by rw [ef237, q_setz (Or.inr (by decide))]; exact z226
      have z242 : q_ir (q_r f237 hist 0) ka := by rw [ef237, q_setr (Or.inr (by decide))]; exact z230
      have z243 : q_ir (q_r f237 now 0) ndn := by rw [ef237, q_setr (Or.inr (by decide))]; exact z231
      have z244 : q_ir (q_r f237 p195 0) pu9 := by rw [ef237, q_setr (Or.inr (by decide))]; exact z232
      have g245 : tk_vn K L 5 f237 now ndn nl9 := tk_vn_tr g233 (by rw [ef237, q_setz (Or.inr (by decide))]) (fun a9 h9 k9 => by rw [ef237, q_setj (Or.inl (fun q => by rw [q, khist] at k9; exact absurd k9 (by decide)))]) (fun i9 => by rw [ef237, q_setr (Or.inl (fun q => by rw [q, khist] at kndn; exact absurd kndn (by decide)))])
      have g246 : tk_fr K L f199 f237 ka ndn now := tk_fr_tr g234 (fun i9 => by rw [ef237, q_setr (Or.inl (fun q => by rw [q, khist] at kka; exact absurd kka (by decide)))]) (fun i9 => by rw [ef237, q_setr (Or.inl (fun q => by rw [q, khist] at kndn; exact absurd kndn (by decide)))]) (fun a9 h9 k9 => by rw [ef237, q_setr (Or.inl (fun q => by rw [q, khist] at k9; exact absurd k9 (by decide)))]) (fun a9 h9 k9 i9 => by rw [ef237, q_setr (Or.inl (fun q => by rw [q, khist] at k9; exact absurd k9 (by decide)))]) (fun a9 h9 k9 => by rw [ef237, q_setj (Or.inl (fun q => by rw [q, khist] at k9; exact absurd k9 (by decide)))]) (by rw [ef237, q_setz (Or.inr (by decide))]) (fun a9 h9 k9 => by rw [ef237, q_setz (Or.inl (fun q => by rw [q, khist] at k9; exact absurd k9 (by decide)))]) (fun a9 h9 k9 => by rw [ef237, q_setj (Or.inl (fun q => by rw [q, khist] at k9; exact absurd k9 (by decide)))])
      refine q_vret cx hr hlk hB dX2_keep_62 ?_
      exact (tk_vk_keep hvk hvn ex124 ex125 (by omega) g222 g223 t203 g220 g221 g214 g215 g216 g217 g218 g219 (by omega) (Eq.trans z241 (by omega)) z238 g246.2.2.2.2.2.1 g246.2.2.2.2.1 g246.2.1 g246.2.2.2.2.2.2.1 g246.2.2.2.2.2.2.2 g246.1 g246.2.2.1 g246.2.2.2.1)
set_option maxHeartbeats 4000000 in
set_option maxRecDepth 100000 in
theorem f_takeBack (l : Launch) (g : q_G) {K : Nat → Nat} {L : List Nat} (hN : L.Nodup) {f : Nat → va_E} (hT : q_Ty g K L f) (nl9 : List (List Int)) (hist : Nat) (hhist : hist ∈ L) (khist : K hist = 2) (now : Nat) (hnow : now ∈ L) (know : K now = 10) (ka : Nat) (hka : ka ∈ L) (kka : K ka = 140) (ndn : Nat) (hndn : ndn ∈ L) (kndn : K ndn = 110) (hr0 : q_ir (q_r f hist 0) ka) (hr1 : q_ir (q_r f now 0) ndn) (hvn : tk_vn K L 5 f now ndn nl9) (hvk : tk_vk K L f hist ka now ndn) : q_Ct l g K L yX2_takeBack cX2_takeBack 2 (some .boolean) 2 43 [.ref hist, .ref now] f [(2, 1, 2), (3, 0, 4), (4, 0, 7), (5, 0, 8), (10, 3, 12)] (q_Pi (fun (z : Int) (f1 : Nat → va_E) => (z = 1 ∧ (tk_vn K L 5 f1 now ndn nl9) ∧ (tk_vk K L f1 hist ka now ndn)) ∨ (z = 0 ∧ (tk_vn K L 5 f1 now ndn nl9) ∧ (tk_vk K L f1 hist ka now ndn)))) := by
  refine q_ofb (by decide +kernel) hN hT (Nat.le_of_ble_eq_true rfl) ?_
  intro p e s m below meth c ls cx hr hlk hB hl
  have hl : lv_has ls 2 [(0, .ref hist), (1, .ref now)] := hl
  obtain ⟨H, hH⟩ : ∃ H : Heap, H = s.heap := ⟨_, rfl⟩
  obtain ⟨locs, hlocs⟩ : ∃ z : List Loc, z = [] := ⟨_, rfl⟩
  rw [← hH, ← hlocs] at hB
  rw [← hH, ← hlocs]
  obtain ⟨x100, ex100⟩ : ∃ zz, q_is (q_z f hist 1) zz := ⟨_, q_isr _⟩
  obtain ⟨lx100, ux100⟩ : 0 ≤ x100 ∧ x100 ≤ 6 := q_isb ex100 hvk.2.1.1
  obtain ⟨x101, ex101⟩ : ∃ zz, q_is (q_z f hist 2) zz := ⟨_, q_isr _⟩
  obtain ⟨lx101, ux101⟩ : 0 ≤ x101 ∧ x101 ≤ 6 := q_isb ex101 hvk.2.1.2
  have g102 : tk_fr K L f f ka ndn now := tk_fr_0
  have g103 : tk_f2 K L f f ka ndn := tk_f2_0
  refine q_ald_n cx dX2_takeBack_0 rfl (lv_at hl 0 rfl) ?_
  refine q_gX2_16 cx hB hhist khist ex101 dX2_takeBack_1 (fun lb104 ub104 => ?_)
  refine q_ifne (tgt := 9) cx ⟨by omega, by omega⟩ dX2_takeBack_4 (by decide) (fun c105 => ?_) (fun c105 => ?_)
  · refine q_ald_n cx dX2_takeBack_9 rfl (lv_at hl 0 rfl) ?_
    refine q_ald_n cx dX2_takeBack_10 rfl (lv_at hl 0 rfl) ?_
    refine q_gX2_20 cx hB hhist khist ex100 dX2_takeBack_11 (fun lb106 ub106 => ?_)
    refine q_ifle (tgt := 38) cx ⟨by omega, by omega⟩ dX2_takeBack_14 (by decide) (fun c107 => ?_) (fun c107 => ?_)
    · refine q_ald_n cx dX2_takeBack_38 rfl (lv_at hl 0 rfl) ?_
      refine q_gX2_11 cx hB hhist khist hr0 dX2_takeBack_39 (fun hb108 kb108 => ?_)
      refine q_alen (n := 6) cx hB hka kka (by decide) rfl 8 rfl rfl dX2_takeBack_42 ?_
      refine q_iconst cx dX2_takeBack_43 ?_
      refine q_isub cx dX2_takeBack_44 ?_
      refine q_pX2_20 cx hB hhist khist ⟨by decide, by decide⟩ (by decide) (by decide) rfl dX2_takeBack_45 (fun H locs f109 ef109 z110 hB => ?_)
      have z111 : q_is (q_z f109 hist 2) x101 := by rw [ef109, q_setz (Or.inr (by decide))]; exact ex101
      have z112 : q_ir (q_r f109 hist 0) ka := by rw [ef109, q_setr (Or.inr (by decide))]; exact hr0
      have z113 : q_ir (q_r f109 now 0) ndn := by rw [ef109, q_setr (Or.inr (by decide))]; exact hr1
      have g114 : tk_vn K L 5 f109 now ndn nl9 := tk_vn_tr hvn (by rw [ef109, q_setz (Or.inr (by decide))]) (fun a9 h9 k9 => by rw [ef109, q_setj (Or.inl (fun q => by rw [q, khist] at k9; exact absurd k9 (by decide)))]) (fun i9 => by rw [ef109, q_setr (Or.inl (fun q => by rw [q, khist] at kndn; exact absurd kndn (by decide)))])
      have g115 : tk_fr K L f f109 ka ndn now := tk_fr_tr g102 (fun i9 => by rw [ef109, q_setr (Or.inl (fun q => by rw [q, khist] at kka; exact absurd kka (by decide)))]) (fun i9 => by rw [ef109, q_setr (Or.inl (fun q => by rw [q, khist] at kndn; exact absurd kndn (by decide)))]) (fun a9 h9 k9 => by rw [ef109, q_setr (Or.inl (fun q => by rw [q, khist] at k9; exact absurd k9 (by decide)))]) (fun a9 h9 k9 i9 => by rw [ef109, q_setr (Or.inl (fun q => by rw [q, khist] at k9; exact absurd k9 (by decide)))]) (fun a9 h9 k9 => by rw [ef109, q_setj (Or.inl (fun q => by rw [q, khist] at k9; exact absurd k9 (by decide)))]) (by rw [ef109, q_setz (Or.inr (by decide))]) (fun a9 h9 k9 => by rw [ef109, q_setz (Or.inl (fun q => by rw [q, khist] at k9; exact absurd k9 (by decide)))]) (fun a9 h9 k9 => by rw [ef109, q_setj (Or.inl (fun q => by rw [q, khist] at k9; exact absurd k9 (by decide)))])
      have g116 : tk_f2 K L f f109 ka ndn := tk_f2_tr g103 (fun i9 => by rw [ef109, q_setr (Or.inl (fun q => by rw [q, khist] at kka; exact absurd kka (by decide)))]) (fun i9 => by rw [ef109, q_setr (Or.inl (fun q => by rw [q, khist] at kndn; exact absurd kndn (by decide)))]) (fun a9 h9 k9 => by rw [ef109, q_setr (Or.inl (fun q => by rw [q, khist] at k9; exact absurd k9 (by decide)))]) (fun a9 h9 k9 i9 => by rw [ef109, q_setr (Or.inl (fun q => by rw [q, khist] at k9; exact absurd k9 (by decide)))]) (fun a9 h9 k9 => by rw [ef109, q_setz (Or.inl (fun q => by rw [q, khist] at k9; exact absurd k9 (by decide)))]) (fun a9 h9 k9 => by rw [ef109, q_setj (Or.inl (fun q => by rw [q, khist] at k9; exact absurd k9 (by decide)))])
      refine q_ald_n cx dX2_takeBack_48 rfl (lv_at hl 1 rfl) ?_
      refine q_ald_n cx dX2_takeBack_49 rfl (lv_at hl 0 rfl) ?_
      refine q_gX2_11 cx hB hhist khist z112 dX2_takeBack_50 (fun hb117 kb117 => ?_)
      refine q_ald_n cx dX2_takeBack_53 rfl (lv_at hl 0 rfl) ?_
      refine q_gX2_20 cx hB hhist khist z110 dX2_takeBack_54 (fun lb118 ub118 => ?_)
      obtain ⟨p119, ep119⟩ : ∃ zz, q_ir (q_r f109 ka (Int.toNat (6 - 1))) zz := ⟨_, q_irr _⟩
      refine q_aald (k2 := 16) (n := 6) cx hB hka kka (by decide) rfl 8 rfl (by decide) rfl (by decide) (by decide) (by decide) rfl ep119 dX2_takeBack_57 (fun hb120 kb120 => ?_)
      have g121 : tk_ks K L f109 ka := tk_ks_tr hvk.1.1 g115.1 g115.2.2.1 g115.2.2.2.1
      obtain ⟨⟨hu9, ku9⟩, ⟨hd9, kd9⟩, hik9, -⟩ := g121 (Int.toNat (6 - 1)) (by omega)
      have ey9 : q_r f109 ka (Int.toNat (6 - 1)) = p119 := ep119
      rw [ey9] at hd9 kd9 hik9
      obtain ⟨pu9, epu9⟩ : ∃ zz, q_ir (q_r f109 p119 0) zz := ⟨_, q_irr _⟩
      have epu8 : q_r f109 p119 0 = pu9 := epu9
      rw [epu8] at hd9 kd9 hik9
      have g122 : p119 = q_r f ka (Int.toNat (6 - 1)) := by rw [← g115.1]; exact ey9.symm
      have g123 : pu9 = q_r f p119 0 := by rw [← g115.2.2.1 _ hb120 kb120]; exact epu8.symm
      have g124 := tk_vk_last hvk hvn ex100 ex101 (by omega) (by omega) g122 g123
      have g125 : tk_vn K L 20 f109 p119 pu9 nl9 := tk_vn_tr g124 (g115.2.2.2.2.2.2.1 _ hb120 kb120) g115.2.2.2.2.2.2.2 (g115.2.2.2.1 _ hd9 kd9)
      have hyn9 := tk_vn_nn g125 (rfl : q_z f109 p119 3 = q_z f109 p119 3)
      obtain ⟨x126, ex126⟩ : ∃ zz, q_is (q_z f109 p119 3) zz := ⟨_, q_isr _⟩
      obtain ⟨lx126, ux126⟩ := q_isb ex126 (q_fib hB.2.1 hb120 kb120 (by decide) rfl)
      refine q_cVv (As := [.ref p119]) (rest := []) cx hB (fun _ h => h) hN hnow know (by decide) rfl (f_vcopy04 l g hN hB.2.1 nl9 now hnow know p119 hb120 kb120 ndn hndn kndn pu9 hd9 kd9 x126 (by omega) (by omega) ex126 z113 epu9 g125 g114.1) q_cX2_23 q_dX10_copyFrom (by decide) rfl rfl hl.1 rfl (Nat.le_of_ble_eq_true rfl) dX2_takeBack_58 (fun H locs f127 h129 hF hB => ?_)
      obtain ⟨z130, t131, t132, t133⟩ := h129
      have z134 : q_is (q_z f127 hist 2) x101 := Eq.trans (hF.z hhist (by rw [khist]; rfl)) z111
      have z135 : q_is (q_z f127 hist 1) (6 - 1) := Eq.trans (hF.z hhist (by rw [khist]; rfl)) z110
      have z136 : q_is (q_z f127 p119 3) x126 := Eq.trans (hF.z hb120 (by rw [kb120]; rfl)) ex126
      have z137 : q_ir (q_r f127 hist 0) ka := Eq.trans (hF.r hhist (by rw [khist]; rfl)) z112
      have z138 : q_ir (q_r f127 now 0) ndn := Eq.trans (hF.r hnow (by rw [know]; rfl)) z113
      have z139 : q_ir (q_r f127 p119 0) pu9 := Eq.trans (hF.r hb120 (by rw [kb120]; rfl)) epu9
      have g140 : tk_f2 K L f f127 ka ndn := tk_f2_tr g116 (fun i9 => hF.r hka (by rw [kka]; rfl)) (fun i9 => hF.r hndn (by rw [kndn]; rfl)) (fun a9 h9 k9 => hF.r h9 (by rw [k9]; rfl)) (fun a9 h9 k9 i9 => hF.r h9 (by rw [k9]; rfl)) (fun a9 h9 k9 => hF.z h9 (by rw [k9]; rfl)) (fun a9 h9 k9 => hF.j h9 (by rw [k9]; rfl))
      refine q_ald_n cx dX2_takeBack_61 rfl (lv_at hl 0 rfl) ?_
      refine lv_dup cx.1 cx.2.1 dX2_takeBack_62 rfl ?_
      refine q_gX2_16 cx hB hhist khist z134 dX2_takeBack_63 (fun lb141 ub141 => ?_)
      refine q_iconst cx dX2_takeBack_66 ?_
      refine q_isub cx dX2_takeBack_67 ?_
      refine q_pX2_16 cx hB hhist khist ⟨by omega, by omega⟩ (by omega) (by omega) rfl dX2_takeBack_68 (fun H locs f142 ef142 z143 hB => ?_)
      have z144 : q_is (q_z f142 hist 1) (6 - 1) := by rw [ef142, q_setz (Or.inr (by decide))]; exact z135
      have z145 : q_is (q_z f142 p119 3) x126 := by rw [ef142, q_setz (Or.inr (by decide))]; exact z136
      have z146 : q_is (q_z f142 now 3) x126 := by rw [ef142, q_setz (Or.inr (by decide))]; exact z130
      have z147 : q_ir (q_r f142 hist 0) ka := by rw [ef142, q_setr (Or.inr (by decide))]; exact z137
      have z148 : q_ir (q_r f142 now 0) ndn := by rw [ef142, q_setr (Or.inr (by decide))]; exact z138
      have z149 : q_ir (q_r f142 p119 0) pu9 := by rw [ef142, q_setr (Or.inr (by decide))]; exact z139
      have g150 : tk_f2 K L f f142 ka ndn := tk_f2_tr g140 (fun i9 => by rw [ef142, q_setr (Or.inl (fun q => by rw [q, khist] at kka; exact absurd kka (by decide)))]) (fun i9 => by rw [ef142, q_setr (Or.inl (fun q => by rw [q, khist] at kndn; exact absurd kndn (by decide)))]) (fun a9 h9 k9 => by rw [ef142, q_setr (Or.inl (fun q => by rw [q, khist] at k9; exact absurd k9 (by decide)))]) (fun a9 h9 k9 i9 => by rw [ef142, q_setr (Or.inl (fun q => by rw [q, khist] at k9; exact absurd k9 (by decide)))]) (fun a9 h9 k9 => by rw [ef142, q_setz (Or.inl (fun q => by rw [q, khist] at k9; exact absurd k9 (by decide)))]) (fun a9 h9 k9 => by rw [ef142, q_setj (Or.inl (fun q => by rw [q, khist] at k9; exact absurd k9 (by decide)))])
      have g151 : tk_vn K L 5 f142 now ndn nl9 := tk_vn_tr t131 (by rw [ef142, q_setz (Or.inr (by decide))]) (fun a9 h9 k9 => by rw [ef142, q_setj (Or.inl (fun q => by rw [q, khist] at k9; exact absurd k9 (by decide)))]) (fun i9 => by rw [ef142, q_setr (Or.inl (fun q => by rw [q, khist] at kndn; exact absurd kndn (by decide)))])
      refine q_iconst cx dX2_takeBack_71 ?_
      refine q_zret cx hr hlk hB dX2_takeBack_72 (by decide) (by decide) ?_
      exact (Or.inl ⟨rfl, g151, (tk_vk_back (s := (6 - 1)) hvk hvn g151 ex100 ex101 (by omega) (by omega) (Eq.trans z144 (by omega)) (Eq.trans z143 (by omega)) g150.2.2.2.2.1 g150.2.2.2.2.2 g150.1 g150.2.2.1 g150.2.2.2.1)⟩)
    · refine q_ald_n cx dX2_takeBack_17 rfl (lv_at hl 0 rfl) ?_
      refine q_gX2_20 cx hB hhist khist ex100 dX2_takeBack_18 (fun lb152 ub152 => ?_)
      refine q_ald_n cx dX2_takeBack_21 rfl (lv_at hl 0 rfl) ?_
      refine q_gX2_11 cx hB hhist khist hr0 dX2_takeBack_22 (fun hb153 kb153 => ?_)
      refine q_alen (n := 6) cx hB hka kka (by decide) rfl 8 rfl rfl dX2_takeBack_25 ?_
      refine q_icgt (tgt := 38) cx ⟨by omega, by omega⟩ ⟨by decide, by decide⟩ dX2_takeBack_26 (by decide) (fun c154 => ?_) (fun c154 => ?_)
      · exact absurd c154 (by omega)
      · refine q_ald_n cx dX2_takeBack_29 rfl (lv_at hl 0 rfl) ?_
        refine q_gX2_20 cx hB hhist khist ex100 dX2_takeBack_30 (fun lb155 ub155 => ?_)
        refine q_iconst cx dX2_takeBack_33 ?_
        refine q_isub cx dX2_takeBack_34 ?_
        refine lv_goto (tgt := 45) cx.1 cx.2.1 dX2_takeBack_35 (by decide) ?_
        refine q_pX2_20 cx hB hhist khist ⟨by omega, by omega⟩ (by omega) (by omega) rfl dX2_takeBack_45 (fun H locs f156 ef156 z157 hB => ?_)
        have z158 : q_is (q_z f156 hist 2) x101 := by rw [ef156, q_setz (Or.inr (by decide))]; exact ex101
        have z159 : q_ir (q_r f156 hist 0) ka := by rw [ef156, q_setr (Or.inr (by decide))]; exact hr0
        have z160 : q_ir (q_r f156 now 0) ndn := by rw [ef156, q_setr (Or.inr (by decide))]; exact hr1
        have g161 : tk_vn K L 5 f156 now ndn nl9 := tk_vn_tr hvn (by rw [ef156, q_setz (Or.inr (by decide))]) (fun a9 h9 k9 => by rw [ef156, q_setj (Or.inl (fun q => by rw [q, khist] at k9; exact absurd k9 (by decide)))]) (fun i9 => by rw [ef156, q_setr (Or.inl (fun q => by rw [q, khist] at kndn; exact absurd kndn (by decide)))])
        have g162 : tk_fr K L f f156 ka ndn now := tk_fr_tr g102 (fun i9 => by rw [ef156, q_setr (Or.inl (fun q => by rw [q, khist] at kka; exact absurd kka (by decide)))]) (fun i9 => by rw [ef156, q_setr (Or.inl (fun q => by rw [q, khist] at kndn; exact absurd kndn (by decide)))]) (fun a9 h9 k9 => by rw [ef156, q_setr (Or.inl (fun q => by rw [q, khist] at k9; exact absurd k9 (by decide)))]) (fun a9 h9 k9 i9 => by rw [ef156, q_setr (Or.inl (fun q => by rw [q, khist] at k9; exact absurd k9 (by decide)))]) (fun a9 h9 k9 => by rw [ef156, q_setj (Or.inl (fun q => by rw [q, khist] at k9; exact absurd k9 (by decide)))]) (by rw [ef156, q_setz (Or.inr (by decide))]) (fun a9 h9 k9 => by rw [ef156, q_setz (Or.inl (fun q => by rw [q, khist] at k9; exact absurd k9 (by decide)))]) (fun a9 h9 k9 => by rw [ef156, q_setj (Or.inl (fun q => by rw [q, khist] at k9; exact absurd k9 (by decide)))])
        have g163 : tk_f2 K L f f156 ka ndn := tk_f2_tr g103 (fun i9 => by rw [ef156, q_setr (Or.inl (fun q => by rw [q, khist] at kka; exact absurd kka (by decide)))]) (fun i9 => by rw [ef156, q_setr (Or.inl (fun q => by rw [q, khist] at kndn; exact absurd kndn (by decide)))]) (fun a9 h9 k9 => by rw [ef156, q_setr (Or.inl (fun q => by rw [q, khist] at k9; exact absurd k9 (by decide)))]) (fun a9 h9 k9 i9 => by rw [ef156, q_setr (Or.inl (fun q => by rw [q, khist] at k9; exact absurd k9 (by decide)))]) (fun a9 h9 k9 => by rw [ef156, q_setz (Or.inl (fun q => by rw [q, khist] at k9; exact absurd k9 (by decide)))]) (fun a9 h9 k9 => by rw [ef156, q_setj (Or.inl (fun q => by rw [q, khist] at k9; exact absurd k9 (by decide)))])
        refine q_ald_n cx dX2_takeBack_48 rfl (lv_at hl 1 rfl) ?_
        refine q_ald_n cx dX2_takeBack_49 rfl (lv_at hl 0 rfl) ?_
        refine q_gX2_11 cx hB hhist khist z159 dX2_takeBack_50 (fun hb164 kb164 => ?_)
        refine q_ald_n cx dX2_takeBack_53 rfl (lv_at hl 0 rfl) ?_
        refine q_gX2_20 cx hB hhist khist z157 dX2_takeBack_54 (fun lb165 ub165 => ?_)
        obtain ⟨p166, ep166⟩ : ∃ zz, q_ir (q_r f156 ka (Int.toNat (x100 - 1))) zz := ⟨_, q_irr _⟩
        refine q_aald (k2 := 16) (n := 6) cx hB hka kka (by decide) rfl 8 rfl (by decide) rfl (by omega) (by omega) (by decide) rfl ep166 dX2_takeBack_57 (fun hb167 kb167 => ?_)
        have g168 : tk_ks K L f156 ka := tk_ks_tr hvk.1.1 g162.1 g162.2.2.1 g162.2.2.2.1
        obtain ⟨⟨hu9, ku9⟩, ⟨hd9, kd9⟩, hik9, -⟩ := g168 (Int.toNat (x100 - 1)) (by omega)
        have ey9 : q_r f156 ka (Int.toNat (x100 - 1)) = p166 := ep166
        rw [ey9] at hd9 kd9 hik9
        obtain ⟨pu9, epu9⟩ : ∃ zz, q_ir (q_r f156 p166 0) zz := ⟨_, q_irr _⟩
        have epu8 : q_r f156 p166 0 = pu9 := epu9
        rw [epu8] at hd9 kd9 hik9
        have g169 : p166 = q_r f ka (Int.toNat (x100 - 1)) := by rw [← g162.1]; exact ey9.symm
        have g170 : pu9 = q_r f p166 0 := by rw [← g162.2.2.1 _ hb167 kb167]; exact epu8.symm
        have g171 := tk_vk_last hvk hvn ex100 ex101 (by omega) (by omega) g169 g170
        have g172 : tk_vn K L 20 f156 p166 pu9 nl9 := tk_vn_tr g171 (g162.2.2.2.2.2.2.1 _ hb167 kb167) g162.2.2.2.2.2.2.2 (g162.2.2.2.1 _ hd9 kd9)
        have hyn9 := tk_vn_nn g172 (rfl : q_z f156 p166 3 = q_z f156 p166 3)
        obtain ⟨x173, ex173⟩ : ∃ zz, q_is (q_z f156 p166 3) zz := ⟨_, q_isr _⟩
        obtain ⟨lx173, ux173⟩ := q_isb ex173 (q_fib hB.2.1 hb167 kb167 (by decide) rfl)
        refine q_cVv (As := [.ref p166]) (rest := []) cx hB (fun _ h => h) hN hnow know (by decide) rfl (f_vcopy04 l g hN hB.2.1 nl9 now hnow know p166 hb167 kb167 ndn hndn kndn pu9 hd9 kd9 x173 (by omega) (by omega) ex173 z160 epu9 g172 g161.1) q_cX2_23 q_dX10_copyFrom (by decide) rfl rfl hl.1 rfl (Nat.le_of_ble_eq_true rfl) dX2_takeBack_58 (fun H locs f174 h176 hF hB => ?_)
        obtain ⟨z177, t178, t179, t180⟩ := h176
        have z181 : q_is (q_z f174 hist 2) x101 := Eq.trans (hF.z hhist (by rw [khist]; rfl)) z158
        have z182 : q_is (q_z f174 hist 1) (x100 - 1) := Eq.trans (hF.z hhist (by rw [khist]; rfl)) z157
        have z183 : q_is (q_z f174 p166 3) x173 := Eq.trans (hF.z hb167 (by rw [kb167]; rfl)) ex173
        have z184 : q_ir (q_r f174 hist 0) ka := Eq.trans (hF.r hhist (by rw [khist]; rfl)) z159
        have z185 : q_ir (q_r f174 now 0) ndn := Eq.trans (hF.r hnow (by rw [know]; rfl)) z160
        have z186 : q_ir (q_r f174 p166 0) pu9 := Eq.trans (hF.r hb167 (by rw [kb167]; rfl)) epu9
        have g187 : tk_f2 K L f f174 ka ndn := tk_f2_tr g163 (fun i9 => hF.r hka (by rw [kka]; rfl)) (fun i9 => hF.r hndn (by rw [kndn]; rfl)) (fun a9 h9 k9 => hF.r h9 (by rw [k9]; rfl)) (fun a9 h9 k9 i9 => hF.r h9 (by rw [k9]; rfl)) (fun a9 h9 k9 => hF.z h9 (by rw [k9]; rfl)) (fun a9 h9 k9 => hF.j h9 (by rw [k9]; rfl))
        refine q_ald_n cx dX2_takeBack_61 rfl (lv_at hl 0 rfl) ?_
        refine lv_dup cx.1 cx.2.1 dX2_takeBack_62 rfl ?_
        refine q_gX2_16 cx hB hhist khist z181 dX2_takeBack_63 (fun lb188 ub188 => ?_)
        refine q_iconst cx dX2_takeBack_66 ?_
        refine q_isub cx dX2_takeBack_67 ?_
        refine q_pX2_16 cx hB hhist khist ⟨by omega, by omega⟩ (by omega) (by omega) rfl dX2_takeBack_68 (fun H locs f189 ef189 z190 hB => ?_)
        have z191 : q_is (q_z f189 hist 1) (x100 - 1) := by rw [ef189, q_setz (Or.inr (by decide))]; exact z182
        have z192 : q_is (q_z f189 p166 3) x173 := by rw [ef189, q_setz (Or.inr (by decide))]; exact z183
        have z193 : q_is (q_z f189 now 3) x173 := by rw [ef189, q_setz (Or.inr (by decide))]; exact z177
        have z194 : q_ir (q_r f189 hist 0) ka := by rw [ef189, q_setr (Or.inr (by decide))]; exact z184
        have z195 : q_ir (q_r f189 now 0) ndn := by rw [ef189, q_setr (Or.inr (by decide))]; exact z185
        have z196 : q_ir (q_r f189 p166 0) pu9 := by rw [ef189, q_setr (Or.inr (by decide))]; exact z186
        have g197 : tk_f2 K L f f189 ka ndn := tk_f2_tr g187 (fun i9 => by rw [ef189, q_setr (Or.inl (fun q => by rw [q, khist] at kka; exact absurd kka (by decide)))]) (fun i9 => by rw [ef189, q_setr (Or.inl (fun q => by rw [q, khist] at kndn; exact absurd kndn (by decide)))]) (fun a9 h9 k9 => by rw [ef189, q_setr (Or.inl (fun q => by rw [q, khist] at k9; exact absurd k9 (by decide)))]) (fun a9 h9 k9 i9 => by rw [ef189, q_setr (Or.inl (fun q => by rw [q, khist] at k9; exact absurd k9 (by decide)))]) (fun a9 h9 k9 => by rw [ef189, q_setz (Or.inl (fun q => by rw [q, khist] at k9; exact absurd k9 (by decide)))]) (fun a9 h9 k9 => by rw [ef189, q_setj (Or.inl (fun q => by rw [q, khist] at k9; exact absurd k9 (by decide)))])
        have g198 : tk_vn K L 5 f189 now ndn nl9 := tk_vn_tr t178 (by rw [ef189, q_setz (Or.inr (by decide))]) (fun a9 h9 k9 => by rw [ef189, q_setj (Or.inl (fun q => by rw [q, khist] at k9; exact absurd k9 (by decide)))]) (fun i9 => by rw [ef189, q_setr (Or.inl (fun q => by rw [q, khist] at kndn; exact absurd kndn (by decide)))])
        refine q_iconst cx dX2_takeBack_71 ?_
        refine q_zret cx hr hlk hB dX2_takeBack_72 (by decide) (by decide) ?_
        exact (Or.inl ⟨rfl, g198, (tk_vk_back (s := (x100 - 1)) hvk hvn g198 ex100 ex101 (by omega) (by omega) (Eq.trans z191 (by omega)) (Eq.trans z190 (by omega)) g197.2.2.2.2.1 g197.2.2.2.2.2 g197.1 g197.2.2.1 g197.2.2.2.1)⟩)
  · refine q_iconst cx dX2_takeBack_7 ?_
    refine q_zret cx hr hlk hB dX2_takeBack_8 (by decide) (by decide) ?_
    exact (Or.inr ⟨rfl, hvn, hvk⟩)
set_option maxHeartbeats 4000000 in
set_option maxRecDepth 100000 in
theorem f_forget (l : Launch) (g : q_G) {K : Nat → Nat} {L : List Nat} (hN : L.Nodup) {f : Nat → va_E} (hT : q_Ty g K L f) (hist : Nat) (hhist : hist ∈ L) (khist : K hist = 2) : q_Ct l g K L yX2_forget cX2_forget 1 none 0 0 [.ref hist] f [(2, 2, 2)] (q_Pv (fun (f1 : Nat → va_E) => q_is (q_z f1 hist 2) 0)) := by
  refine q_ofb (by decide +kernel) hN hT (Nat.le_of_ble_eq_true rfl) ?_
  intro p e s m below meth c ls cx hr hlk hB hl
  have hl : lv_has ls 1 [(0, .ref hist)] := hl
  obtain ⟨H, hH⟩ : ∃ H : Heap, H = s.heap := ⟨_, rfl⟩
  obtain ⟨locs, hlocs⟩ : ∃ z : List Loc, z = [] := ⟨_, rfl⟩
  rw [← hH, ← hlocs] at hB
  rw [← hH, ← hlocs]
  refine q_ald_n cx dX2_forget_0 rfl (lv_at hl 0 rfl) ?_
  refine q_iconst cx dX2_forget_1 ?_
  refine q_pX2_16 cx hB hhist khist ⟨by decide, by decide⟩ (by decide) (by decide) rfl dX2_forget_2 (fun H locs f3 ef3 z4 hB => ?_)
  refine q_vret cx hr hlk hB dX2_forget_5 ?_
  exact z4
