set_option maxHeartbeats 4000000 in
set_option maxRecDepth 100000 in
theorem g_X10_dayOf (l : Launch) (g : q_G) {K : Nat → Nat} {L : List Nat} (hN : L.Nodup) {f : Nat → va_E} (hT : q_Ty g K L f) (v : Nat) (hv : v ∈ L) (kv : K v = 10) (p0 : Int) (lp0 : (-2147483648) ≤ p0) (up0 : p0 ≤ 2147483647) : q_Ct l g K L yX10_dayOf cX10_dayOf 2 (some .int) 1 21 [.ref v, .int (q_i p0)] f [] (q_Pi (fun (z : Int) (f1 : Nat → va_E) => f = f1 ∧ (-59) ≤ z ∧ z ≤ 59)) := by
  refine q_ofb (by decide +kernel) hN hT (Nat.le_of_ble_eq_true rfl) ?_
  intro p e s m below meth c ls cx hr hlk hB hl
  have hl : lv_has ls 2 [(0, .ref v), (1, .int (q_i p0))] := hl
  obtain ⟨H, hH⟩ : ∃ H : Heap, H = s.heap := ⟨_, rfl⟩
  obtain ⟨locs, hlocs⟩ : ∃ z : List Loc, z = [] := ⟨_, rfl⟩
  rw [← hH, ← hlocs] at hB
  rw [← hH, ← hlocs]
  refine q_ald_n cx dX10_dayOf_0 rfl (lv_at hl 0 rfl) ?_
  refine q_ald_n cx dX10_dayOf_1 rfl (lv_at hl 0 rfl) ?_
  obtain ⟨x12, ex12⟩ : ∃ zz, q_is (q_z f v 11) zz := ⟨_, q_isr _⟩
  refine q_gX10_60 cx hB hv kv ex12 dX10_dayOf_2 (fun lb13 ub13 => ?_)
  refine q_ald_n cx dX10_dayOf_5 rfl (lv_at hl 0 rfl) ?_
  refine q_ild_n cx dX10_dayOf_6 rfl (lv_at hl 1 rfl) ?_
  refine q_cVr (As := [.int (q_i p0)]) (rest := [.int (q_i x12), .ref v]) cx hB (fun _ h => h) hN hv kv (by decide) rfl (g_X10_nodeAt l g hN hB.2.1 v hv kv p0 (by omega) (by omega)) q_cX10_66 q_dX10_nodeAt (by decide) rfl rfl hl.1 rfl (Nat.le_of_ble_eq_true rfl) dX10_dayOf_7 (fun y15 H locs f14 h16 hF hB => ?_)
  obtain ⟨rfl, hy15, ky15⟩ := h16
  obtain ⟨x17, ex17⟩ : ∃ zz, q_is (q_z f y15 3) zz := ⟨_, q_isr _⟩
  refine q_gX10_98 cx hB hy15 ky15 ex17 dX10_dayOf_10 (fun lb18 ub18 => ?_)
  refine q_iadd cx dX10_dayOf_13 ?_
  refine q_any (fun y19 ry19 ey19 => ?_)
  refine q_cVi (As := [.int (q_i y19)]) (rest := []) cx hB (fun _ h => h) hN hv kv (by decide) rfl (g_X10_dayOfYear l g hN hB.2.1 v hv kv y19 (by omega) (by omega)) q_cX10_156 q_dX10_dayOfYear (by decide) rfl rfl hl.1 rfl (Nat.le_of_ble_eq_true rfl) dX10_dayOf_14 (fun y21 H locs f20 ry21 h22 hF hB => ?_)
  obtain ⟨rfl, ly21, uy21⟩ := h22
  refine q_iret cx hr hlk hB dX10_dayOf_17 ⟨by omega, by omega⟩ ?_
  exact ⟨rfl, (by omega), (by omega)⟩
set_option maxHeartbeats 4000000 in
set_option maxRecDepth 100000 in
theorem g_X10_dayOf_1 (l : Launch) (g : q_G) {K : Nat → Nat} {L : List Nat} (hN : L.Nodup) {f : Nat → va_E} (hT : q_Ty g K L f) (v : Nat) (hv : v ∈ L) (kv : K v = 13) (p0 : Int) (lp0 : (-2147483648) ≤ p0) (up0 : p0 ≤ 2147483647) : q_Ct l g K L yX10_dayOf cX10_dayOf 2 (some .int) 1 21 [.ref v, .int (q_i p0)] f [] (q_Pi (fun (z : Int) (f1 : Nat → va_E) => f = f1 ∧ (-59) ≤ z ∧ z ≤ 59)) := by
  refine q_ofb (by decide +kernel) hN hT (Nat.le_of_ble_eq_true rfl) ?_
  intro p e s m below meth c ls cx hr hlk hB hl
  have hl : lv_has ls 2 [(0, .ref v), (1, .int (q_i p0))] := hl
  obtain ⟨H, hH⟩ : ∃ H : Heap, H = s.heap := ⟨_, rfl⟩
  obtain ⟨locs, hlocs⟩ : ∃ z : List Loc, z = [] := ⟨_, rfl⟩
  rw [← hH, ← hlocs] at hB
  rw [← hH, ← hlocs]
  refine q_ald_n cx dX10_dayOf_0 rfl (lv_at hl 0 rfl) ?_
  refine q_ald_n cx dX10_dayOf_1 rfl (lv_at hl 0 rfl) ?_
  obtain ⟨x12, ex12⟩ : ∃ zz, q_is (q_z f v 11) zz := ⟨_, q_isr _⟩
  refine q_gX10_60_13 cx hB hv kv ex12 dX10_dayOf_2 (fun lb13 ub13 => ?_)
  refine q_ald_n cx dX10_dayOf_5 rfl (lv_at hl 0 rfl) ?_
  refine q_ild_n cx dX10_dayOf_6 rfl (lv_at hl 1 rfl) ?_
  refine q_cVr (As := [.int (q_i p0)]) (rest := [.int (q_i x12), .ref v]) cx hB (fun _ h => h) hN hv kv (by decide) rfl (g_X10_nodeAt_1 l g hN hB.2.1 v hv kv p0 (by omega) (by omega)) q_cX10_66 q_dX10_nodeAt (by decide) rfl rfl hl.1 rfl (Nat.le_of_ble_eq_true rfl) dX10_dayOf_7 (fun y15 H locs f14 h16 hF hB => ?_)
  obtain ⟨rfl, hy15, ky15⟩ := h16
  obtain ⟨x17, ex17⟩ : ∃ zz, q_is (q_z f y15 3) zz := ⟨_, q_isr _⟩
  refine q_gX10_98_17 cx hB hy15 ky15 ex17 dX10_dayOf_10 (fun lb18 ub18 => ?_)
  refine q_iadd cx dX10_dayOf_13 ?_
  refine q_any (fun y19 ry19 ey19 => ?_)
  refine q_cVi (As := [.int (q_i y19)]) (rest := []) cx hB (fun _ h => h) hN hv kv (by decide) rfl (g_X10_dayOfYear_1 l g hN hB.2.1 v hv kv y19 (by omega) (by omega)) q_cX10_156 q_dX10_dayOfYear (by decide) rfl rfl hl.1 rfl (Nat.le_of_ble_eq_true rfl) dX10_dayOf_14 (fun y21 H locs f20 ry21 h22 hF hB => ?_)
  obtain ⟨rfl, ly21, uy21⟩ := h22
  refine q_iret cx hr hlk hB dX10_dayOf_17 ⟨by omega, by omega⟩ ?_
  exact ⟨rfl, (by omega), (by omega)⟩
set_option maxHeartbeats 4000000 in
set_option maxRecDepth 100000 in
theorem g_X10_dayOf_2 (l : Launch) (g : q_G) {K : Nat → Nat} {L : List Nat} (hN : L.Nodup) {f : Nat → va_E} (hT : q_Ty g K L f) (v : Nat) (hv : v ∈ L) (kv : K v = 14) (p0 : Int) (lp0 : (-2147483648) ≤ p0) (up0 : p0 ≤ 2147483647) : q_Ct l g K L yX10_dayOf cX10_dayOf 2 (some .int) 1 21 [.ref v, .int (q_i p0)] f [] (q_Pi (fun (z : Int) (f1 : Nat → va_E) => f = f1 ∧ (-59) ≤ z ∧ z ≤ 59)) := by
  refine q_ofb (by decide +kernel) hN hT (Nat.le_of_ble_eq_true rfl) ?_
  intro p e s m below meth c ls cx hr hlk hB hl
  have hl : lv_has ls 2 [(0, .ref v), (1, .int (q_i p0))] := hl
  obtain ⟨H, hH⟩ : ∃ H : Heap, H = s.heap := ⟨_, rfl⟩
  obtain ⟨locs, hlocs⟩ : ∃ z : List Loc, z = [] := ⟨_, rfl⟩
  rw [← hH, ← hlocs] at hB
  rw [← hH, ← hlocs]
  refine q_ald_n cx dX10_dayOf_0 rfl (lv_at hl 0 rfl) ?_
  refine q_ald_n cx dX10_dayOf_1 rfl (lv_at hl 0 rfl) ?_
  obtain ⟨x12, ex12⟩ : ∃ zz, q_is (q_z f v 11) zz := ⟨_, q_isr _⟩
  refine q_gX10_60_14 cx hB hv kv ex12 dX10_dayOf_2 (fun lb13 ub13 => ?_)
  refine q_ald_n cx dX10_dayOf_5 rfl (lv_at hl 0 rfl) ?_
  refine q_ild_n cx dX10_dayOf_6 rfl (lv_at hl 1 rfl) ?_
  refine q_cVr (As := [.int (q_i p0)]) (rest := [.int (q_i x12), .ref v]) cx hB (fun _ h => h) hN hv kv (by decide) rfl (g_X10_nodeAt_2 l g hN hB.2.1 v hv kv p0 (by omega) (by omega)) q_cX10_66 q_dX10_nodeAt (by decide) rfl rfl hl.1 rfl (Nat.le_of_ble_eq_true rfl) dX10_dayOf_7 (fun y15 H locs f14 h16 hF hB => ?_)
  obtain ⟨rfl, hy15, ky15⟩ := h16
  obtain ⟨x17, ex17⟩ : ∃ zz, q_is (q_z f y15 3) zz := ⟨_, q_isr _⟩
  refine q_gX10_98_18 cx hB hy15 ky15 ex17 dX10_dayOf_10 (fun lb18 ub18 => ?_)
  refine q_iadd cx dX10_dayOf_13 ?_
  refine q_any (fun y19 ry19 ey19 => ?_)
  refine q_cVi (As := [.int (q_i y19)]) (rest := []) cx hB (fun _ h => h) hN hv kv (by decide) rfl (g_X10_dayOfYear_2 l g hN hB.2.1 v hv kv y19 (by omega) (by omega)) q_cX10_156 q_dX10_dayOfYear (by decide) rfl rfl hl.1 rfl (Nat.le_of_ble_eq_true rfl) dX10_dayOf_14 (fun y21 H locs f20 ry21 h22 hF hB => ?_)
  obtain ⟨rfl, ly21, uy21⟩ := h22
  refine q_iret cx hr hlk hB dX10_dayOf_17 ⟨by omega, by omega⟩ ?_
  exact ⟨rfl, (by omega), (by omega)⟩
set_option maxHeartbeats 4000000 in
set_option maxRecDepth 100000 in
theorem g_X10_dayOf_3 (l : Launch) (g : q_G) {K : Nat → Nat} {L : List Nat} (hN : L.Nodup) {f : Nat → va_E} (hT : q_Ty g K L f) (v : Nat) (hv : v ∈ L) (kv : K v = 15) (p0 : Int) (lp0 : (-2147483648) ≤ p0) (up0 : p0 ≤ 2147483647) : q_Ct l g K L yX10_dayOf cX10_dayOf 2 (some .int) 1 21 [.ref v, .int (q_i p0)] f [] (q_Pi (fun (z : Int) (f1 : Nat → va_E) => f = f1 ∧ (-59) ≤ z ∧ z ≤ 59)) := by
  refine q_ofb (by decide +kernel) hN hT (Nat.le_of_ble_eq_true rfl) ?_
  intro p e s m below meth c ls cx hr hlk hB hl
  have hl : lv_has ls 2 [(0, .ref v), (1, .int (q_i p0))] := hl
  obtain ⟨H, hH⟩ : ∃ H : Heap, H = s.heap := ⟨_, rfl⟩
  obtain ⟨locs, hlocs⟩ : ∃ z : List Loc, z = [] := ⟨_, rfl⟩
  rw [← hH, ← hlocs] at hB
  rw [← hH, ← hlocs]
  refine q_ald_n cx dX10_dayOf_0 rfl (lv_at hl 0 rfl) ?_
  refine q_ald_n cx dX10_dayOf_1 rfl (lv_at hl 0 rfl) ?_
  obtain ⟨x12, ex12⟩ : ∃ zz, q_is (q_z f v 11) zz := ⟨_, q_isr _⟩
  refine q_gX10_60_15 cx hB hv kv ex12 dX10_dayOf_2 (fun lb13 ub13 => ?_)
  refine q_ald_n cx dX10_dayOf_5 rfl (lv_at hl 0 rfl) ?_
  refine q_ild_n cx dX10_dayOf_6 rfl (lv_at hl 1 rfl) ?_
  refine q_cVr (As := [.int (q_i p0)]) (rest := [.int (q_i x12), .ref v]) cx hB (fun _ h => h) hN hv kv (by decide) rfl (g_X10_nodeAt_3 l g hN hB.2.1 v hv kv p0 (by omega) (by omega)) q_cX10_66 q_dX10_nodeAt (by decide) rfl rfl hl.1 rfl (Nat.le_of_ble_eq_true rfl) dX10_dayOf_7 (fun y15 H locs f14 h16 hF hB => ?_)
  obtain ⟨rfl, hy15, ky15⟩ := h16
  obtain ⟨x17, ex17⟩ : ∃ zz, q_is (q_z f y15 3) zz := ⟨_, q_isr _⟩
  refine q_gX10_98_19 cx hB hy15 ky15 ex17 dX10_dayOf_10 (fun lb18 ub18 => ?_)
  refine q_iadd cx dX10_dayOf_13 ?_
  refine q_any (fun y19 ry19 ey19 => ?_)
  refine q_cVi (As := [.int (q_i y19)]) (rest := []) cx hB (fun _ h => h) hN hv kv (by decide) rfl (g_X10_dayOfYear_3 l g hN hB.2.1 v hv kv y19 (by omega) (by omega)) q_cX10_156 q_dX10_dayOfYear (by decide) rfl rfl hl.1 rfl (Nat.le_of_ble_eq_true rfl) dX10_dayOf_14 (fun y21 H locs f20 ry21 h22 hF hB => ?_)
  obtain ⟨rfl, ly21, uy21⟩ := h22
  refine q_iret cx hr hlk hB dX10_dayOf_17 ⟨by omega, by omega⟩ ?_
  exact ⟨rfl, (by omega), (by omega)⟩
set_option maxHeartbeats 4000000 in
set_option maxRecDepth 100000 in
theorem g_X10_dayOf_4 (l : Launch) (g : q_G) {K : Nat → Nat} {L : List Nat} (hN : L.Nodup) {f : Nat → va_E} (hT : q_Ty g K L f) (v : Nat) (hv : v ∈ L) (kv : K v = 16) (p0 : Int) (lp0 : (-2147483648) ≤ p0) (up0 : p0 ≤ 2147483647) : q_Ct l g K L yX10_dayOf cX10_dayOf 2 (some .int) 1 21 [.ref v, .int (q_i p0)] f [] (q_Pi (fun (z : Int) (f1 : Nat → va_E) => f = f1 ∧ (-59) ≤ z ∧ z ≤ 59)) := by
  refine q_ofb (by decide +kernel) hN hT (Nat.le_of_ble_eq_true rfl) ?_
  intro p e s m below meth c ls cx hr hlk hB hl
  have hl : lv_has ls 2 [(0, .ref v), (1, .int (q_i p0))] := hl
  obtain ⟨H, hH⟩ : ∃ H : Heap, H = s.heap := ⟨_, rfl⟩
  obtain ⟨locs, hlocs⟩ : ∃ z : List Loc, z = [] := ⟨_, rfl⟩
  rw [← hH, ← hlocs] at hB
  rw [← hH, ← hlocs]
  refine q_ald_n cx dX10_dayOf_0 rfl (lv_at hl 0 rfl) ?_
  refine q_ald_n cx dX10_dayOf_1 rfl (lv_at hl 0 rfl) ?_
  obtain ⟨x12, ex12⟩ : ∃ zz, q_is (q_z f v 11) zz := ⟨_, q_isr _⟩
  refine q_gX10_60_16 cx hB hv kv ex12 dX10_dayOf_2 (fun lb13 ub13 => ?_)
  refine q_ald_n cx dX10_dayOf_5 rfl (lv_at hl 0 rfl) ?_
  refine q_ild_n cx dX10_dayOf_6 rfl (lv_at hl 1 rfl) ?_
  refine q_cVr (As := [.int (q_i p0)]) (rest := [.int (q_i x12), .ref v]) cx hB (fun _ h => h) hN hv kv (by decide) rfl (g_X10_nodeAt_4 l g hN hB.2.1 v hv kv p0 (by omega) (by omega)) q_cX10_66 q_dX10_nodeAt (by decide) rfl rfl hl.1 rfl (Nat.le_of_ble_eq_true rfl) dX10_dayOf_7 (fun y15 H locs f14 h16 hF hB => ?_)
  obtain ⟨rfl, hy15, ky15⟩ := h16
  obtain ⟨x17, ex17⟩ : ∃ zz, q_is (q_z f y15 3) zz := ⟨_, q_isr _⟩
  refine q_gX10_98_20 cx hB hy15 ky15 ex17 dX10_dayOf_10 (fun lb18 ub18 => ?_)
  refine q_iadd cx dX10_dayOf_13 ?_
  refine q_any (fun y19 ry19 ey19 => ?_)
  refine q_cVi (As := [.int (q_i y19)]) (rest := []) cx hB (fun _ h => h) hN hv kv (by decide) rfl (g_X10_dayOfYear_4 l g hN hB.2.1 v hv kv y19 (by omega) (by omega)) q_cX10_156 q_dX10_dayOfYear (by decide) rfl rfl hl.1 rfl (Nat.le_of_ble_eq_true rfl) dX10_dayOf_14 (fun y21 H locs f20 ry21 h22 hF hB => ?_)
  obtain ⟨rfl, ly21, uy21⟩ := h22
  refine q_iret cx hr hlk hB dX10_dayOf_17 ⟨by omega, by omega⟩ ?_
  exact ⟨rfl, (by omega), (by omega)⟩
set_option maxHeartbeats 4000000 in
set_option maxRecDepth 100000 in
theorem g_X10_isOut (l : Launch) (g : q_G) {K : Nat → Nat} {L : List Nat} (hN : L.Nodup) {f : Nat → va_E} (hT : q_Ty g K L f) (v : Nat) (hv : v ∈ L) (kv : K v = 10) (p0 : Int) (lp0 : (-2147483648) ≤ p0) (up0 : p0 ≤ 2147483647) : q_Ct l g K L yX10_isOut cX10_isOut 2 (some .boolean) 1 21 [.ref v, .int (q_i p0)] f [] (q_Pi (fun (z : Int) (f1 : Nat → va_E) => f = f1 ∧ 0 ≤ z ∧ z ≤ 1)) := by
  refine q_ofb (by decide +kernel) hN hT (Nat.le_of_ble_eq_true rfl) ?_
  intro p e s m below meth c ls cx hr hlk hB hl
  have hl : lv_has ls 2 [(0, .ref v), (1, .int (q_i p0))] := hl
  have J16 : ∀ (t16_0 : Int) (lt16_0 : 0 ≤ t16_0) (ut16_0 : t16_0 ≤ 1) (H : Heap) (locs : List Loc) (hB : q_B g K L (fun q => q ∈ L) [] f f s H locs) (ls : Array Slot) (hl : lv_has ls 2 []), W p l e { frames := 1, cells := 0, slots := 0, locals := 21 } s m ([.ref v, .int (q_i p0)] : List Value).toArray below meth c H locs 0 0 (MQ below (q_Q g K L [] f (q_Pi (fun (z : Int) (f1 : Nat → va_E) => f = f1 ∧ 0 ≤ z ∧ z ≤ 1))) ([.ref v, .int (q_i p0)] : List Value).toArray s 0 0 (fun q => q ∈ L)) (F0 m 16 ls [.int (q_i t16_0)]) := by
    intro t16_0 lt16_0 ut16_0 H locs hB ls hl
    refine q_zret cx hr hlk hB dX10_isOut_16 (by omega) (by omega) ?_
    exact ⟨rfl, (by omega), (by omega)⟩
  obtain ⟨H, hH⟩ : ∃ H : Heap, H = s.heap := ⟨_, rfl⟩
  obtain ⟨locs, hlocs⟩ : ∃ z : List Loc, z = [] := ⟨_, rfl⟩
  rw [← hH, ← hlocs] at hB
  rw [← hH, ← hlocs]
  refine q_ald_n cx dX10_isOut_0 rfl (lv_at hl 0 rfl) ?_
  refine q_ild_n cx dX10_isOut_1 rfl (lv_at hl 1 rfl) ?_
  refine q_cVr (As := [.int (q_i p0)]) (rest := []) cx hB (fun _ h => h) hN hv kv (by decide) rfl (g_X10_nodeAt l g hN hB.2.1 v hv kv p0 (by omega) (by omega)) q_cX10_66 q_dX10_nodeAt (by decide) rfl rfl hl.1 rfl (Nat.le_of_ble_eq_true rfl) dX10_isOut_2 (fun y8 H locs f7 h9 hF hB => ?_)
  obtain ⟨rfl, hy8, ky8⟩ := h9
  obtain ⟨x10, ex10⟩ : ∃ zz, q_is (q_z f y8 4) zz := ⟨_, q_isr _⟩
  refine q_gX10_101 cx hB hy8 ky8 ex10 dX10_isOut_5 (fun lb11 ub11 => ?_)
  refine q_ifne (tgt := 15) cx ⟨by omega, by omega⟩ dX10_isOut_8 (by decide) (fun c12 => ?_) (fun c12 => ?_)
  · refine q_iconst cx dX10_isOut_15 ?_
    exact J16 0 (by decide) (by decide) H locs hB ls (lv_sub hl [] rfl)
  · refine q_iconst cx dX10_isOut_11 ?_
    refine lv_goto (tgt := 16) cx.1 cx.2.1 dX10_isOut_12 (by decide) ?_
    exact J16 1 (by decide) (by decide) H locs hB ls (lv_sub hl [] rfl)
set_option maxHeartbeats 4000000 in
set_option maxRecDepth 100000 in
theorem g_X10_isOut_1 (l : Launch) (g : q_G) {K : Nat → Nat} {L : List Nat} (hN : L.Nodup) {f : Nat → va_E} (hT : q_Ty g K L f) (v : Nat) (hv : v ∈ L) (kv : K v = 13) (p0 : Int) (lp0 : (-2147483648) ≤ p0) (up0 : p0 ≤ 2147483647) : q_Ct l g K L yX10_isOut cX10_isOut 2 (some .boolean) 1 21 [.ref v, .int (q_i p0)] f [] (q_Pi (fun (z : Int) (f1 : Nat → va_E) => f = f1 ∧ 0 ≤ z ∧ z ≤ 1)) := by
  refine q_ofb (by decide +kernel) hN hT (Nat.le_of_ble_eq_true rfl) ?_
  intro p e s m below meth c ls cx hr hlk hB hl
  have hl : lv_has ls 2 [(0, .ref v), (1, .int (q_i p0))] := hl
  have J16 : ∀ (t16_0 : Int) (lt16_0 : 0 ≤ t16_0) (ut16_0 : t16_0 ≤ 1) (H : Heap) (locs : List Loc) (hB : q_B g K L (fun q => q ∈ L) [] f f s H locs) (ls : Array Slot) (hl : lv_has ls 2 []), W p l e { frames := 1, cells := 0, slots := 0, locals := 21 } s m ([.ref v, .int (q_i p0)] : List Value).toArray below meth c H locs 0 0 (MQ below (q_Q g K L [] f (q_Pi (fun (z : Int) (f1 : Nat → va_E) => f = f1 ∧ 0 ≤ z ∧ z ≤ 1))) ([.ref v, .int (q_i p0)] : List Value).toArray s 0 0 (fun q => q ∈ L)) (F0 m 16 ls [.int (q_i t16_0)]) := by
    intro t16_0 lt16_0 ut16_0 H locs hB ls hl
    refine q_zret cx hr hlk hB dX10_isOut_16 (by omega) (by omega) ?_
    exact ⟨rfl, (by omega), (by omega)⟩
  obtain ⟨H, hH⟩ : ∃ H : Heap, H = s.heap := ⟨_, rfl⟩
  obtain ⟨locs, hlocs⟩ : ∃ z : List Loc, z = [] := ⟨_, rfl⟩
  rw [← hH, ← hlocs] at hB
  rw [← hH, ← hlocs]
  refine q_ald_n cx dX10_isOut_0 rfl (lv_at hl 0 rfl) ?_
  refine q_ild_n cx dX10_isOut_1 rfl (lv_at hl 1 rfl) ?_
  refine q_cVr (As := [.int (q_i p0)]) (rest := []) cx hB (fun _ h => h) hN hv kv (by decide) rfl (g_X10_nodeAt_1 l g hN hB.2.1 v hv kv p0 (by omega) (by omega)) q_cX10_66 q_dX10_nodeAt (by decide) rfl rfl hl.1 rfl (Nat.le_of_ble_eq_true rfl) dX10_isOut_2 (fun y8 H locs f7 h9 hF hB => ?_)
  obtain ⟨rfl, hy8, ky8⟩ := h9
  obtain ⟨x10, ex10⟩ : ∃ zz, q_is (q_z f y8 4) zz := ⟨_, q_isr _⟩
  refine q_gX10_101_17 cx hB hy8 ky8 ex10 dX10_isOut_5 (fun lb11 ub11 => ?_)
  refine q_ifne (tgt := 15) cx ⟨by omega, by omega⟩ dX10_isOut_8 (by decide) (fun c12 => ?_) (fun c12 => ?_)
  · refine q_iconst cx dX10_isOut_15 ?_
    exact J16 0 (by decide) (by decide) H locs hB ls (lv_sub hl [] rfl)
  · refine q_iconst cx dX10_isOut_11 ?_
    refine lv_goto (tgt := 16) cx.1 cx.2.1 dX10_isOut_12 (by decide) ?_
    exact J16 1 (by decide) (by decide) H locs hB ls (lv_sub hl [] rfl)
set_option maxHeartbeats 4000000 in
set_option maxRecDepth 100000 in
theorem g_X10_isOut_2 (l : Launch) (g : q_G) {K : Nat → Nat} {L : List Nat} (hN : L.Nodup) {f : Nat → va_E} (hT : q_Ty g K L f) (v : Nat) (hv : v ∈ L) (kv : K v = 14) (p0 : Int) (lp0 : (-2147483648) ≤ p0) (up0 : p0 ≤ 2147483647) : q_Ct l g K L yX10_isOut cX10_isOut 2 (some .boolean) 1 21 [.ref v, .int (q_i p0)] f [] (q_Pi (fun (z : Int) (f1 : Nat → va_E) => f = f1 ∧ 0 ≤ z ∧ z ≤ 1)) := by
  refine q_ofb (by decide +kernel) hN hT (Nat.le_of_ble_eq_true rfl) ?_
  intro p e s m below meth c ls cx hr hlk hB hl
  have hl : lv_has ls 2 [(0, .ref v), (1, .int (q_i p0))] := hl
  have J16 : ∀ (t16_0 : Int) (lt16_0 : 0 ≤ t16_0) (ut16_0 : t16_0 ≤ 1) (H : Heap) (locs : List Loc) (hB : q_B g K L (fun q => q ∈ L) [] f f s H locs) (ls : Array Slot) (hl : lv_has ls 2 []), W p l e { frames := 1, cells := 0, slots := 0, locals := 21 } s m ([.ref v, .int (q_i p0)] : List Value).toArray below meth c H locs 0 0 (MQ below (q_Q g K L [] f (q_Pi (fun (z : Int) (f1 : Nat → va_E) => f = f1 ∧ 0 ≤ z ∧ z ≤ 1))) ([.ref v, .int (q_i p0)] : List Value).toArray s 0 0 (fun q => q ∈ L)) (F0 m 16 ls [.int (q_i t16_0)]) := by
    intro t16_0 lt16_0 ut16_0 H locs hB ls hl
    refine q_zret cx hr hlk hB dX10_isOut_16 (by omega) (by omega) ?_
    exact ⟨rfl, (by omega), (by omega)⟩
  obtain ⟨H, hH⟩ : ∃ H : Heap, H = s.heap := ⟨_, rfl⟩
  obtain ⟨locs, hlocs⟩ : ∃ z : List Loc, z = [] := ⟨_, rfl⟩
  rw [← hH, ← hlocs] at hB
  rw [← hH, ← hlocs]
  refine q_ald_n cx dX10_isOut_0 rfl (lv_at hl 0 rfl) ?_
  refine q_ild_n cx dX10_isOut_1 rfl (lv_at hl 1 rfl) ?_
  refine q_cVr (As := [.int (q_i p0)]) (rest := []) cx hB (fun _ h => h) hN hv kv (by decide) rfl (g_X10_nodeAt_2 l g hN hB.2.1 v hv kv p0 (by omega) (by omega)) q_cX10_66 q_dX10_nodeAt (by decide) rfl rfl hl.1 rfl (Nat.le_of_ble_eq_true rfl) dX10_isOut_2 (fun y8 H locs f7 h9 hF hB => ?_)
  obtain ⟨rfl, hy8, ky8⟩ := h9
  obtain ⟨x10, ex10⟩ : ∃ zz, q_is (q_z f y8 4) zz := ⟨_, q_isr _⟩
  refine q_gX10_101_18 cx hB hy8 ky8 ex10 dX10_isOut_5 (fun lb11 ub11 => ?_)
  refine q_ifne (tgt := 15) cx ⟨by omega, by omega⟩ dX10_isOut_8 (by decide) (fun c12 => ?_) (fun c12 => ?_)
  · refine q_iconst cx dX10_isOut_15 ?_
    exact J16 0 (by decide) (by decide) H locs hB ls (lv_sub hl [] rfl)
  · refine q_iconst cx dX10_isOut_11 ?_
    refine lv_goto (tgt := 16) cx.1 cx.2.1 dX10_isOut_12 (by decide) ?_
    exact J16 1 (by decide) (by decide) H locs hB ls (lv_sub hl [] rfl)
set_option maxHeartbeats 4000000 in
set_option maxRecDepth 100000 in
theorem g_X10_isOut_3 (l : Launch) (g : q_G) {K : Nat → Nat} {L : List Nat} (hN : L.Nodup) {f : Nat → va_E} (hT : q_Ty g K L f) (v : Nat) (hv : v ∈ L) (kv : K v = 15) (p0 : Int) (lp0 : (-2147483648) ≤ p0) (up0 : p0 ≤ 2147483647) : q_Ct l g K L yX10_isOut cX10_isOut 2 (some .boolean) 1 21 [.ref v, .int (q_i p0)] f [] (q_Pi (fun (z : Int) (f1 : Nat → va_E) => f = f1 ∧ 0 ≤ z ∧ z ≤ 1)) := by
  refine q_ofb (by decide +kernel) hN hT (Nat.le_of_ble_eq_true rfl) ?_
  intro p e s m below meth c ls cx hr hlk hB hl
  have hl : lv_has ls 2 [(0, .ref v), (1, .int (q_i p0))] := hl
  have J16 : ∀ (t16_0 : Int) (lt16_0 : 0 ≤ t16_0) (ut16_0 : t16_0 ≤ 1) (H : Heap) (locs : List Loc) (hB : q_B g K L (fun q => q ∈ L) [] f f s H locs) (ls : Array Slot) (hl : lv_has ls 2 []), W p l e { frames := 1, cells := 0, slots := 0, locals := 21 } s m ([.ref v, .int (q_i p0)] : List Value).toArray below meth c H locs 0 0 (MQ below (q_Q g K L [] f (q_Pi (fun (z : Int) (f1 : Nat → va_E) => f = f1 ∧ 0 ≤ z ∧ z ≤ 1))) ([.ref v, .int (q_i p0)] : List Value).toArray s 0 0 (fun q => q ∈ L)) (F0 m 16 ls [.int (q_i t16_0)]) := by
    intro t16_0 lt16_0 ut16_0 H locs hB ls hl
    refine q_zret cx hr hlk hB dX10_isOut_16 (by omega) (by omega) ?_
    exact ⟨rfl, (by omega), (by omega)⟩
  obtain ⟨H, hH⟩ : ∃ H : Heap, H = s.heap := ⟨_, rfl⟩
  obtain ⟨locs, hlocs⟩ : ∃ z : List Loc, z = [] := ⟨_, rfl⟩
  rw [← hH, ← hlocs] at hB
  rw [← hH, ← hlocs]
  refine q_ald_n cx dX10_isOut_0 rfl (lv_at hl 0 rfl) ?_
  refine q_ild_n cx dX10_isOut_1 rfl (lv_at hl 1 rfl) ?_
  refine q_cVr (As := [.int (q_i p0)]) (rest := []) cx hB (fun _ h => h) hN hv kv (by decide) rfl (g_X10_nodeAt_3 l g hN hB.2.1 v hv kv p0 (by omega) (by omega)) q_cX10_66 q_dX10_nodeAt (by decide) rfl rfl hl.1 rfl (Nat.le_of_ble_eq_true rfl) dX10_isOut_2 (fun y8 H locs f7 h9 hF hB => ?_)
  obtain ⟨rfl, hy8, ky8⟩ := h9
  obtain ⟨x10, ex10⟩ : ∃ zz, q_is (q_z f y8 4) zz := ⟨_, q_isr _⟩
  refine q_gX10_101_19 cx hB hy8 ky8 ex10 dX10_isOut_5 (fun lb11 ub11 => ?_)
  refine q_ifne (tgt := 15) cx ⟨by omega, by omega⟩ dX10_isOut_8 (by decide) (fun c12 => ?_) (fun c12 => ?_)
  · refine q_iconst cx dX10_isOut_15 ?_
    exact J16 0 (by decide) (by decide) H locs hB ls (lv_sub hl [] rfl)
  · refine q_iconst cx dX10_isOut_11 ?_
    refine lv_goto (tgt := 16) cx.1 cx.2.1 dX10_isOut_12 (by decide) ?_
    exact J16 1 (by decide) (by decide) H locs hB ls (lv_sub hl [] rfl)
set_option maxHeartbeats 4000000 in
set_option maxRecDepth 100000 in
theorem g_X10_isOut_4 (l : Launch) (g : q_G) {K : Nat → Nat} {L : List Nat} (hN : L.Nodup) {f : Nat → va_E} (hT : q_Ty g K L f) (v : Nat) (hv : v ∈ L) (kv : K v = 16) (p0 : Int) (lp0 : (-2147483648) ≤ p0) (up0 : p0 ≤ 2147483647) : q_Ct l g K L yX10_isOut cX10_isOut 2 (some .boolean) 1 21 [.ref v, .int (q_i p0)] f [] (q_Pi (fun (z : Int) (f1 : Nat → va_E) => f = f1 ∧ 0 ≤ z ∧ z ≤ 1)) := by
  refine q_ofb (by decide +kernel) hN hT (Nat.le_of_ble_eq_true rfl) ?_
  intro p e s m below meth c ls cx hr hlk hB hl
  have hl : lv_has ls 2 [(0, .ref v), (1, .int (q_i p0))] := hl
  have J16 : ∀ (t16_0 : Int) (lt16_0 : 0 ≤ t16_0) (ut16_0 : t16_0 ≤ 1) (H : Heap) (locs : List Loc) (hB : q_B g K L (fun q => q ∈ L) [] f f s H locs) (ls : Array Slot) (hl : lv_has ls 2 []), W p l e { frames := 1, cells := 0, slots := 0, locals := 21 } s m ([.ref v, .int (q_i p0)] : List Value).toArray below meth c H locs 0 0 (MQ below (q_Q g K L [] f (q_Pi (fun (z : Int) (f1 : Nat → va_E) => f = f1 ∧ 0 ≤ z ∧ z ≤ 1))) ([.ref v, .int (q_i p0)] : List Value).toArray s 0 0 (fun q => q ∈ L)) (F0 m 16 ls [.int (q_i t16_0)]) := by
    intro t16_0 lt16_0 ut16_0 H locs hB ls hl
    refine q_zret cx hr hlk hB dX10_isOut_16 (by omega) (by omega) ?_
    exact ⟨rfl, (by omega), (by omega)⟩
  obtain ⟨H, hH⟩ : ∃ H : Heap, H = s.heap := ⟨_, rfl⟩
  obtain ⟨locs, hlocs⟩ : ∃ z : List Loc, z = [] := ⟨_, rfl⟩
  rw [← hH, ← hlocs] at hB
  rw [← hH, ← hlocs]
  refine q_ald_n cx dX10_isOut_0 rfl (lv_at hl 0 rfl) ?_
  refine q_ild_n cx dX10_isOut_1 rfl (lv_at hl 1 rfl) ?_
  refine q_cVr (As := [.int (q_i p0)]) (rest := []) cx hB (fun _ h => h) hN hv kv (by decide) rfl (g_X10_nodeAt_4 l g hN hB.2.1 v hv kv p0 (by omega) (by omega)) q_cX10_66 q_dX10_nodeAt (by decide) rfl rfl hl.1 rfl (Nat.le_of_ble_eq_true rfl) dX10_isOut_2 (fun y8 H locs f7 h9 hF hB => ?_)
  obtain ⟨rfl, hy8, ky8⟩ := h9
  obtain ⟨x10, ex10⟩ : ∃ zz, q_is (q_z f y8 4) zz := ⟨_, q_isr _⟩
  refine q_gX10_101_20 cx hB hy8 ky8 ex10 dX10_isOut_5 (fun lb11 ub11 => ?_)
  refine q_ifne (tgt := 15) cx ⟨by omega, by omega⟩ dX10_isOut_8 (by decide) (fun c12 => ?_) (fun c12 => ?_)
  · refine q_iconst cx dX10_isOut_15 ?_
    exact J16 0 (by decide) (by decide) H locs hB ls (lv_sub hl [] rfl)
  · refine q_iconst cx dX10_isOut_11 ?_
    refine lv_goto (tgt := 16) cx.1 cx.2.1 dX10_isOut_12 (by decide) ?_
    exact J16 1 (by decide) (by decide) H locs hB ls (lv_sub hl [] rfl)
set_option maxHeartbeats 4000000 in
set_option maxRecDepth 100000 in
theorem g_X10_has (l : Launch) (g : q_G) {K : Nat → Nat} {L : List Nat} (hN : L.Nodup) {f : Nat → va_E} (hT : q_Ty g K L f) (p0 : Int) (lp0 : (-2147483648) ≤ p0) (up0 : p0 ≤ 2147483647) (p1 : Int) (lp1 : (-2147483648) ≤ p1) (up1 : p1 ≤ 2147483647) : q_Ct l g K L yX10_has cX10_has 2 (some .boolean) 0 0 [.int (q_i p0), .int (q_i p1)] f [] (q_Pi (fun (z : Int) (f1 : Nat → va_E) => f = f1 ∧ 0 ≤ z ∧ z ≤ 1)) := by
  refine q_ofb (by decide +kernel) hN hT (Nat.le_of_ble_eq_true rfl) ?_
  intro p e s m below meth c ls cx hr hlk hB hl
  have hl : lv_has ls 2 [(0, .int (q_i p0)), (1, .int (q_i p1))] := hl
  have J13 : ∀ (t13_0 : Int) (lt13_0 : 0 ≤ t13_0) (ut13_0 : t13_0 ≤ 1) (H : Heap) (locs : List Loc) (hB : q_B g K L (fun q => q ∈ L) [] f f s H locs) (ls : Array Slot) (hl : lv_has ls 2 []), W p l e { frames := 0, cells := 0, slots := 0, locals := 0 } s m ([.int (q_i p0), .int (q_i p1)] : List Value).toArray below meth c H locs 0 0 (MQ below (q_Q g K L [] f (q_Pi (fun (z : Int) (f1 : Nat → va_E) => f = f1 ∧ 0 ≤ z ∧ z ≤ 1))) ([.int (q_i p0), .int (q_i p1)] : List Value).toArray s 0 0 (fun q => q ∈ L)) (F0 m 13 ls [.int (q_i t13_0)]) := by
    intro t13_0 lt13_0 ut13_0 H locs hB ls hl
    refine q_zret cx hr hlk hB dX10_has_13 (by omega) (by omega) ?_
    exact ⟨rfl, (by omega), (by omega)⟩
  obtain ⟨H, hH⟩ : ∃ H : Heap, H = s.heap := ⟨_, rfl⟩
  obtain ⟨locs, hlocs⟩ : ∃ z : List Loc, z = [] := ⟨_, rfl⟩
  rw [← hH, ← hlocs] at hB
  rw [← hH, ← hlocs]
  refine q_ild_n cx dX10_has_0 rfl (lv_at hl 0 rfl) ?_
  refine q_ild_n cx dX10_has_1 rfl (lv_at hl 1 rfl) ?_
  refine q_ishr cx dX10_has_2 (fun y4 ry4 ey4 => ?_)
  refine q_iconst cx dX10_has_3 ?_
  refine q_iandm cx 1 (by decide) rfl dX10_has_4 (fun y5 ly5 uy5 ey5 => ?_)
  refine q_ifeq (tgt := 12) cx ⟨by omega, by omega⟩ dX10_has_5 (by decide) (fun c6 => ?_) (fun c6 => ?_)
  · refine q_iconst cx dX10_has_12 ?_
    exact J13 0 (by decide) (by decide) H locs hB ls (lv_sub hl [] rfl)
  · refine q_iconst cx dX10_has_8 ?_
    refine lv_goto (tgt := 13) cx.1 cx.2.1 dX10_has_9 (by decide) ?_
    exact J13 1 (by decide) (by decide) H locs hB ls (lv_sub hl [] rfl)
set_option maxHeartbeats 4000000 in
set_option maxRecDepth 100000 in
theorem g_X10_tableOf (l : Launch) (g : q_G) {K : Nat → Nat} {L : List Nat} (hN : L.Nodup) {f : Nat → va_E} (hT : q_Ty g K L f) (v : Nat) (hv : v ∈ L) (kv : K v = 10) (p0 : Int) (lp0 : (-2147483648) ≤ p0) (up0 : p0 ≤ 2147483647) : q_Ct l g K L yX10_tableOf cX10_tableOf 6 (some .long) 1 21 [.ref v, .int (q_i p0)] f [] (q_Pl (fun (z : Int64) (f1 : Nat → va_E) => f = f1)) := by
  refine q_ofb (by decide +kernel) hN hT (Nat.le_of_ble_eq_true rfl) ?_
  intro p e s m below meth c ls cx hr hlk hB hl
  have hl : lv_has ls 6 [(0, .ref v), (1, .int (q_i p0))] := hl
  have J21 : ∀ (n : Nat) (v21_2 : Nat) (hv21_2 : v21_2 ∈ L) (kv21_2 : K v21_2 = 5) (v21_3 : Int64) (v21_5 : Int) (lv21_5 : 0 ≤ v21_5) (uv21_5 : v21_5 ≤ 10) (hmu : (Int.toNat (2147483647 - v21_5)) < n) (H : Heap) (locs : List Loc) (hB : q_B g K L (fun q => q ∈ L) [] f f s H locs) (ls : Array Slot) (hl : lv_has ls 6 [(0, .ref v), (2, .ref v21_2), (3, .long v21_3), (5, .int (q_i v21_5))]), W p l e { frames := 1, cells := 0, slots := 0, locals := 21 } s m ([.ref v, .int (q_i p0)] : List Value).toArray below meth c H locs 0 0 (MQ below (q_Q g K L [] f (q_Pl (fun (z : Int64) (f1 : Nat → va_E) => f = f1))) ([.ref v, .int (q_i p0)] : List Value).toArray s 0 0 (fun q => q ∈ L)) (F0 m 21 ls []) := by
    intro n
    induction n with
    | zero =>
      intro v21_2 hv21_2 kv21_2 v21_3 v21_5 lv21_5 uv21_5 hmu
      exact absurd hmu (Nat.not_lt_zero _)
    | succ n ih21 =>
      intro v21_2 hv21_2 kv21_2 v21_3 v21_5 lv21_5 uv21_5 hmu H locs hB ls hl
      have J56 : ∀ (v56_3 : Int64) (buv21_5 : v21_5 ≤ 9) (H : Heap) (locs : List Loc) (hB : q_B g K L (fun q => q ∈ L) [] f f s H locs) (ls : Array Slot) (hl : lv_has ls 6 [(0, .ref v), (2, .ref v21_2), (3, .long v56_3), (5, .int (q_i v21_5))]), W p l e { frames := 1, cells := 0, slots := 0, locals := 21 } s m ([.ref v, .int (q_i p0)] : List Value).toArray below meth c H locs 0 0 (MQ below (q_Q g K L [] f (q_Pl (fun (z : Int64) (f1 : Nat → va_E) => f = f1))) ([.ref v, .int (q_i p0)] : List Value).toArray s 0 0 (fun q => q ∈ L)) (F0 m 56 ls []) := by
        intro v56_3 buv21_5 H locs hB ls hl
        refine q_iinc (lv' := [(5, .int (q_i (v21_5 + 1))), (0, .ref v), (2, .ref v21_2), (3, .long v56_3)]) cx dX10_tableOf_56 hl (k := 3) rfl (by decide) rfl (fun ls hl => ?_)
        refine lv_goto (tgt := 21) cx.1 cx.2.1 dX10_tableOf_59 (by decide) ?_
        exact ih21 v21_2 hv21_2 kv21_2 v56_3 (v21_5 + 1) (by omega) (by omega) (by omega) H locs hB ls (lv_sub hl [1, 2, 3, 0] rfl)
      refine lv_iload cx.1 cx.2.1 dX10_tableOf_21 (lv_at hl 3 rfl) ?_
      refine q_ald_n cx dX10_tableOf_23 rfl (lv_at hl 0 rfl) ?_
      obtain ⟨x169, ex169⟩ : ∃ zz, q_is (q_z f v 3) zz := ⟨_, q_isr _⟩
      refine q_gX10_35 cx hB hv kv ex169 dX10_tableOf_24 (fun lb170 ub170 => ?_)
      refine q_icge (tgt := 62) cx ⟨by omega, by omega⟩ ⟨by omega, by omega⟩ dX10_tableOf_27 (by decide) (fun c171 => ?_) (fun c171 => ?_)
      · refine q_lld_n cx dX10_tableOf_62 rfl (lv_at hl 2 rfl) ?_
        refine q_lret cx hr hlk hB dX10_tableOf_63 ?_
        exact rfl
      · refine q_ald_n cx dX10_tableOf_30 rfl (lv_at hl 1 rfl) ?_
        obtain ⟨x172, ex172⟩ : ∃ zz, q_is (q_z f v21_2 5) zz := ⟨_, q_isr _⟩
        refine q_gX10_104 cx hB hv21_2 kv21_2 ex172 dX10_tableOf_31 (fun lb173 ub173 => ?_)
        refine lv_iload cx.1 cx.2.1 dX10_tableOf_34 (lv_at hl 3 rfl) ?_
        refine q_cSi (As := [.int (q_i x172), .int (q_i v21_5)]) (rest := []) cx hB (fun _ h => h) hN (g_X10_has l g hN hB.2.1 x172 (by omega) (by omega) v21_5 (by omega) (by omega)) q_cX10_181 q_dX10_has (by decide) rfl rfl hl.1 rfl (Nat.le_of_ble_eq_true rfl) dX10_tableOf_36 (fun y175 H locs f174 ry175 h176 hF hB => ?_)
        obtain ⟨rfl, ly175, uy175⟩ := h176
        refine q_ifeq (tgt := 56) cx ⟨by omega, by omega⟩ dX10_tableOf_39 (by decide) (fun c177 => ?_) (fun c177 => ?_)
        · exact J56 v21_3 (by omega) H locs hB ls (lv_sub hl [0, 1, 2, 3] rfl)
        · refine q_lld_n cx dX10_tableOf_42 rfl (lv_at hl 2 rfl) ?_
          refine q_lconst (z := 1) cx (by decide) dX10_tableOf_43 ?_
          refine q_ald_n cx dX10_tableOf_44 rfl (lv_at hl 0 rfl) ?_
          refine lv_iload cx.1 cx.2.1 dX10_tableOf_45 (lv_at hl 3 rfl) ?_
          refine q_cVr (As := [.int (q_i v21_5)]) (rest := [.long (q_l 1), .long v21_3]) cx hB (fun _ h => h) hN hv kv (by decide) rfl (g_X10_nodeAt l g hN hB.2.1 v hv kv v21_5 (by omega) (by omega)) q_cX10_66 q_dX10_nodeAt (by decide) rfl rfl hl.1 rfl (Nat.le_of_ble_eq_true rfl) dX10_tableOf_47 (fun y179 H locs f178 h180 hF hB => ?_)
          obtain ⟨rfl, hy179, ky179⟩ := h180
          obtain ⟨x181, ex181⟩ : ∃ zz, q_is (q_z f y179 2) zz := ⟨_, q_isr _⟩
          refine q_gX10_95 cx hB hy179 ky179 ex181 dX10_tableOf_50 (fun lb182 ub182 => ?_)
          refine lv_lshl cx.1 cx.2.1 dX10_tableOf_53 rfl ?_
          refine lv_topl (fun j183 ej183 => ?_)
          refine lv_lor cx.1 cx.2.1 dX10_tableOf_54 ?_
          refine lv_topl (fun j184 ej184 => ?_)
          refine lv_lstore_n (lv' := [(3, .long j184), (0, .ref v), (2, .ref v21_2), (5, .int (q_i v21_5))]) cx.1 cx.2.1 dX10_tableOf_55 rfl hl (by decide) rfl (fun ls hl => ?_)
          exact J56 j184 (by omega) H locs hB ls (lv_sub hl [1, 2, 0, 3] rfl)
  obtain ⟨H, hH⟩ : ∃ H : Heap, H = s.heap := ⟨_, rfl⟩
  obtain ⟨locs, hlocs⟩ : ∃ z : List Loc, z = [] := ⟨_, rfl⟩
  rw [← hH, ← hlocs] at hB
  rw [← hH, ← hlocs]
  refine q_ald_n cx dX10_tableOf_0 rfl (lv_at hl 0 rfl) ?_
  refine q_ild_n cx dX10_tableOf_1 rfl (lv_at hl 1 rfl) ?_
  refine q_cVr (As := [.int (q_i p0)]) (rest := []) cx hB (fun _ h => h) hN hv kv (by decide) rfl (g_X10_nodeAt l g hN hB.2.1 v hv kv p0 (by omega) (by omega)) q_cX10_66 q_dX10_nodeAt (by decide) rfl rfl hl.1 rfl (Nat.le_of_ble_eq_true rfl) dX10_tableOf_2 (fun y186 H locs f185 h187 hF hB => ?_)
  obtain ⟨rfl, hy186, ky186⟩ := h187
  refine lv_astore_n (lv' := [(2, .ref y186), (0, .ref v), (1, .int (q_i p0))]) cx.1 cx.2.1 dX10_tableOf_5 rfl hl (by decide) rfl (fun ls hl => ?_)
  refine q_ald_n cx dX10_tableOf_6 rfl (lv_at hl 0 rfl) ?_
  obtain ⟨j188, ej188⟩ : ∃ zz, q_j f y186 1 = zz := ⟨_, rfl⟩
  refine q_gX10_92 cx hB hy186 ky186 ej188 dX10_tableOf_7 ?_
  refine q_lconst (z := 1) cx (by decide) dX10_tableOf_10 ?_
  refine q_ald_n cx dX10_tableOf_11 rfl (lv_at hl 0 rfl) ?_
  obtain ⟨x189, ex189⟩ : ∃ zz, q_is (q_z f y186 2) zz := ⟨_, q_isr _⟩
  refine q_gX10_95 cx hB hy186 ky186 ex189 dX10_tableOf_12 (fun lb190 ub190 => ?_)
  refine lv_lshl cx.1 cx.2.1 dX10_tableOf_15 rfl ?_
  refine lv_topl (fun j191 ej191 => ?_)
  refine lv_lor cx.1 cx.2.1 dX10_tableOf_16 ?_
  refine lv_topl (fun j192 ej192 => ?_)
  refine lv_lstore_n (lv' := [(3, .long j192), (2, .ref y186), (0, .ref v), (1, .int (q_i p0))]) cx.1 cx.2.1 dX10_tableOf_17 rfl hl (by decide) rfl (fun ls hl => ?_)
  refine q_iconst cx dX10_tableOf_18 ?_
  refine lv_istore (lv' := [(5, .int (q_i 0)), (3, .long j192), (2, .ref y186), (0, .ref v), (1, .int (q_i p0))]) cx.1 cx.2.1 dX10_tableOf_19 hl (by decide) rfl (fun ls hl => ?_)
  exact J21 ((Int.toNat (2147483647 - 0)) + 1) y186 hy186 ky186 j192 0 (by decide) (by decide) (Nat.lt_succ_self _) H locs hB ls (lv_sub hl [3, 2, 1, 0] rfl)
set_option maxHeartbeats 4000000 in
set_option maxRecDepth 100000 in
theorem g_X10_tableOf_1 (l : Launch) (g : q_G) {K : Nat → Nat} {L : List Nat} (hN : L.Nodup) {f : Nat → va_E} (hT : q_Ty g K L f) (v : Nat) (hv : v ∈ L) (kv : K v = 13) (p0 : Int) (lp0 : (-2147483648) ≤ p0) (up0 : p0 ≤ 2147483647) : q_Ct l g K L yX10_tableOf cX10_tableOf 6 (some .long) 1 21 [.ref v, .int (q_i p0)] f [] (q_Pl (fun (z : Int64) (f1 : Nat → va_E) => f = f1)) := by
  refine q_ofb (by decide +kernel) hN hT (Nat.le_of_ble_eq_true rfl) ?_
  intro p e s m below meth c ls cx hr hlk hB hl
  have hl : lv_has ls 6 [(0, .ref v), (1, .int (q_i p0))] := hl
  have J21 : ∀ (n : Nat) (v21_2 : Nat) (hv21_2 : v21_2 ∈ L) (kv21_2 : K v21_2 = 17) (v21_3 : Int64) (v21_5 : Int) (lv21_5 : 0 ≤ v21_5) (uv21_5 : v21_5 ≤ 10) (hmu : (Int.toNat (2147483647 - v21_5)) < n) (H : Heap) (locs : List Loc) (hB : q_B g K L (fun q => q ∈ L) [] f f s H locs) (ls : Array Slot) (hl : lv_has ls 6 [(0, .ref v), (2, .ref v21_2), (3, .long v21_3), (5, .int (q_i v21_5))]), W p l e { frames := 1, cells := 0, slots := 0, locals := 21 } s m ([.ref v, .int (q_i p0)] : List Value).toArray below meth c H locs 0 0 (MQ below (q_Q g K L [] f (q_Pl (fun (z : Int64) (f1 : Nat → va_E) => f = f1))) ([.ref v, .int (q_i p0)] : List Value).toArray s 0 0 (fun q => q ∈ L)) (F0 m 21 ls []) := by
    intro n
    induction n with
    | zero =>
      intro v21_2 hv21_2 kv21_2 v21_3 v21_5 lv21_5 uv21_5 hmu
      exact absurd hmu (Nat.not_lt_zero _)
    | succ n ih21 =>
      intro v21_2 hv21_2 kv21_2 v21_3 v21_5 lv21_5 uv21_5 hmu H locs hB ls hl
      have J56 : ∀ (v56_3 : Int64) (buv21_5 : v21_5 ≤ 9) (H : Heap) (locs : List Loc) (hB : q_B g K L (fun q => q ∈ L) [] f f s H locs) (ls : Array Slot) (hl : lv_has ls 6 [(0, .ref v), (2, .ref v21_2), (3, .long v56_3), (5, .int (q_i v21_5))]), W p l e { frames := 1, cells := 0, slots := 0, locals := 21 } s m ([.ref v, .int (q_i p0)] : List Value).toArray below meth c H locs 0 0 (MQ below (q_Q g K L [] f (q_Pl (fun (z : Int64) (f1 : Nat → va_E) => f = f1))) ([.ref v, .int (q_i p0)] : List Value).toArray s 0 0 (fun q => q ∈ L)) (F0 m 56 ls []) := by
        intro v56_3 buv21_5 H locs hB ls hl
        refine q_iinc (lv' := [(5, .int (q_i (v21_5 + 1))), (0, .ref v), (2, .ref v21_2), (3, .long v56_3)]) cx dX10_tableOf_56 hl (k := 3) rfl (by decide) rfl (fun ls hl => ?_)
        refine lv_goto (tgt := 21) cx.1 cx.2.1 dX10_tableOf_59 (by decide) ?_
        exact ih21 v21_2 hv21_2 kv21_2 v56_3 (v21_5 + 1) (by omega) (by omega) (by omega) H locs hB ls (lv_sub hl [1, 2, 3, 0] rfl)
      refine lv_iload cx.1 cx.2.1 dX10_tableOf_21 (lv_at hl 3 rfl) ?_
      refine q_ald_n cx dX10_tableOf_23 rfl (lv_at hl 0 rfl) ?_
      obtain ⟨x169, ex169⟩ : ∃ zz, q_is (q_z f v 3) zz := ⟨_, q_isr _⟩
      refine q_gX10_35_13 cx hB hv kv ex169 dX10_tableOf_24 (fun lb170 ub170 => ?_)
      refine q_icge (tgt := 62) cx ⟨by omega, by omega⟩ ⟨by omega, by omega⟩ dX10_tableOf_27 (by decide) (fun c171 => ?_) (fun c171 => ?_)
      · refine q_lld_n cx dX10_tableOf_62 rfl (lv_at hl 2 rfl) ?_
        refine q_lret cx hr hlk hB dX10_tableOf_63 ?_
        exact rfl
      · refine q_ald_n cx dX10_tableOf_30 rfl (lv_at hl 1 rfl) ?_
        obtain ⟨x172, ex172⟩ : ∃ zz, q_is (q_z f v21_2 5) zz := ⟨_, q_isr _⟩
        refine q_gX10_104_17 cx hB hv21_2 kv21_2 ex172 dX10_tableOf_31 (fun lb173 ub173 => ?_)
        refine lv_iload cx.1 cx.2.1 dX10_tableOf_34 (lv_at hl 3 rfl) ?_
        refine q_cSi (As := [.int (q_i x172), .int (q_i v21_5)]) (rest := []) cx hB (fun _ h => h) hN (g_X10_has l g hN hB.2.1 x172 (by omega) (by omega) v21_5 (by omega) (by omega)) q_cX10_181 q_dX10_has (by decide) rfl rfl hl.1 rfl (Nat.le_of_ble_eq_true rfl) dX10_tableOf_36 (fun y175 H locs f174 ry175 h176 hF hB => ?_)
        obtain ⟨rfl, ly175, uy175⟩ := h176
        refine q_ifeq (tgt := 56) cx ⟨by omega, by omega⟩ dX10_tableOf_39 (by decide) (fun c177 => ?_) (fun c177 => ?_)
        · exact J56 v21_3 (by omega) H locs hB ls (lv_sub hl [0, 1, 2, 3] rfl)
        · refine q_lld_n cx dX10_tableOf_42 rfl (lv_at hl 2 rfl) ?_
          refine q_lconst (z := 1) cx (by decide) dX10_tableOf_43 ?_
          refine q_ald_n cx dX10_tableOf_44 rfl (lv_at hl 0 rfl) ?_
          refine lv_iload cx.1 cx.2.1 dX10_tableOf_45 (lv_at hl 3 rfl) ?_
          refine q_cVr (As := [.int (q_i v21_5)]) (rest := [.long (q_l 1), .long v21_3]) cx hB (fun _ h => h) hN hv kv (by decide) rfl (g_X10_nodeAt_1 l g hN hB.2.1 v hv kv v21_5 (by omega) (by omega)) q_cX10_66 q_dX10_nodeAt (by decide) rfl rfl hl.1 rfl (Nat.le_of_ble_eq_true rfl) dX10_tableOf_47 (fun y179 H locs f178 h180 hF hB => ?_)
          obtain ⟨rfl, hy179, ky179⟩ := h180
          obtain ⟨x181, ex181⟩ : ∃ zz, q_is (q_z f y179 2) zz := ⟨_, q_isr _⟩
          refine q_gX10_95_17 cx hB hy179 ky179 ex181 dX10_tableOf_50 (fun lb182 ub182 => ?_)
          refine lv_lshl cx.1 cx.2.1 dX10_tableOf_53 rfl ?_
          refine lv_topl (fun j183 ej183 => ?_)
          refine lv_lor cx.1 cx.2.1 dX10_tableOf_54 ?_
          refine lv_topl (fun j184 ej184 => ?_)
          refine lv_lstore_n (lv' := [(3, .long j184), (0, .ref v), (2, .ref v21_2), (5, .int (q_i v21_5))]) cx.1 cx.2.1 dX10_tableOf_55 rfl hl (by decide) rfl (fun ls hl => ?_)
          exact J56 j184 (by omega) H locs hB ls (lv_sub hl [1, 2, 0, 3] rfl)
  obtain ⟨H, hH⟩ : ∃ H : Heap, H = s.heap := ⟨_, rfl⟩
  obtain ⟨locs, hlocs⟩ : ∃ z : List Loc, z = [] := ⟨_, rfl⟩
  rw [← hH, ← hlocs] at hB
  rw [← hH, ← hlocs]
  refine q_ald_n cx dX10_tableOf_0 rfl (lv_at hl 0 rfl) ?_
  refine q_ild_n cx dX10_tableOf_1 rfl (lv_at hl 1 rfl) ?_
  refine q_cVr (As := [.int (q_i p0)]) (rest := []) cx hB (fun _ h => h) hN hv kv (by decide) rfl (g_X10_nodeAt_1 l g hN hB.2.1 v hv kv p0 (by omega) (by omega)) q_cX10_66 q_dX10_nodeAt (by decide) rfl rfl hl.1 rfl (Nat.le_of_ble_eq_true rfl) dX10_tableOf_2 (fun y186 H locs f185 h187 hF hB => ?_)
  obtain ⟨rfl, hy186, ky186⟩ := h187
  refine lv_astore_n (lv' := [(2, .ref y186), (0, .ref v), (1, .int (q_i p0))]) cx.1 cx.2.1 dX10_tableOf_5 rfl hl (by decide) rfl (fun ls hl => ?_)
  refine q_ald_n cx dX10_tableOf_6 rfl (lv_at hl 0 rfl) ?_
  obtain ⟨j188, ej188⟩ : ∃ zz, q_j f y186 1 = zz := ⟨_, rfl⟩
  refine q_gX10_92_17 cx hB hy186 ky186 ej188 dX10_tableOf_7 ?_
  refine q_lconst (z := 1) cx (by decide) dX10_tableOf_10 ?_
  refine q_ald_n cx dX10_tableOf_11 rfl (lv_at hl 0 rfl) ?_
  obtain ⟨x189, ex189⟩ : ∃ zz, q_is (q_z f y186 2) zz := ⟨_, q_isr _⟩
  refine q_gX10_95_17 cx hB hy186 ky186 ex189 dX10_tableOf_12 (fun lb190 ub190 => ?_)
  refine lv_lshl cx.1 cx.2.1 dX10_tableOf_15 rfl ?_
  refine lv_topl (fun j191 ej191 => ?_)
  refine lv_lor cx.1 cx.2.1 dX10_tableOf_16 ?_
  refine lv_topl (fun j192 ej192 => ?_)
  refine lv_lstore_n (lv' := [(3, .long j192), (2, .ref y186), (0, .ref v), (1, .int (q_i p0))]) cx.1 cx.2.1 dX10_tableOf_17 rfl hl (by decide) rfl (fun ls hl => ?_)
  refine q_iconst cx dX10_tableOf_18 ?_
  refine lv_istore (lv' := [(5, .int (q_i 0)), (3, .long j192), (2, .ref y186), (0, .ref v), (1, .int (q_i p0))]) cx.1 cx.2.1 dX10_tableOf_19 hl (by decide) rfl (fun ls hl => ?_)
  exact J21 ((Int.toNat (2147483647 - 0)) + 1) y186 hy186 ky186 j192 0 (by decide) (by decide) (Nat.lt_succ_self _) H locs hB ls (lv_sub hl [3, 2, 1, 0] rfl)
set_option maxHeartbeats 4000000 in
set_option maxRecDepth 100000 in
theorem g_X10_tableOf_2 (l : Launch) (g : q_G) {K : Nat → Nat} {L : List Nat} (hN : L.Nodup) {f : Nat → va_E} (hT : q_Ty g K L f) (v : Nat) (hv : v ∈ L) (kv : K v = 14) (p0 : Int) (lp0 : (-2147483648) ≤ p0) (up0 : p0 ≤ 2147483647) : q_Ct l g K L yX10_tableOf cX10_tableOf 6 (some .long) 1 21 [.ref v, .int (q_i p0)] f [] (q_Pl (fun (z : Int64) (f1 : Nat → va_E) => f = f1)) := by
  refine q_ofb (by decide +kernel) hN hT (Nat.le_of_ble_eq_true rfl) ?_
  intro p e s m below meth c ls cx hr hlk hB hl
  have hl : lv_has ls 6 [(0, .ref v), (1, .int (q_i p0))] := hl
  have J21 : ∀ (n : Nat) (v21_2 : Nat) (hv21_2 : v21_2 ∈ L) (kv21_2 : K v21_2 = 18) (v21_3 : Int64) (v21_5 : Int) (lv21_5 : 0 ≤ v21_5) (uv21_5 : v21_5 ≤ 10) (hmu : (Int.toNat (2147483647 - v21_5)) < n) (H : Heap) (locs : List Loc) (hB : q_B g K L (fun q => q ∈ L) [] f f s H locs) (ls : Array Slot) (hl : lv_has ls 6 [(0, .ref v), (2, .ref v21_2), (3, .long v21_3), (5, .int (q_i v21_5))]), W p l e { frames := 1, cells := 0, slots := 0, locals := 21 } s m ([.ref v, .int (q_i p0)] : List Value).toArray below meth c H locs 0 0 (MQ below (q_Q g K L [] f (q_Pl (fun (z : Int64) (f1 : Nat → va_E) => f = f1))) ([.ref v, .int (q_i p0)] : List Value).toArray s 0 0 (fun q => q ∈ L)) (F0 m 21 ls []) := by
    intro n
    induction n with
    | zero =>
      intro v21_2 hv21_2 kv21_2 v21_3 v21_5 lv21_5 uv21_5 hmu
      exact absurd hmu (Nat.not_lt_zero _)
    | succ n ih21 =>
      intro v21_2 hv21_2 kv21_2 v21_3 v21_5 lv21_5 uv21_5 hmu H locs hB ls hl
      have J56 : ∀ (v56_3 : Int64) (buv21_5 : v21_5 ≤ 9) (H : Heap) (locs : List Loc) (hB : q_B g K L (fun q => q ∈ L) [] f f s H locs) (ls : Array Slot) (hl : lv_has ls 6 [(0, .ref v), (2, .ref v21_2), (3, .long v56_3), (5, .int (q_i v21_5))]), W p l e { frames := 1, cells := 0, slots := 0, locals := 21 } s m ([.ref v, .int (q_i p0)] : List Value).toArray below meth c H locs 0 0 (MQ below (q_Q g K L [] f (q_Pl (fun (z : Int64) (f1 : Nat → va_E) => f = f1))) ([.ref v, .int (q_i p0)] : List Value).toArray s 0 0 (fun q => q ∈ L)) (F0 m 56 ls []) := by
        intro v56_3 buv21_5 H locs hB ls hl
        refine q_iinc (lv' := [(5, .int (q_i (v21_5 + 1))), (0, .ref v), (2, .ref v21_2), (3, .long v56_3)]) cx dX10_tableOf_56 hl (k := 3) rfl (by decide) rfl (fun ls hl => ?_)
        refine lv_goto (tgt := 21) cx.1 cx.2.1 dX10_tableOf_59 (by decide) ?_
        exact ih21 v21_2 hv21_2 kv21_2 v56_3 (v21_5 + 1) (by omega) (by omega) (by omega) H locs hB ls (lv_sub hl [1, 2, 3, 0] rfl)
      refine lv_iload cx.1 cx.2.1 dX10_tableOf_21 (lv_at hl 3 rfl) ?_
      refine q_ald_n cx dX10_tableOf_23 rfl (lv_at hl 0 rfl) ?_
      obtain ⟨x169, ex169⟩ : ∃ zz, q_is (q_z f v 3) zz := ⟨_, q_isr _⟩
      refine q_gX10_35_14 cx hB hv kv ex169 dX10_tableOf_24 (fun lb170 ub170 => ?_)
      refine q_icge (tgt := 62) cx ⟨by omega, by omega⟩ ⟨by omega, by omega⟩ dX10_tableOf_27 (by decide) (fun c171 => ?_) (fun c171 => ?_)
      · refine q_lld_n cx dX10_tableOf_62 rfl (lv_at hl 2 rfl) ?_
        refine q_lret cx hr hlk hB dX10_tableOf_63 ?_
        exact rfl
      · refine q_ald_n cx dX10_tableOf_30 rfl (lv_at hl 1 rfl) ?_
        obtain ⟨x172, ex172⟩ : ∃ zz, q_is (q_z f v21_2 5) zz := ⟨_, q_isr _⟩
        refine q_gX10_104_18 cx hB hv21_2 kv21_2 ex172 dX10_tableOf_31 (fun lb173 ub173 => ?_)
        refine lv_iload cx.1 cx.2.1 dX10_tableOf_34 (lv_at hl 3 rfl) ?_
        refine q_cSi (As := [.int (q_i x172), .int (q_i v21_5)]) (rest := []) cx hB (fun _ h => h) hN (g_X10_has l g hN hB.2.1 x172 (by omega) (by omega) v21_5 (by omega) (by omega)) q_cX10_181 q_dX10_has (by decide) rfl rfl hl.1 rfl (Nat.le_of_ble_eq_true rfl) dX10_tableOf_36 (fun y175 H locs f174 ry175 h176 hF hB => ?_)
        obtain ⟨rfl, ly175, uy175⟩ := h176
        refine q_ifeq (tgt := 56) cx ⟨by omega, by omega⟩ dX10_tableOf_39 (by decide) (fun c177 => ?_) (fun c177 => ?_)
        · exact J56 v21_3 (by omega) H locs hB ls (lv_sub hl [0, 1, 2, 3] rfl)
        · refine q_lld_n cx dX10_tableOf_42 rfl (lv_at hl 2 rfl) ?_
          refine q_lconst (z := 1) cx (by decide) dX10_tableOf_43 ?_
          refine q_ald_n cx dX10_tableOf_44 rfl (lv_at hl 0 rfl) ?_
          refine lv_iload cx.1 cx.2.1 dX10_tableOf_45 (lv_at hl 3 rfl) ?_
          refine q_cVr (As := [.int (q_i v21_5)]) (rest := [.long (q_l 1), .long v21_3]) cx hB (fun _ h => h) hN hv kv (by decide) rfl (g_X10_nodeAt_2 l g hN hB.2.1 v hv kv v21_5 (by omega) (by omega)) q_cX10_66 q_dX10_nodeAt (by decide) rfl rfl hl.1 rfl (Nat.le_of_ble_eq_true rfl) dX10_tableOf_47 (fun y179 H locs f178 h180 hF hB => ?_)
          obtain ⟨rfl, hy179, ky179⟩ := h180
          obtain ⟨x181, ex181⟩ : ∃ zz, q_is (q_z f y179 2) zz := ⟨_, q_isr _⟩
          refine q_gX10_95_18 cx hB hy179 ky179 ex181 dX10_tableOf_50 (fun lb182 ub182 => ?_)
          refine lv_lshl cx.1 cx.2.1 dX10_tableOf_53 rfl ?_
          refine lv_topl (fun j183 ej183 => ?_)
          refine lv_lor cx.1 cx.2.1 dX10_tableOf_54 ?_
          refine lv_topl (fun j184 ej184 => ?_)
          refine lv_lstore_n (lv' := [(3, .long j184), (0, .ref v), (2, .ref v21_2), (5, .int (q_i v21_5))]) cx.1 cx.2.1 dX10_tableOf_55 rfl hl (by decide) rfl (fun ls hl => ?_)
          exact J56 j184 (by omega) H locs hB ls (lv_sub hl [1, 2, 0, 3] rfl)
  obtain ⟨H, hH⟩ : ∃ H : Heap, H = s.heap := ⟨_, rfl⟩
  obtain ⟨locs, hlocs⟩ : ∃ z : List Loc, z = [] := ⟨_, rfl⟩
  rw [← hH, ← hlocs] at hB
  rw [← hH, ← hlocs]
  refine q_ald_n cx dX10_tableOf_0 rfl (lv_at hl 0 rfl) ?_
  refine q_ild_n cx dX10_tableOf_1 rfl (lv_at hl 1 rfl) ?_
  refine q_cVr (As := [.int (q_i p0)]) (rest := []) cx hB (fun _ h => h) hN hv kv (by decide) rfl (g_X10_nodeAt_2 l g hN hB.2.1 v hv kv p0 (by omega) (by omega)) q_cX10_66 q_dX10_nodeAt (by decide) rfl rfl hl.1 rfl (Nat.le_of_ble_eq_true rfl) dX10_tableOf_2 (fun y186 H locs f185 h187 hF hB => ?_)
  obtain ⟨rfl, hy186, ky186⟩ := h187
  refine lv_astore_n (lv' := [(2, .ref y186), (0, .ref v), (1, .int (q_i p0))]) cx.1 cx.2.1 dX10_tableOf_5 rfl hl (by decide) rfl (fun ls hl => ?_)
  refine q_ald_n cx dX10_tableOf_6 rfl (lv_at hl 0 rfl) ?_
  obtain ⟨j188, ej188⟩ : ∃ zz, q_j f y186 1 = zz := ⟨_, rfl⟩
  refine q_gX10_92_18 cx hB hy186 ky186 ej188 dX10_tableOf_7 ?_
  refine q_lconst (z := 1) cx (by decide) dX10_tableOf_10 ?_
  refine q_ald_n cx dX10_tableOf_11 rfl (lv_at hl 0 rfl) ?_
  obtain ⟨x189, ex189⟩ : ∃ zz, q_is (q_z f y186 2) zz := ⟨_, q_isr _⟩
  refine q_gX10_95_18 cx hB hy186 ky186 ex189 dX10_tableOf_12 (fun lb190 ub190 => ?_)
  refine lv_lshl cx.1 cx.2.1 dX10_tableOf_15 rfl ?_
  refine lv_topl (fun j191 ej191 => ?_)
  refine lv_lor cx.1 cx.2.1 dX10_tableOf_16 ?_
  refine lv_topl (fun j192 ej192 => ?_)
  refine lv_lstore_n (lv' := [(3, .long j192), (2, .ref y186), (0, .ref v), (1, .int (q_i p0))]) cx.1 cx.2.1 dX10_tableOf_17 rfl hl (by decide) rfl (fun ls hl => ?_)
  refine q_iconst cx dX10_tableOf_18 ?_
  refine lv_istore (lv' := [(5, .int (q_i 0)), (3, .long j192), (2, .ref y186), (0, .ref v), (1, .int (q_i p0))]) cx.1 cx.2.1 dX10_tableOf_19 hl (by decide) rfl (fun ls hl => ?_)
  exact J21 ((Int.toNat (2147483647 - 0)) + 1) y186 hy186 ky186 j192 0 (by decide) (by decide) (Nat.lt_succ_self _) H locs hB ls (lv_sub hl [3, 2, 1, 0] rfl)
set_option maxHeartbeats 4000000 in
set_option maxRecDepth 100000 in
theorem g_X10_tableOf_3 (l : Launch) (g : q_G) {K : Nat → Nat} {L : List Nat} (hN : L.Nodup) {f : Nat → va_E} (hT : q_Ty g K L f) (v : Nat) (hv : v ∈ L) (kv : K v = 15) (p0 : Int) (lp0 : (-2147483648) ≤ p0) (up0 : p0 ≤ 2147483647) : q_Ct l g K L yX10_tableOf cX10_tableOf 6 (some .long) 1 21 [.ref v, .int (q_i p0)] f [] (q_Pl (fun (z : Int64) (f1 : Nat → va_E) => f = f1)) := by
  refine q_ofb (by decide +kernel) hN hT (Nat.le_of_ble_eq_true rfl) ?_
  intro p e s m below meth c ls cx hr hlk hB hl
  have hl : lv_has ls 6 [(0, .ref v), (1, .int (q_i p0))] := hl
  have J21 : ∀ (n : Nat) (v21_2 : Nat) (hv21_2 : v21_2 ∈ L) (kv21_2 : K v21_2 = 19) (v21_3 : Int64) (v21_5 : Int) (lv21_5 : 0 ≤ v21_5) (uv21_5 : v21_5 ≤ 10) (hmu : (Int.toNat (2147483647 - v21_5)) < n) (H : Heap) (locs : List Loc) (hB : q_B g K L (fun q => q ∈ L) [] f f s H locs) (ls : Array Slot) (hl : lv_has ls 6 [(0, .ref v), (2, .ref v21_2), (3, .long v21_3), (5, .int (q_i v21_5))]), W p l e { frames := 1, cells := 0, slots := 0, locals := 21 } s m ([.ref v, .int (q_i p0)] : List Value).toArray below meth c H locs 0 0 (MQ below (q_Q g K L [] f (q_Pl (fun (z : Int64) (f1 : Nat → va_E) => f = f1))) ([.ref v, .int (q_i p0)] : List Value).toArray s 0 0 (fun q => q ∈ L)) (F0 m 21 ls []) := by
    intro n
    induction n with
    | zero =>
      intro v21_2 hv21_2 kv21_2 v21_3 v21_5 lv21_5 uv21_5 hmu
      exact absurd hmu (Nat.not_lt_zero _)
    | succ n ih21 =>
      intro v21_2 hv21_2 kv21_2 v21_3 v21_5 lv21_5 uv21_5 hmu H locs hB ls hl
      have J56 : ∀ (v56_3 : Int64) (buv21_5 : v21_5 ≤ 9) (H : Heap) (locs : List Loc) (hB : q_B g K L (fun q => q ∈ L) [] f f s H locs) (ls : Array Slot) (hl : lv_has ls 6 [(0, .ref v), (2, .ref v21_2), (3, .long v56_3), (5, .int (q_i v21_5))]), W p l e { frames := 1, cells := 0, slots := 0, locals := 21 } s m ([.ref v, .int (q_i p0)] : List Value).toArray below meth c H locs 0 0 (MQ below (q_Q g K L [] f (q_Pl (fun (z : Int64) (f1 : Nat → va_E) => f = f1))) ([.ref v, .int (q_i p0)] : List Value).toArray s 0 0 (fun q => q ∈ L)) (F0 m 56 ls []) := by
        intro v56_3 buv21_5 H locs hB ls hl
        refine q_iinc (lv' := [(5, .int (q_i (v21_5 + 1))), (0, .ref v), (2, .ref v21_2), (3, .long v56_3)]) cx dX10_tableOf_56 hl (k := 3) rfl (by decide) rfl (fun ls hl => ?_)
        refine lv_goto (tgt := 21) cx.1 cx.2.1 dX10_tableOf_59 (by decide) ?_
        exact ih21 v21_2 hv21_2 kv21_2 v56_3 (v21_5 + 1) (by omega) (by omega) (by omega) H locs hB ls (lv_sub hl [1, 2, 3, 0] rfl)
      refine lv_iload cx.1 cx.2.1 dX10_tableOf_21 (lv_at hl 3 rfl) ?_
      refine q_ald_n cx dX10_tableOf_23 rfl (lv_at hl 0 rfl) ?_
      obtain ⟨x169, ex169⟩ : ∃ zz, q_is (q_z f v 3) zz := ⟨_, q_isr _⟩
      refine q_gX10_35_15 cx hB hv kv ex169 dX10_tableOf_24 (fun lb170 ub170 => ?_)
      refine q_icge (tgt := 62) cx ⟨by omega, by omega⟩ ⟨by omega, by omega⟩ dX10_tableOf_27 (by decide) (fun c171 => ?_) (fun c171 => ?_)
      · refine q_lld_n cx dX10_tableOf_62 rfl (lv_at hl 2 rfl) ?_
        refine q_lret cx hr hlk hB dX10_tableOf_63 ?_
        exact rfl
      · refine q_ald_n cx dX10_tableOf_30 rfl (lv_at hl 1 rfl) ?_
        obtain ⟨x172, ex172⟩ : ∃ zz, q_is (q_z f v21_2 5) zz := ⟨_, q_isr _⟩
        refine q_gX10_104_19 cx hB hv21_2 kv21_2 ex172 dX10_tableOf_31 (fun lb173 ub173 => ?_)
        refine lv_iload cx.1 cx.2.1 dX10_tableOf_34 (lv_at hl 3 rfl) ?_
        refine q_cSi (As := [.int (q_i x172), .int (q_i v21_5)]) (rest := []) cx hB (fun _ h => h) hN (g_X10_has l g hN hB.2.1 x172 (by omega) (by omega) v21_5 (by omega) (by omega)) q_cX10_181 q_dX10_has (by decide) rfl rfl hl.1 rfl (Nat.le_of_ble_eq_true rfl) dX10_tableOf_36 (fun y175 H locs f174 ry175 h176 hF hB => ?_)
        obtain ⟨rfl, ly175, uy175⟩ := h176
        refine q_ifeq (tgt := 56) cx ⟨by omega, by omega⟩ dX10_tableOf_39 (by decide) (fun c177 => ?_) (fun c177 => ?_)
        · exact J56 v21_3 (by omega) H locs hB ls (lv_sub hl [0, 1, 2, 3] rfl)
        · refine q_lld_n cx dX10_tableOf_42 rfl (lv_at hl 2 rfl) ?_
          refine q_lconst (z := 1) cx (by decide) dX10_tableOf_43 ?_
          refine q_ald_n cx dX10_tableOf_44 rfl (lv_at hl 0 rfl) ?_
          refine lv_iload cx.1 cx.2.1 dX10_tableOf_45 (lv_at hl 3 rfl) ?_
          refine q_cVr (As := [.int (q_i v21_5)]) (rest := [.long (q_l 1), .long v21_3]) cx hB (fun _ h => h) hN hv kv (by decide) rfl (g_X10_nodeAt_3 l g hN hB.2.1 v hv kv v21_5 (by omega) (by omega)) q_cX10_66 q_dX10_nodeAt (by decide) rfl rfl hl.1 rfl (Nat.le_of_ble_eq_true rfl) dX10_tableOf_47 (fun y179 H locs f178 h180 hF hB => ?_)
          obtain ⟨rfl, hy179, ky179⟩ := h180
          obtain ⟨x181, ex181⟩ : ∃ zz, q_is (q_z f y179 2) zz := ⟨_, q_isr _⟩
          refine q_gX10_95_19 cx hB hy179 ky179 ex181 dX10_tableOf_50 (fun lb182 ub182 => ?_)
          refine lv_lshl cx.1 cx.2.1 dX10_tableOf_53 rfl ?_
          refine lv_topl (fun j183 ej183 => ?_)
          refine lv_lor cx.1 cx.2.1 dX10_tableOf_54 ?_
          refine lv_topl (fun j184 ej184 => ?_)
          refine lv_lstore_n (lv' := [(3, .long j184), (0, .ref v), (2, .ref v21_2), (5, .int (q_i v21_5))]) cx.1 cx.2.1 dX10_tableOf_55 rfl hl (by decide) rfl (fun ls hl => ?_)
          exact J56 j184 (by omega) H locs hB ls (lv_sub hl [1, 2, 0, 3] rfl)
  obtain ⟨H, hH⟩ : ∃ H : Heap, H = s.heap := ⟨_, rfl⟩
  obtain ⟨locs, hlocs⟩ : ∃ z : List Loc, z = [] := ⟨_, rfl⟩
  rw [← hH, ← hlocs] at hB
  rw [← hH, ← hlocs]
  refine q_ald_n cx dX10_tableOf_0 rfl (lv_at hl 0 rfl) ?_
  refine q_ild_n cx dX10_tableOf_1 rfl (lv_at hl 1 rfl) ?_
  refine q_cVr (As := [.int (q_i p0)]) (rest := []) cx hB (fun _ h => h) hN hv kv (by decide) rfl (g_X10_nodeAt_3 l g hN hB.2.1 v hv kv p0 (by omega) (by omega)) q_cX10_66 q_dX10_nodeAt (by decide) rfl rfl hl.1 rfl (Nat.le_of_ble_eq_true rfl) dX10_tableOf_2 (fun y186 H locs f185 h187 hF hB => ?_)
  obtain ⟨rfl, hy186, ky186⟩ := h187
  refine lv_astore_n (lv' := [(2, .ref y186), (0, .ref v), (1, .int (q_i p0))]) cx.1 cx.2.1 dX10_tableOf_5 rfl hl (by decide) rfl (fun ls hl => ?_)
  refine q_ald_n cx dX10_tableOf_6 rfl (lv_at hl 0 rfl) ?_
  obtain ⟨j188, ej188⟩ : ∃ zz, q_j f y186 1 = zz := ⟨_, rfl⟩
  refine q_gX10_92_19 cx hB hy186 ky186 ej188 dX10_tableOf_7 ?_
  refine q_lconst (z := 1) cx (by decide) dX10_tableOf_10 ?_
  refine q_ald_n cx dX10_tableOf_11 rfl (lv_at hl 0 rfl) ?_
  obtain ⟨x189, ex189⟩ : ∃ zz, q_is (q_z f y186 2) zz := ⟨_, q_isr _⟩
  refine q_gX10_95_19 cx hB hy186 ky186 ex189 dX10_tableOf_12 (fun lb190 ub190 => ?_)
  refine lv_lshl cx.1 cx.2.1 dX10_tableOf_15 rfl ?_
  refine lv_topl (fun j191 ej191 => ?_)
  refine lv_lor cx.1 cx.2.1 dX10_tableOf_16 ?_
  refine lv_topl (fun j192 ej192 => ?_)
  refine lv_lstore_n (lv' := [(3, .long j192), (2, .ref y186), (0, .ref v), (1, .int (q_i p0))]) cx.1 cx.2.1 dX10_tableOf_17 rfl hl (by decide) rfl (fun ls hl => ?_)
  refine q_iconst cx dX10_tableOf_18 ?_
  refine lv_istore (lv' := [(5, .int (q_i 0)), (3, .long j192), (2, .ref y186), (0, .ref v), (1, .int (q_i p0))]) cx.1 cx.2.1 dX10_tableOf_19 hl (by decide) rfl (fun ls hl => ?_)
  exact J21 ((Int.toNat (2147483647 - 0)) + 1) y186 hy186 ky186 j192 0 (by decide) (by decide) (Nat.lt_succ_self _) H locs hB ls (lv_sub hl [3, 2, 1, 0] rfl)
set_option maxHeartbeats 4000000 in
set_option maxRecDepth 100000 in
theorem g_X10_tableOf_4 (l : Launch) (g : q_G) {K : Nat → Nat} {L : List Nat} (hN : L.Nodup) {f : Nat → va_E} (hT : q_Ty g K L f) (v : Nat) (hv : v ∈ L) (kv : K v = 16) (p0 : Int) (lp0 : (-2147483648) ≤ p0) (up0 : p0 ≤ 2147483647) : q_Ct l g K L yX10_tableOf cX10_tableOf 6 (some .long) 1 21 [.ref v, .int (q_i p0)] f [] (q_Pl (fun (z : Int64) (f1 : Nat → va_E) => f = f1)) := by
  refine q_ofb (by decide +kernel) hN hT (Nat.le_of_ble_eq_true rfl) ?_
  intro p e s m below meth c ls cx hr hlk hB hl
  have hl : lv_has ls 6 [(0, .ref v), (1, .int (q_i p0))] := hl
  have J21 : ∀ (n : Nat) (v21_2 : Nat) (hv21_2 : v21_2 ∈ L) (kv21_2 : K v21_2 = 20) (v21_3 : Int64) (v21_5 : Int) (lv21_5 : 0 ≤ v21_5) (uv21_5 : v21_5 ≤ 10) (hmu : (Int.toNat (2147483647 - v21_5)) < n) (H : Heap) (locs : List Loc) (hB : q_B g K L (fun q => q ∈ L) [] f f s H locs) (ls : Array Slot) (hl : lv_has ls 6 [(0, .ref v), (2, .ref v21_2), (3, .long v21_3), (5, .int (q_i v21_5))]), W p l e { frames := 1, cells := 0, slots := 0, locals := 21 } s m ([.ref v, .int (q_i p0)] : List Value).toArray below meth c H locs 0 0 (MQ below (q_Q g K L [] f (q_Pl (fun (z : Int64) (f1 : Nat → va_E) => f = f1))) ([.ref v, .int (q_i p0)] : List Value).toArray s 0 0 (fun q => q ∈ L)) (F0 m 21 ls []) := by
    intro n
    induction n with
    | zero =>
      intro v21_2 hv21_2 kv21_2 v21_3 v21_5 lv21_5 uv21_5 hmu
      exact absurd hmu (Nat.not_lt_zero _)
    | succ n ih21 =>
      intro v21_2 hv21_2 kv21_2 v21_3 v21_5 lv21_5 uv21_5 hmu H locs hB ls hl
      have J56 : ∀ (v56_3 : Int64) (buv21_5 : v21_5 ≤ 9) (H : Heap) (locs : List Loc) (hB : q_B g K L (fun q => q ∈ L) [] f f s H locs) (ls : Array Slot) (hl : lv_has ls 6 [(0, .ref v), (2, .ref v21_2), (3, .long v56_3), (5, .int (q_i v21_5))]), W p l e { frames := 1, cells := 0, slots := 0, locals := 21 } s m ([.ref v, .int (q_i p0)] : List Value).toArray below meth c H locs 0 0 (MQ below (q_Q g K L [] f (q_Pl (fun (z : Int64) (f1 : Nat → va_E) => f = f1))) ([.ref v, .int (q_i p0)] : List Value).toArray s 0 0 (fun q => q ∈ L)) (F0 m 56 ls []) := by
        intro v56_3 buv21_5 H locs hB ls hl
        refine q_iinc (lv' := [(5, .int (q_i (v21_5 + 1))), (0, .ref v), (2, .ref v21_2), (3, .long v56_3)]) cx dX10_tableOf_56 hl (k := 3) rfl (by decide) rfl (fun ls hl => ?_)
        refine lv_goto (tgt := 21) cx.1 cx.2.1 dX10_tableOf_59 (by decide) ?_
        exact ih21 v21_2 hv21_2 kv21_2 v56_3 (v21_5 + 1) (by omega) (by omega) (by omega) H locs hB ls (lv_sub hl [1, 2, 3, 0] rfl)
      refine lv_iload cx.1 cx.2.1 dX10_tableOf_21 (lv_at hl 3 rfl) ?_
      refine q_ald_n cx dX10_tableOf_23 rfl (lv_at hl 0 rfl) ?_
      obtain ⟨x169, ex169⟩ : ∃ zz, q_is (q_z f v 3) zz := ⟨_, q_isr _⟩
      refine q_gX10_35_16 cx hB hv kv ex169 dX10_tableOf_24 (fun lb170 ub170 => ?_)
      refine q_icge (tgt := 62) cx ⟨by omega, by omega⟩ ⟨by omega, by omega⟩ dX10_tableOf_27 (by decide) (fun c171 => ?_) (fun c171 => ?_)
      · refine q_lld_n cx dX10_tableOf_62 rfl (lv_at hl 2 rfl) ?_
        refine q_lret cx hr hlk hB dX10_tableOf_63 ?_
        exact rfl
      · refine q_ald_n cx dX10_tableOf_30 rfl (lv_at hl 1 rfl) ?_
        obtain ⟨x172, ex172⟩ : ∃ zz, q_is (q_z f v21_2 5) zz := ⟨_, q_isr _⟩
        refine q_gX10_104_20 cx hB hv21_2 kv21_2 ex172 dX10_tableOf_31 (fun lb173 ub173 => ?_)
        refine lv_iload cx.1 cx.2.1 dX10_tableOf_34 (lv_at hl 3 rfl) ?_
        refine q_cSi (As := [.int (q_i x172), .int (q_i v21_5)]) (rest := []) cx hB (fun _ h => h) hN (g_X10_has l g hN hB.2.1 x172 (by omega) (by omega) v21_5 (by omega) (by omega)) q_cX10_181 q_dX10_has (by decide) rfl rfl hl.1 rfl (Nat.le_of_ble_eq_true rfl) dX10_tableOf_36 (fun y175 H locs f174 ry175 h176 hF hB => ?_)
        obtain ⟨rfl, ly175, uy175⟩ := h176
        refine q_ifeq (tgt := 56) cx ⟨by omega, by omega⟩ dX10_tableOf_39 (by decide) (fun c177 => ?_) (fun c177 => ?_)
        · exact J56 v21_3 (by omega) H locs hB ls (lv_sub hl [0, 1, 2, 3] rfl)
        · refine q_lld_n cx dX10_tableOf_42 rfl (lv_at hl 2 rfl) ?_
          refine q_lconst (z := 1) cx (by decide) dX10_tableOf_43 ?_
          refine q_ald_n cx dX10_tableOf_44 rfl (lv_at hl 0 rfl) ?_
          refine lv_iload cx.1 cx.2.1 dX10_tableOf_45 (lv_at hl 3 rfl) ?_
          refine q_cVr (As := [.int (q_i v21_5)]) (rest := [.long (q_l 1), .long v21_3]) cx hB (fun _ h => h) hN hv kv (by decide) rfl (g_X10_nodeAt_4 l g hN hB.2.1 v hv kv v21_5 (by omega) (by omega)) q_cX10_66 q_dX10_nodeAt (by decide) rfl rfl hl.1 rfl (Nat.le_of_ble_eq_true rfl) dX10_tableOf_47 (fun y179 H locs f178 h180 hF hB => ?_)
          obtain ⟨rfl, hy179, ky179⟩ := h180
          obtain ⟨x181, ex181⟩ : ∃ zz, q_is (q_z f y179 2) zz := ⟨_, q_isr _⟩
          refine q_gX10_95_20 cx hB hy179 ky179 ex181 dX10_tableOf_50 (fun lb182 ub182 => ?_)
          refine lv_lshl cx.1 cx.2.1 dX10_tableOf_53 rfl ?_
          refine lv_topl (fun j183 ej183 => ?_)
          refine lv_lor cx.1 cx.2.1 dX10_tableOf_54 ?_
          refine lv_topl (fun j184 ej184 => ?_)
          refine lv_lstore_n (lv' := [(3, .long j184), (0, .ref v), (2, .ref v21_2), (5, .int (q_i v21_5))]) cx.1 cx.2.1 dX10_tableOf_55 rfl hl (by decide) rfl (fun ls hl => ?_)
          exact J56 j184 (by omega) H locs hB ls (lv_sub hl [1, 2, 0, 3] rfl)
  obtain ⟨H, hH⟩ : ∃ H : Heap, H = s.heap := ⟨_, rfl⟩
  obtain ⟨locs, hlocs⟩ : ∃ z : List Loc, z = [] := ⟨_, rfl⟩
  rw [← hH, ← hlocs] at hB
  rw [← hH, ← hlocs]
  refine q_ald_n cx dX10_tableOf_0 rfl (lv_at hl 0 rfl) ?_
  refine q_ild_n cx dX10_tableOf_1 rfl (lv_at hl 1 rfl) ?_
  refine q_cVr (As := [.int (q_i p0)]) (rest := []) cx hB (fun _ h => h) hN hv kv (by decide) rfl (g_X10_nodeAt_4 l g hN hB.2.1 v hv kv p0 (by omega) (by omega)) q_cX10_66 q_dX10_nodeAt (by decide) rfl rfl hl.1 rfl (Nat.le_of_ble_eq_true rfl) dX10_tableOf_2 (fun y186 H locs f185 h187 hF hB => ?_)
  obtain ⟨rfl, hy186, ky186⟩ := h187
  refine lv_astore_n (lv' := [(2, .ref y186), (0, .ref v), (1, .int (q_i p0))]) cx.1 cx.2.1 dX10_tableOf_5 rfl hl (by decide) rfl (fun ls hl => ?_)
  refine q_ald_n cx dX10_tableOf_6 rfl (lv_at hl 0 rfl) ?_
  obtain ⟨j188, ej188⟩ : ∃ zz, q_j f y186 1 = zz := ⟨_, rfl⟩
  refine q_gX10_92_20 cx hB hy186 ky186 ej188 dX10_tableOf_7 ?_
  refine q_lconst (z := 1) cx (by decide) dX10_tableOf_10 ?_
  refine q_ald_n cx dX10_tableOf_11 rfl (lv_at hl 0 rfl) ?_
  obtain ⟨x189, ex189⟩ : ∃ zz, q_is (q_z f y186 2) zz := ⟨_, q_isr _⟩
  refine q_gX10_95_20 cx hB hy186 ky186 ex189 dX10_tableOf_12 (fun lb190 ub190 => ?_)
  refine lv_lshl cx.1 cx.2.1 dX10_tableOf_15 rfl ?_
  refine lv_topl (fun j191 ej191 => ?_)
  refine lv_lor cx.1 cx.2.1 dX10_tableOf_16 ?_
  refine lv_topl (fun j192 ej192 => ?_)
  refine lv_lstore_n (lv' := [(3, .long j192), (2, .ref y186), (0, .ref v), (1, .int (q_i p0))]) cx.1 cx.2.1 dX10_tableOf_17 rfl hl (by decide) rfl (fun ls hl => ?_)
  refine q_iconst cx dX10_tableOf_18 ?_
  refine lv_istore (lv' := [(5, .int (q_i 0)), (3, .long j192), (2, .ref y186), (0, .ref v), (1, .int (q_i p0))]) cx.1 cx.2.1 dX10_tableOf_19 hl (by decide) rfl (fun ls hl => ?_)
  exact J21 ((Int.toNat (2147483647 - 0)) + 1) y186 hy186 ky186 j192 0 (by decide) (by decide) (Nat.lt_succ_self _) H locs hB ls (lv_sub hl [3, 2, 1, 0] rfl)
set_option maxHeartbeats 4000000 in
set_option maxRecDepth 100000 in
theorem g_X10_hasDay (l : Launch) (g : q_G) {K : Nat → Nat} {L : List Nat} (hN : L.Nodup) {f : Nat → va_E} (hT : q_Ty g K L f) (p0 : Int64) (p1 : Int) (lp1 : (-2147483648) ≤ p1) (up1 : p1 ≤ 2147483647) : q_Ct l g K L yX10_hasDay cX10_hasDay 3 (some .boolean) 0 0 [.long p0, .int (q_i p1)] f [] (q_Pi (fun (z : Int) (f1 : Nat → va_E) => f = f1 ∧ 0 ≤ z ∧ z ≤ 1)) := by
  refine q_ofb (by decide +kernel) hN hT (Nat.le_of_ble_eq_true rfl) ?_
  intro p e s m below meth c ls cx hr hlk hB hl
  have hl : lv_has ls 3 [(0, .long p0), (2, .int (q_i p1))] := hl
  have J15 : ∀ (t15_0 : Int) (lt15_0 : 0 ≤ t15_0) (ut15_0 : t15_0 ≤ 1) (H : Heap) (locs : List Loc) (hB : q_B g K L (fun q => q ∈ L) [] f f s H locs) (ls : Array Slot) (hl : lv_has ls 3 []), W p l e { frames := 0, cells := 0, slots := 0, locals := 0 } s m ([.long p0, .int (q_i p1)] : List Value).toArray below meth c H locs 0 0 (MQ below (q_Q g K L [] f (q_Pi (fun (z : Int) (f1 : Nat → va_E) => f = f1 ∧ 0 ≤ z ∧ z ≤ 1))) ([.long p0, .int (q_i p1)] : List Value).toArray s 0 0 (fun q => q ∈ L)) (F0 m 15 ls [.int (q_i t15_0)]) := by
    intro t15_0 lt15_0 ut15_0 H locs hB ls hl
    refine q_zret cx hr hlk hB dX10_hasDay_15 (by omega) (by omega) ?_
    exact ⟨rfl, (by omega), (by omega)⟩
  obtain ⟨H, hH⟩ : ∃ H : Heap, H = s.heap := ⟨_, rfl⟩
  obtain ⟨locs, hlocs⟩ : ∃ z : List Loc, z = [] := ⟨_, rfl⟩
  rw [← hH, ← hlocs] at hB
  rw [← hH, ← hlocs]
  refine q_lld_n cx dX10_hasDay_0 rfl (lv_at hl 0 rfl) ?_
  refine q_ild_n cx dX10_hasDay_1 rfl (lv_at hl 1 rfl) ?_
  refine lv_lshr cx.1 cx.2.1 dX10_hasDay_2 rfl ?_
  refine lv_topl (fun j5 ej5 => ?_)
  refine q_lconst (z := 1) cx (by decide) dX10_hasDay_3 ?_
  refine lv_land cx.1 cx.2.1 dX10_hasDay_4 ?_
  refine lv_topl (fun j6 ej6 => ?_)
  refine q_lconst (z := 0) cx (by decide) dX10_hasDay_5 ?_
  refine q_lcmp cx dX10_hasDay_6 (fun y7 ly7 uy7 ey7 gy7 hy7 => ?_)
  rw [q_lInt ⟨by decide, by decide⟩] at ey7 hy7
  refine q_ifeq (tgt := 14) cx ⟨by omega, by omega⟩ dX10_hasDay_7 (by decide) (fun c8 => ?_) (fun c8 => ?_)
  · refine q_iconst cx dX10_hasDay_14 ?_
    exact J15 0 (by decide) (by decide) H locs hB ls (lv_sub hl [] rfl)
  · refine q_iconst cx dX10_hasDay_10 ?_
    refine lv_goto (tgt := 15) cx.1 cx.2.1 dX10_hasDay_11 (by decide) ?_
    exact J15 1 (by decide) (by decide) H locs hB ls (lv_sub hl [] rfl)
