set_option maxHeartbeats 4000000 in
set_option maxRecDepth 100000 in
theorem g_X10_figure_1 (l : Launch) (g : q_G) {K : Nat → Nat} {L : List Nat} (hN : L.Nodup) {f : Nat → va_E} (hT : q_Ty g K L f) (v : Nat) (hv : v ∈ L) (kv : K v = 13) (p0 : Int) (lp0 : (-2147483648) ≤ p0) (up0 : p0 ≤ 2147483647) : q_Ct l g K L yX10_figure cX10_figure 2 (some .int) 2 44 [.ref v, .int (q_i p0)] f [] (q_Pi (fun (z : Int) (f1 : Nat → va_E) => f = f1)) := by
  refine q_ofb (by decide +kernel) hN hT (Nat.le_of_ble_eq_true rfl) ?_
  intro p e s m below meth c ls cx hr hlk hB hl
  have hl : lv_has ls 2 [(0, .ref v), (1, .int (q_i p0))] := hl
  obtain ⟨H, hH⟩ : ∃ H : Heap, H = s.heap := ⟨_, rfl⟩
  obtain ⟨locs, hlocs⟩ : ∃ z : List Loc, z = [] := ⟨_, rfl⟩
  rw [← hH, ← hlocs] at hB
  rw [← hH, ← hlocs]
  refine q_ild_n cx dX10_figure_0 rfl (lv_at hl 1 rfl) ?_
  by_cases c39 : p0 = 0
  · refine lv_tableIn (tgt := 52) cx.1 cx.2.1 dX10_figure_1 (by rw [q_toInt ⟨by omega, by omega⟩]; omega) (by rw [q_toInt ⟨by omega, by omega⟩]; omega) (off := 51) (by rw [q_toInt ⟨by omega, by omega⟩, c39]; rfl) (by decide) ?_
    refine q_ald_n cx dX10_figure_52 rfl (lv_at hl 0 rfl) ?_
    obtain ⟨x40, ex40⟩ : ∃ zz, q_is (q_z f v 3) zz := ⟨_, q_isr _⟩
    refine q_gX10_35_13 cx hB hv kv ex40 dX10_figure_53 (fun lb41 ub41 => ?_)
    refine q_iret cx hr hlk hB dX10_figure_56 ⟨by omega, by omega⟩ ?_
    exact rfl
  by_cases c42 : p0 = 1
  · refine lv_tableIn (tgt := 57) cx.1 cx.2.1 dX10_figure_1 (by rw [q_toInt ⟨by omega, by omega⟩]; omega) (by rw [q_toInt ⟨by omega, by omega⟩]; omega) (off := 56) (by rw [q_toInt ⟨by omega, by omega⟩, c42]; rfl) (by decide) ?_
    refine q_ald_n cx dX10_figure_57 rfl (lv_at hl 0 rfl) ?_
    obtain ⟨x43, ex43⟩ : ∃ zz, q_is (q_z f v 4) zz := ⟨_, q_isr _⟩
    refine q_gX10_39_13 cx hB hv kv ex43 dX10_figure_58 (fun lb44 ub44 => ?_)
    refine q_iret cx hr hlk hB dX10_figure_61 ⟨by omega, by omega⟩ ?_
    exact rfl
  by_cases c45 : p0 = 2
  · refine lv_tableIn (tgt := 62) cx.1 cx.2.1 dX10_figure_1 (by rw [q_toInt ⟨by omega, by omega⟩]; omega) (by rw [q_toInt ⟨by omega, by omega⟩]; omega) (off := 61) (by rw [q_toInt ⟨by omega, by omega⟩, c45]; rfl) (by decide) ?_
    refine q_ald_n cx dX10_figure_62 rfl (lv_at hl 0 rfl) ?_
    obtain ⟨x46, ex46⟩ : ∃ zz, q_is (q_z f v 6) zz := ⟨_, q_isr _⟩
    refine q_gX10_45_13 cx hB hv kv ex46 dX10_figure_63 (fun lb47 ub47 => ?_)
    refine q_iret cx hr hlk hB dX10_figure_66 ⟨by omega, by omega⟩ ?_
    exact rfl
  by_cases c48 : p0 = 3
  · refine lv_tableIn (tgt := 67) cx.1 cx.2.1 dX10_figure_1 (by rw [q_toInt ⟨by omega, by omega⟩]; omega) (by rw [q_toInt ⟨by omega, by omega⟩]; omega) (off := 66) (by rw [q_toInt ⟨by omega, by omega⟩, c48]; rfl) (by decide) ?_
    refine q_ald_n cx dX10_figure_67 rfl (lv_at hl 0 rfl) ?_
    obtain ⟨x49, ex49⟩ : ∃ zz, q_is (q_z f v 11) zz := ⟨_, q_isr _⟩
    refine q_gX10_60_13 cx hB hv kv ex49 dX10_figure_68 (fun lb50 ub50 => ?_)
    refine q_iret cx hr hlk hB dX10_figure_71 ⟨by omega, by omega⟩ ?_
    exact rfl
  by_cases c51 : p0 = 4
  · refine lv_tableIn (tgt := 72) cx.1 cx.2.1 dX10_figure_1 (by rw [q_toInt ⟨by omega, by omega⟩]; omega) (by rw [q_toInt ⟨by omega, by omega⟩]; omega) (off := 71) (by rw [q_toInt ⟨by omega, by omega⟩, c51]; rfl) (by decide) ?_
    refine q_ald_n cx dX10_figure_72 rfl (lv_at hl 0 rfl) ?_
    obtain ⟨x52, ex52⟩ : ∃ zz, q_is (q_z f v 5) zz := ⟨_, q_isr _⟩
    refine q_gX10_42_13 cx hB hv kv ex52 dX10_figure_73 (fun lb53 ub53 => ?_)
    refine q_iret cx hr hlk hB dX10_figure_76 ⟨by omega, by omega⟩ ?_
    exact rfl
  by_cases c54 : p0 = 5
  · refine lv_tableIn (tgt := 77) cx.1 cx.2.1 dX10_figure_1 (by rw [q_toInt ⟨by omega, by omega⟩]; omega) (by rw [q_toInt ⟨by omega, by omega⟩]; omega) (off := 76) (by rw [q_toInt ⟨by omega, by omega⟩, c54]; rfl) (by decide) ?_
    refine q_ald_n cx dX10_figure_77 rfl (lv_at hl 0 rfl) ?_
    refine q_iconst cx dX10_figure_78 ?_
    refine q_cVi (As := [.int (q_i 1)]) (rest := []) cx hB (fun _ h => h) hN hv kv (by decide) rfl (g_X10_messagesInState_1 l g hN hB.2.1 v hv kv 1 (by decide) (by decide)) q_cX10_188 q_dX10_messagesInState (by decide) rfl rfl hl.1 rfl (Nat.le_of_ble_eq_true rfl) dX10_figure_79 (fun y56 H locs f55 ry56 h57 hF hB => ?_)
    obtain rfl := h57
    refine q_iret cx hr hlk hB dX10_figure_82 ⟨by omega, by omega⟩ ?_
    exact rfl
  by_cases c58 : p0 = 6
  · refine lv_tableIn (tgt := 83) cx.1 cx.2.1 dX10_figure_1 (by rw [q_toInt ⟨by omega, by omega⟩]; omega) (by rw [q_toInt ⟨by omega, by omega⟩]; omega) (off := 82) (by rw [q_toInt ⟨by omega, by omega⟩, c58]; rfl) (by decide) ?_
    refine q_ald_n cx dX10_figure_83 rfl (lv_at hl 0 rfl) ?_
    refine q_cVi (As := []) (rest := []) cx hB (fun _ h => h) hN hv kv (by decide) rfl (g_X10_messagesInTime_1 l g hN hB.2.1 v hv kv) q_cX10_191 q_dX10_messagesInTime (by decide) rfl rfl hl.1 rfl (Nat.le_of_ble_eq_true rfl) dX10_figure_84 (fun y60 H locs f59 ry60 h61 hF hB => ?_)
    obtain rfl := h61
    refine q_iret cx hr hlk hB dX10_figure_87 ⟨by omega, by omega⟩ ?_
    exact rfl
  by_cases c62 : p0 = 7
  · refine lv_tableIn (tgt := 88) cx.1 cx.2.1 dX10_figure_1 (by rw [q_toInt ⟨by omega, by omega⟩]; omega) (by rw [q_toInt ⟨by omega, by omega⟩]; omega) (off := 87) (by rw [q_toInt ⟨by omega, by omega⟩, c62]; rfl) (by decide) ?_
    refine q_ald_n cx dX10_figure_88 rfl (lv_at hl 0 rfl) ?_
    refine q_iconst cx dX10_figure_89 ?_
    refine q_cVi (As := [.int (q_i 2)]) (rest := []) cx hB (fun _ h => h) hN hv kv (by decide) rfl (g_X10_messagesInState_1 l g hN hB.2.1 v hv kv 2 (by decide) (by decide)) q_cX10_188 q_dX10_messagesInState (by decide) rfl rfl hl.1 rfl (Nat.le_of_ble_eq_true rfl) dX10_figure_90 (fun y64 H locs f63 ry64 h65 hF hB => ?_)
    obtain rfl := h65
    refine q_iret cx hr hlk hB dX10_figure_93 ⟨by omega, by omega⟩ ?_
    exact rfl
  by_cases c66 : p0 = 8
  · refine lv_tableIn (tgt := 94) cx.1 cx.2.1 dX10_figure_1 (by rw [q_toInt ⟨by omega, by omega⟩]; omega) (by rw [q_toInt ⟨by omega, by omega⟩]; omega) (off := 93) (by rw [q_toInt ⟨by omega, by omega⟩, c66]; rfl) (by decide) ?_
    refine q_ald_n cx dX10_figure_94 rfl (lv_at hl 0 rfl) ?_
    refine q_cVi (As := []) (rest := []) cx hB (fun _ h => h) hN hv kv (by decide) rfl (g_X10_notOut_1 l g hN hB.2.1 v hv kv) q_cX10_195 q_dX10_notOut (by decide) rfl rfl hl.1 rfl (Nat.le_of_ble_eq_true rfl) dX10_figure_95 (fun y68 H locs f67 ry68 h69 hF hB => ?_)
    obtain rfl := h69
    refine q_cSi (As := [.int (q_i y68)]) (rest := []) cx hB (fun _ h => h) hN (g_Integer_bitCount l g hN hB.2.1 y68 (by omega) (by omega)) q_cX10_198 q_dJ6_bitCount_0f7a4 (by decide) rfl rfl hl.1 rfl (Nat.le_of_ble_eq_true rfl) dX10_figure_98 (fun y71 H locs f70 ry71 h72 hF hB => ?_)
    obtain ⟨rfl, ly71, uy71⟩ := h72
    refine q_iret cx hr hlk hB dX10_figure_101 ⟨by omega, by omega⟩ ?_
    exact rfl
  refine lv_tableOut (tgt := 102) cx.1 cx.2.1 dX10_figure_1 (by rw [q_toInt ⟨by omega, by omega⟩]; omega) (by decide) ?_
  refine q_ald_n cx dX10_figure_102 rfl (lv_at hl 0 rfl) ?_
  obtain ⟨x73, ex73⟩ : ∃ zz, q_is (q_z f v 12) zz := ⟨_, q_isr _⟩
  refine q_gX10_63_13 cx hB hv kv ex73 dX10_figure_103 (fun lb74 ub74 => ?_)
  refine q_iret cx hr hlk hB dX10_figure_106 ⟨by omega, by omega⟩ ?_
  exact rfl
set_option maxHeartbeats 4000000 in
set_option maxRecDepth 100000 in
theorem g_X10_figure_2 (l : Launch) (g : q_G) {K : Nat → Nat} {L : List Nat} (hN : L.Nodup) {f : Nat → va_E} (hT : q_Ty g K L f) (v : Nat) (hv : v ∈ L) (kv : K v = 14) (p0 : Int) (lp0 : (-2147483648) ≤ p0) (up0 : p0 ≤ 2147483647) : q_Ct l g K L yX10_figure cX10_figure 2 (some .int) 2 44 [.ref v, .int (q_i p0)] f [] (q_Pi (fun (z : Int) (f1 : Nat → va_E) => f = f1)) := by
  refine q_ofb (by decide +kernel) hN hT (Nat.le_of_ble_eq_true rfl) ?_
  intro p e s m below meth c ls cx hr hlk hB hl
  have hl : lv_has ls 2 [(0, .ref v), (1, .int (q_i p0))] := hl
  obtain ⟨H, hH⟩ : ∃ H : Heap, H = s.heap := ⟨_, rfl⟩
  obtain ⟨locs, hlocs⟩ : ∃ z : List Loc, z = [] := ⟨_, rfl⟩
  rw [← hH, ← hlocs] at hB
  rw [← hH, ← hlocs]
  refine q_ild_n cx dX10_figure_0 rfl (lv_at hl 1 rfl) ?_
  by_cases c39 : p0 = 0
  · refine lv_tableIn (tgt := 52) cx.1 cx.2.1 dX10_figure_1 (by rw [q_toInt ⟨by omega, by omega⟩]; omega) (by rw [q_toInt ⟨by omega, by omega⟩]; omega) (off := 51) (by rw [q_toInt ⟨by omega, by omega⟩, c39]; rfl) (by decide) ?_
    refine q_ald_n cx dX10_figure_52 rfl (lv_at hl 0 rfl) ?_
    obtain ⟨x40, ex40⟩ : ∃ zz, q_is (q_z f v 3) zz := ⟨_, q_isr _⟩
    refine q_gX10_35_14 cx hB hv kv ex40 dX10_figure_53 (fun lb41 ub41 => ?_)
    refine q_iret cx hr hlk hB dX10_figure_56 ⟨by omega, by omega⟩ ?_
    exact rfl
  by_cases c42 : p0 = 1
  · refine lv_tableIn (tgt := 57) cx.1 cx.2.1 dX10_figure_1 (by rw [q_toInt ⟨by omega, by omega⟩]; omega) (by rw [q_toInt ⟨by omega, by omega⟩]; omega) (off := 56) (by rw [q_toInt ⟨by omega, by omega⟩, c42]; rfl) (by decide) ?_
    refine q_ald_n cx dX10_figure_57 rfl (lv_at hl 0 rfl) ?_
    obtain ⟨x43, ex43⟩ : ∃ zz, q_is (q_z f v 4) zz := ⟨_, q_isr _⟩
    refine q_gX10_39_14 cx hB hv kv ex43 dX10_figure_58 (fun lb44 ub44 => ?_)
    refine q_iret cx hr hlk hB dX10_figure_61 ⟨by omega, by omega⟩ ?_
    exact rfl
  by_cases c45 : p0 = 2
  · refine lv_tableIn (tgt := 62) cx.1 cx.2.1 dX10_figure_1 (by rw [q_toInt ⟨by omega, by omega⟩]; omega) (by rw [q_toInt ⟨by omega, by omega⟩]; omega) (off := 61) (by rw [q_toInt ⟨by omega, by omega⟩, c45]; rfl) (by decide) ?_
    refine q_ald_n cx dX10_figure_62 rfl (lv_at hl 0 rfl) ?_
    obtain ⟨x46, ex46⟩ : ∃ zz, q_is (q_z f v 6) zz := ⟨_, q_isr _⟩
    refine q_gX10_45_14 cx hB hv kv ex46 dX10_figure_63 (fun lb47 ub47 => ?_)
    refine q_iret cx hr hlk hB dX10_figure_66 ⟨by omega, by omega⟩ ?_
    exact rfl
  by_cases c48 : p0 = 3
  · refine lv_tableIn (tgt := 67) cx.1 cx.2.1 dX10_figure_1 (by rw [q_toInt ⟨by omega, by omega⟩]; omega) (by rw [q_toInt ⟨by omega, by omega⟩]; omega) (off := 66) (by rw [q_toInt ⟨by omega, by omega⟩, c48]; rfl) (by decide) ?_
    refine q_ald_n cx dX10_figure_67 rfl (lv_at hl 0 rfl) ?_
    obtain ⟨x49, ex49⟩ : ∃ zz, q_is (q_z f v 11) zz := ⟨_, q_isr _⟩
    refine q_gX10_60_14 cx hB hv kv ex49 dX10_figure_68 (fun lb50 ub50 => ?_)
    refine q_iret cx hr hlk hB dX10_figure_71 ⟨by omega, by omega⟩ ?_
    exact rfl
  by_cases c51 : p0 = 4
  · refine lv_tableIn (tgt := 72) cx.1 cx.2.1 dX10_figure_1 (by rw [q_toInt ⟨by omega, by omega⟩]; omega) (by rw [q_toInt ⟨by omega, by omega⟩]; omega) (off := 71) (by rw [q_toInt ⟨by omega, by omega⟩, c51]; rfl) (by decide) ?_
    refine q_ald_n cx dX10_figure_72 rfl (lv_at hl 0 rfl) ?_
    obtain ⟨x52, ex52⟩ : ∃ zz, q_is (q_z f v 5) zz := ⟨_, q_isr _⟩
    refine q_gX10_42_14 cx hB hv kv ex52 dX10_figure_73 (fun lb53 ub53 => ?_)
    refine q_iret cx hr hlk hB dX10_figure_76 ⟨by omega, by omega⟩ ?_
    exact rfl
  by_cases c54 : p0 = 5
  · refine lv_tableIn (tgt := 77) cx.1 cx.2.1 dX10_figure_1 (by rw [q_toInt ⟨by omega, by omega⟩]; omega) (by rw [q_toInt ⟨by omega, by omega⟩]; omega) (off := 76) (by rw [q_toInt ⟨by omega, by omega⟩, c54]; rfl) (by decide) ?_
    refine q_ald_n cx dX10_figure_77 rfl (lv_at hl 0 rfl) ?_
    refine q_iconst cx dX10_figure_78 ?_
    refine q_cVi (As := [.int (q_i 1)]) (rest := []) cx hB (fun _ h => h) hN hv kv (by decide) rfl (g_X10_messagesInState_2 l g hN hB.2.1 v hv kv 1 (by decide) (by decide)) q_cX10_188 q_dX10_messagesInState (by decide) rfl rfl hl.1 rfl (Nat.le_of_ble_eq_true rfl) dX10_figure_79 (fun y56 H locs f55 ry56 h57 hF hB => ?_)
    obtain rfl := h57
    refine q_iret cx hr hlk hB dX10_figure_82 ⟨by omega, by omega⟩ ?_
    exact rfl
  by_cases c58 : p0 = 6
  · refine lv_tableIn (tgt := 83) cx.1 cx.2.1 dX10_figure_1 (by rw [q_toInt ⟨by omega, by omega⟩]; omega) (by rw [q_toInt ⟨by omega, by omega⟩]; omega) (off := 82) (by rw [q_toInt ⟨by omega, by omega⟩, c58]; rfl) (by decide) ?_
    refine q_ald_n cx dX10_figure_83 rfl (lv_at hl 0 rfl) ?_
    refine q_cVi (As := []) (rest := []) cx hB (fun _ h => h) hN hv kv (by decide) rfl (g_X10_messagesInTime_2 l g hN hB.2.1 v hv kv) q_cX10_191 q_dX10_messagesInTime (by decide) rfl rfl hl.1 rfl (Nat.le_of_ble_eq_true rfl) dX10_figure_84 (fun y60 H locs f59 ry60 h61 hF hB => ?_)
    obtain rfl := h61
    refine q_iret cx hr hlk hB dX10_figure_87 ⟨by omega, by omega⟩ ?_
    exact rfl
  by_cases c62 : p0 = 7
  · refine lv_tableIn (tgt := 88) cx.1 cx.2.1 dX10_figure_1 (by rw [q_toInt ⟨by omega, by omega⟩]; omega) (by rw [q_toInt ⟨by omega, by omega⟩]; omega) (off := 87) (by rw [q_toInt ⟨by omega, by omega⟩, c62]; rfl) (by decide) ?_
    refine q_ald_n cx dX10_figure_88 rfl (lv_at hl 0 rfl) ?_
    refine q_iconst cx dX10_figure_89 ?_
    refine q_cVi (As := [.int (q_i 2)]) (rest := []) cx hB (fun _ h => h) hN hv kv (by decide) rfl (g_X10_messagesInState_2 l g hN hB.2.1 v hv kv 2 (by decide) (by decide)) q_cX10_188 q_dX10_messagesInState (by decide) rfl rfl hl.1 rfl (Nat.le_of_ble_eq_true rfl) dX10_figure_90 (fun y64 H locs f63 ry64 h65 hF hB => ?_)
    obtain rfl := h65
    refine q_iret cx hr hlk hB dX10_figure_93 ⟨by omega, by omega⟩ ?_
    exact rfl
  by_cases c66 : p0 = 8
  · refine lv_tableIn (tgt := 94) cx.1 cx.2.1 dX10_figure_1 (by rw [q_toInt ⟨by omega, by omega⟩]; omega) (by rw [q_toInt ⟨by omega, by omega⟩]; omega) (off := 93) (by rw [q_toInt ⟨by omega, by omega⟩, c66]; rfl) (by decide) ?_
    refine q_ald_n cx dX10_figure_94 rfl (lv_at hl 0 rfl) ?_
    refine q_cVi (As := []) (rest := []) cx hB (fun _ h => h) hN hv kv (by decide) rfl (g_X10_notOut_2 l g hN hB.2.1 v hv kv) q_cX10_195 q_dX10_notOut (by decide) rfl rfl hl.1 rfl (Nat.le_of_ble_eq_true rfl) dX10_figure_95 (fun y68 H locs f67 ry68 h69 hF hB => ?_)
    obtain rfl := h69
    refine q_cSi (As := [.int (q_i y68)]) (rest := []) cx hB (fun _ h => h) hN (g_Integer_bitCount l g hN hB.2.1 y68 (by omega) (by omega)) q_cX10_198 q_dJ6_bitCount_0f7a4 (by decide) rfl rfl hl.1 rfl (Nat.le_of_ble_eq_true rfl) dX10_figure_98 (fun y71 H locs f70 ry71 h72 hF hB => ?_)
    obtain ⟨rfl, ly71, uy71⟩ := h72
    refine q_iret cx hr hlk hB dX10_figure_101 ⟨by omega, by omega⟩ ?_
    exact rfl
  refine lv_tableOut (tgt := 102) cx.1 cx.2.1 dX10_figure_1 (by rw [q_toInt ⟨by omega, by omega⟩]; omega) (by decide) ?_
  refine q_ald_n cx dX10_figure_102 rfl (lv_at hl 0 rfl) ?_
  obtain ⟨x73, ex73⟩ : ∃ zz, q_is (q_z f v 12) zz := ⟨_, q_isr _⟩
  refine q_gX10_63_14 cx hB hv kv ex73 dX10_figure_103 (fun lb74 ub74 => ?_)
  refine q_iret cx hr hlk hB dX10_figure_106 ⟨by omega, by omega⟩ ?_
  exact rfl
set_option maxHeartbeats 4000000 in
set_option maxRecDepth 100000 in
theorem g_X10_figure_3 (l : Launch) (g : q_G) {K : Nat → Nat} {L : List Nat} (hN : L.Nodup) {f : Nat → va_E} (hT : q_Ty g K L f) (v : Nat) (hv : v ∈ L) (kv : K v = 15) (p0 : Int) (lp0 : (-2147483648) ≤ p0) (up0 : p0 ≤ 2147483647) : q_Ct l g K L yX10_figure cX10_figure 2 (some .int) 2 44 [.ref v, .int (q_i p0)] f [] (q_Pi (fun (z : Int) (f1 : Nat → va_E) => f = f1)) := by
  refine q_ofb (by decide +kernel) hN hT (Nat.le_of_ble_eq_true rfl) ?_
  intro p e s m below meth c ls cx hr hlk hB hl
  have hl : lv_has ls 2 [(0, .ref v), (1, .int (q_i p0))] := hl
  obtain ⟨H, hH⟩ : ∃ H : Heap, H = s.heap := ⟨_, rfl⟩
  obtain ⟨locs, hlocs⟩ : ∃ z : List Loc, z = [] := ⟨_, rfl⟩
  rw [← hH, ← hlocs] at hB
  rw [← hH, ← hlocs]
  refine q_ild_n cx dX10_figure_0 rfl (lv_at hl 1 rfl) ?_
  by_cases c39 : p0 = 0
  · refine lv_tableIn (tgt := 52) cx.1 cx.2.1 dX10_figure_1 (by rw [q_toInt ⟨by omega, by omega⟩]; omega) (by rw [q_toInt ⟨by omega, by omega⟩]; omega) (off := 51) (by rw [q_toInt ⟨by omega, by omega⟩, c39]; rfl) (by decide) ?_
    refine q_ald_n cx dX10_figure_52 rfl (lv_at hl 0 rfl) ?_
    obtain ⟨x40, ex40⟩ : ∃ zz, q_is (q_z f v 3) zz := ⟨_, q_isr _⟩
    refine q_gX10_35_15 cx hB hv kv ex40 dX10_figure_53 (fun lb41 ub41 => ?_)
    refine q_iret cx hr hlk hB dX10_figure_56 ⟨by omega, by omega⟩ ?_
    exact rfl
  by_cases c42 : p0 = 1
  · refine lv_tableIn (tgt := 57) cx.1 cx.2.1 dX10_figure_1 (by rw [q_toInt ⟨by omega, by omega⟩]; omega) (by rw [q_toInt ⟨by omega, by omega⟩]; omega) (off := 56) (by rw [q_toInt ⟨by omega, by omega⟩, c42]; rfl) (by decide) ?_
    refine q_ald_n cx dX10_figure_57 rfl (lv_at hl 0 rfl) ?_
    obtain ⟨x43, ex43⟩ : ∃ zz, q_is (q_z f v 4) zz := ⟨_, q_isr _⟩
    refine q_gX10_39_15 cx hB hv kv ex43 dX10_figure_58 (fun lb44 ub44 => ?_)
    refine q_iret cx hr hlk hB dX10_figure_61 ⟨by omega, by omega⟩ ?_
    exact rfl
  by_cases c45 : p0 = 2
  · refine lv_tableIn (tgt := 62) cx.1 cx.2.1 dX10_figure_1 (by rw [q_toInt ⟨by omega, by omega⟩]; omega) (by rw [q_toInt ⟨by omega, by omega⟩]; omega) (off := 61) (by rw [q_toInt ⟨by omega, by omega⟩, c45]; rfl) (by decide) ?_
    refine q_ald_n cx dX10_figure_62 rfl (lv_at hl 0 rfl) ?_
    obtain ⟨x46, ex46⟩ : ∃ zz, q_is (q_z f v 6) zz := ⟨_, q_isr _⟩
    refine q_gX10_45_15 cx hB hv kv ex46 dX10_figure_63 (fun lb47 ub47 => ?_)
    refine q_iret cx hr hlk hB dX10_figure_66 ⟨by omega, by omega⟩ ?_
    exact rfl
  by_cases c48 : p0 = 3
  · refine lv_tableIn (tgt := 67) cx.1 cx.2.1 dX10_figure_1 (by rw [q_toInt ⟨by omega, by omega⟩]; omega) (by rw [q_toInt ⟨by omega, by omega⟩]; omega) (off := 66) (by rw [q_toInt ⟨by omega, by omega⟩, c48]; rfl) (by decide) ?_
    refine q_ald_n cx dX10_figure_67 rfl (lv_at hl 0 rfl) ?_
    obtain ⟨x49, ex49⟩ : ∃ zz, q_is (q_z f v 11) zz := ⟨_, q_isr _⟩
    refine q_gX10_60_15 cx hB hv kv ex49 dX10_figure_68 (fun lb50 ub50 => ?_)
    refine q_iret cx hr hlk hB dX10_figure_71 ⟨by omega, by omega⟩ ?_
    exact rfl
  by_cases c51 : p0 = 4
  · refine lv_tableIn (tgt := 72) cx.1 cx.2.1 dX10_figure_1 (by rw [q_toInt ⟨by omega, by omega⟩]; omega) (by rw [q_toInt ⟨by omega, by omega⟩]; omega) (off := 71) (by rw [q_toInt ⟨by omega, by omega⟩, c51]; rfl) (by decide) ?_
    refine q_ald_n cx dX10_figure_72 rfl (lv_at hl 0 rfl) ?_
    obtain ⟨x52, ex52⟩ : ∃ zz, q_is (q_z f v 5) zz := ⟨_, q_isr _⟩
    refine q_gX10_42_15 cx hB hv kv ex52 dX10_figure_73 (fun lb53 ub53 => ?_)
    refine q_iret cx hr hlk hB dX10_figure_76 ⟨by omega, by omega⟩ ?_
    exact rfl
  by_cases c54 : p0 = 5
  · refine lv_tableIn (tgt := 77) cx.1 cx.2.1 dX10_figure_1 (by rw [q_toInt ⟨by omega, by omega⟩]; omega) (by rw [q_toInt ⟨by omega, by omega⟩]; omega) (off := 76) (by rw [q_toInt ⟨by omega, by omega⟩, c54]; rfl) (by decide) ?_
    refine q_ald_n cx dX10_figure_77 rfl (lv_at hl 0 rfl) ?_
    refine q_iconst cx dX10_figure_78 ?_
    refine q_cVi (As := [.int (q_i 1)]) (rest := []) cx hB (fun _ h => h) hN hv kv (by decide) rfl (g_X10_messagesInState_3 l g hN hB.2.1 v hv kv 1 (by decide) (by decide)) q_cX10_188 q_dX10_messagesInState (by decide) rfl rfl hl.1 rfl (Nat.le_of_ble_eq_true rfl) dX10_figure_79 (fun y56 H locs f55 ry56 h57 hF hB => ?_)
    obtain rfl := h57
    refine q_iret cx hr hlk hB dX10_figure_82 ⟨by omega, by omega⟩ ?_
    exact rfl
  by_cases c58 : p0 = 6
  · refine lv_tableIn (tgt := 83) cx.1 cx.2.1 dX10_figure_1 (by rw [q_toInt ⟨by omega, by omega⟩]; omega) (by rw [q_toInt ⟨by omega, by omega⟩]; omega) (off := 82) (by rw [q_toInt ⟨by omega, by omega⟩, c58]; rfl) (by decide) ?_
    refine q_ald_n cx dX10_figure_83 rfl (lv_at hl 0 rfl) ?_
    refine q_cVi (As := []) (rest := []) cx hB (fun _ h => h) hN hv kv (by decide) rfl (g_X10_messagesInTime_3 l g hN hB.2.1 v hv kv) q_cX10_191 q_dX10_messagesInTime (by decide) rfl rfl hl.1 rfl (Nat.le_of_ble_eq_true rfl) dX10_figure_84 (fun y60 H locs f59 ry60 h61 hF hB => ?_)
    obtain rfl := h61
    refine q_iret cx hr hlk hB dX10_figure_87 ⟨by omega, by omega⟩ ?_
    exact rfl
  by_cases c62 : p0 = 7
  · refine lv_tableIn (tgt := 88) cx.1 cx.2.1 dX10_figure_1 (by rw [q_toInt ⟨by omega, by omega⟩]; omega) (by rw [q_toInt ⟨by omega, by omega⟩]; omega) (off := 87) (by rw [q_toInt ⟨by omega, by omega⟩, c62]; rfl) (by decide) ?_
    refine q_ald_n cx dX10_figure_88 rfl (lv_at hl 0 rfl) ?_
    refine q_iconst cx dX10_figure_89 ?_
    refine q_cVi (As := [.int (q_i 2)]) (rest := []) cx hB (fun _ h => h) hN hv kv (by decide) rfl (g_X10_messagesInState_3 l g hN hB.2.1 v hv kv 2 (by decide) (by decide)) q_cX10_188 q_dX10_messagesInState (by decide) rfl rfl hl.1 rfl (Nat.le_of_ble_eq_true rfl) dX10_figure_90 (fun y64 H locs f63 ry64 h65 hF hB => ?_)
    obtain rfl := h65
    refine q_iret cx hr hlk hB dX10_figure_93 ⟨by omega, by omega⟩ ?_
    exact rfl
  by_cases c66 : p0 = 8
  · refine lv_tableIn (tgt := 94) cx.1 cx.2.1 dX10_figure_1 (by rw [q_toInt ⟨by omega, by omega⟩]; omega) (by rw [q_toInt ⟨by omega, by omega⟩]; omega) (off := 93) (by rw [q_toInt ⟨by omega, by omega⟩, c66]; rfl) (by decide) ?_
    refine q_ald_n cx dX10_figure_94 rfl (lv_at hl 0 rfl) ?_
    refine q_cVi (As := []) (rest := []) cx hB (fun _ h => h) hN hv kv (by decide) rfl (g_X10_notOut_3 l g hN hB.2.1 v hv kv) q_cX10_195 q_dX10_notOut (by decide) rfl rfl hl.1 rfl (Nat.le_of_ble_eq_true rfl) dX10_figure_95 (fun y68 H locs f67 ry68 h69 hF hB => ?_)
    obtain rfl := h69
    refine q_cSi (As := [.int (q_i y68)]) (rest := []) cx hB (fun _ h => h) hN (g_Integer_bitCount l g hN hB.2.1 y68 (by omega) (by omega)) q_cX10_198 q_dJ6_bitCount_0f7a4 (by decide) rfl rfl hl.1 rfl (Nat.le_of_ble_eq_true rfl) dX10_figure_98 (fun y71 H locs f70 ry71 h72 hF hB => ?_)
    obtain ⟨rfl, ly71, uy71⟩ := h72
    refine q_iret cx hr hlk hB dX10_figure_101 ⟨by omega, by omega⟩ ?_
    exact rfl
  refine lv_tableOut (tgt := 102) cx.1 cx.2.1 dX10_figure_1 (by rw [q_toInt ⟨by omega, by omega⟩]; omega) (by decide) ?_
  refine q_ald_n cx dX10_figure_102 rfl (lv_at hl 0 rfl) ?_
  obtain ⟨x73, ex73⟩ : ∃ zz, q_is (q_z f v 12) zz := ⟨_, q_isr _⟩
  refine q_gX10_63_15 cx hB hv kv ex73 dX10_figure_103 (fun lb74 ub74 => ?_)
  refine q_iret cx hr hlk hB dX10_figure_106 ⟨by omega, by omega⟩ ?_
  exact rfl
set_option maxHeartbeats 4000000 in
set_option maxRecDepth 100000 in
theorem g_X10_figure_4 (l : Launch) (g : q_G) {K : Nat → Nat} {L : List Nat} (hN : L.Nodup) {f : Nat → va_E} (hT : q_Ty g K L f) (v : Nat) (hv : v ∈ L) (kv : K v = 16) (p0 : Int) (lp0 : (-2147483648) ≤ p0) (up0 : p0 ≤ 2147483647) : q_Ct l g K L yX10_figure cX10_figure 2 (some .int) 2 44 [.ref v, .int (q_i p0)] f [] (q_Pi (fun (z : Int) (f1 : Nat → va_E) => f = f1)) := by
  refine q_ofb (by decide +kernel) hN hT (Nat.le_of_ble_eq_true rfl) ?_
  intro p e s m below meth c ls cx hr hlk hB hl
  have hl : lv_has ls 2 [(0, .ref v), (1, .int (q_i p0))] := hl
  obtain ⟨H, hH⟩ : ∃ H : Heap, H = s.heap := ⟨_, rfl⟩
  obtain ⟨locs, hlocs⟩ : ∃ z : List Loc, z = [] := ⟨_, rfl⟩
  rw [← hH, ← hlocs] at hB
  rw [← hH, ← hlocs]
  refine q_ild_n cx dX10_figure_0 rfl (lv_at hl 1 rfl) ?_
  by_cases c39 : p0 = 0
  · refine lv_tableIn (tgt := 52) cx.1 cx.2.1 dX10_figure_1 (by rw [q_toInt ⟨by omega, by omega⟩]; omega) (by rw [q_toInt ⟨by omega, by omega⟩]; omega) (off := 51) (by rw [q_toInt ⟨by omega, by omega⟩, c39]; rfl) (by decide) ?_
    refine q_ald_n cx dX10_figure_52 rfl (lv_at hl 0 rfl) ?_
    obtain ⟨x40, ex40⟩ : ∃ zz, q_is (q_z f v 3) zz := ⟨_, q_isr _⟩
    refine q_gX10_35_16 cx hB hv kv ex40 dX10_figure_53 (fun lb41 ub41 => ?_)
    refine q_iret cx hr hlk hB dX10_figure_56 ⟨by omega, by omega⟩ ?_
    exact rfl
  by_cases c42 : p0 = 1
  · refine lv_tableIn (tgt := 57) cx.1 cx.2.1 dX10_figure_1 (by rw [q_toInt ⟨by omega, by omega⟩]; omega) (by rw [q_toInt ⟨by omega, by omega⟩]; omega) (off := 56) (by rw [q_toInt ⟨by omega, by omega⟩, c42]; rfl) (by decide) ?_
    refine q_ald_n cx dX10_figure_57 rfl (lv_at hl 0 rfl) ?_
    obtain ⟨x43, ex43⟩ : ∃ zz, q_is (q_z f v 4) zz := ⟨_, q_isr _⟩
    refine q_gX10_39_16 cx hB hv kv ex43 dX10_figure_58 (fun lb44 ub44 => ?_)
    refine q_iret cx hr hlk hB dX10_figure_61 ⟨by omega, by omega⟩ ?_
    exact rfl
  by_cases c45 : p0 = 2
  · refine lv_tableIn (tgt := 62) cx.1 cx.2.1 dX10_figure_1 (by rw [q_toInt ⟨by omega, by omega⟩]; omega) (by rw [q_toInt ⟨by omega, by omega⟩]; omega) (off := 61) (by rw [q_toInt ⟨by omega, by omega⟩, c45]; rfl) (by decide) ?_
    refine q_ald_n cx dX10_figure_62 rfl (lv_at hl 0 rfl) ?_
    obtain ⟨x46, ex46⟩ : ∃ zz, q_is (q_z f v 6) zz := ⟨_, q_isr _⟩
    refine q_gX10_45_16 cx hB hv kv ex46 dX10_figure_63 (fun lb47 ub47 => ?_)
    refine q_iret cx hr hlk hB dX10_figure_66 ⟨by omega, by omega⟩ ?_
    exact rfl
  by_cases c48 : p0 = 3
  · refine lv_tableIn (tgt := 67) cx.1 cx.2.1 dX10_figure_1 (by rw [q_toInt ⟨by omega, by omega⟩]; omega) (by rw [q_toInt ⟨by omega, by omega⟩]; omega) (off := 66) (by rw [q_toInt ⟨by omega, by omega⟩, c48]; rfl) (by decide) ?_
    refine q_ald_n cx dX10_figure_67 rfl (lv_at hl 0 rfl) ?_
    obtain ⟨x49, ex49⟩ : ∃ zz, q_is (q_z f v 11) zz := ⟨_, q_isr _⟩
    refine q_gX10_60_16 cx hB hv kv ex49 dX10_figure_68 (fun lb50 ub50 => ?_)
    refine q_iret cx hr hlk hB dX10_figure_71 ⟨by omega, by omega⟩ ?_
    exact rfl
  by_cases c51 : p0 = 4
  · refine lv_tableIn (tgt := 72) cx.1 cx.2.1 dX10_figure_1 (by rw [q_toInt ⟨by omega, by omega⟩]; omega) (by rw [q_toInt ⟨by omega, by omega⟩]; omega) (off := 71) (by rw [q_toInt ⟨by omega, by omega⟩, c51]; rfl) (by decide) ?_
    refine q_ald_n cx dX10_figure_72 rfl (lv_at hl 0 rfl) ?_
    obtain ⟨x52, ex52⟩ : ∃ zz, q_is (q_z f v 5) zz := ⟨_, q_isr _⟩
    refine q_gX10_42_16 cx hB hv kv ex52 dX10_figure_73 (fun lb53 ub53 => ?_)
    refine q_iret cx hr hlk hB dX10_figure_76 ⟨by omega, by omega⟩ ?_
    exact rfl
  by_cases c54 : p0 = 5
  · refine lv_tableIn (tgt := 77) cx.1 cx.2.1 dX10_figure_1 (by rw [q_toInt ⟨by omega, by omega⟩]; omega) (by rw [q_toInt ⟨by omega, by omega⟩]; omega) (off := 76) (by rw [q_toInt ⟨by omega, by omega⟩, c54]; rfl) (by decide) ?_
    refine q_ald_n cx dX10_figure_77 rfl (lv_at hl 0 rfl) ?_
    refine q_iconst cx dX10_figure_78 ?_
    refine q_cVi (As := [.int (q_i 1)]) (rest := []) cx hB (fun _ h => h) hN hv kv (by decide) rfl (g_X10_messagesInState_4 l g hN hB.2.1 v hv kv 1 (by decide) (by decide)) q_cX10_188 q_dX10_messagesInState (by decide) rfl rfl hl.1 rfl (Nat.le_of_ble_eq_true rfl) dX10_figure_79 (fun y56 H locs f55 ry56 h57 hF hB => ?_)
    obtain rfl := h57
    refine q_iret cx hr hlk hB dX10_figure_82 ⟨by omega, by omega⟩ ?_
    exact rfl
  by_cases c58 : p0 = 6
  · refine lv_tableIn (tgt := 83) cx.1 cx.2.1 dX10_figure_1 (by rw [q_toInt ⟨by omega, by omega⟩]; omega) (by rw [q_toInt ⟨by omega, by omega⟩]; omega) (off := 82) (by rw [q_toInt ⟨by omega, by omega⟩, c58]; rfl) (by decide) ?_
    refine q_ald_n cx dX10_figure_83 rfl (lv_at hl 0 rfl) ?_
    refine q_cVi (As := []) (rest := []) cx hB (fun _ h => h) hN hv kv (by decide) rfl (g_X10_messagesInTime_4 l g hN hB.2.1 v hv kv) q_cX10_191 q_dX10_messagesInTime (by decide) rfl rfl hl.1 rfl (Nat.le_of_ble_eq_true rfl) dX10_figure_84 (fun y60 H locs f59 ry60 h61 hF hB => ?_)
    obtain rfl := h61
    refine q_iret cx hr hlk hB dX10_figure_87 ⟨by omega, by omega⟩ ?_
    exact rfl
  by_cases c62 : p0 = 7
  · refine lv_tableIn (tgt := 88) cx.1 cx.2.1 dX10_figure_1 (by rw [q_toInt ⟨by omega, by omega⟩]; omega) (by rw [q_toInt ⟨by omega, by omega⟩]; omega) (off := 87) (by rw [q_toInt ⟨by omega, by omega⟩, c62]; rfl) (by decide) ?_
    refine q_ald_n cx dX10_figure_88 rfl (lv_at hl 0 rfl) ?_
    refine q_iconst cx dX10_figure_89 ?_
    refine q_cVi (As := [.int (q_i 2)]) (rest := []) cx hB (fun _ h => h) hN hv kv (by decide) rfl (g_X10_messagesInState_4 l g hN hB.2.1 v hv kv 2 (by decide) (by decide)) q_cX10_188 q_dX10_messagesInState (by decide) rfl rfl hl.1 rfl (Nat.le_of_ble_eq_true rfl) dX10_figure_90 (fun y64 H locs f63 ry64 h65 hF hB => ?_)
    obtain rfl := h65
    refine q_iret cx hr hlk hB dX10_figure_93 ⟨by omega, by omega⟩ ?_
    exact rfl
  by_cases c66 : p0 = 8
  · refine lv_tableIn (tgt := 94) cx.1 cx.2.1 dX10_figure_1 (by rw [q_toInt ⟨by omega, by omega⟩]; omega) (by rw [q_toInt ⟨by omega, by omega⟩]; omega) (off := 93) (by rw [q_toInt ⟨by omega, by omega⟩, c66]; rfl) (by decide) ?_
    refine q_ald_n cx dX10_figure_94 rfl (lv_at hl 0 rfl) ?_
    refine q_cVi (As := []) (rest := []) cx hB (fun _ h => h) hN hv kv (by decide) rfl (g_X10_notOut_4 l g hN hB.2.1 v hv kv) q_cX10_195 q_dX10_notOut (by decide) rfl rfl hl.1 rfl (Nat.le_of_ble_eq_true rfl) dX10_figure_95 (fun y68 H locs f67 ry68 h69 hF hB => ?_)
    obtain rfl := h69
    refine q_cSi (As := [.int (q_i y68)]) (rest := []) cx hB (fun _ h => h) hN (g_Integer_bitCount l g hN hB.2.1 y68 (by omega) (by omega)) q_cX10_198 q_dJ6_bitCount_0f7a4 (by decide) rfl rfl hl.1 rfl (Nat.le_of_ble_eq_true rfl) dX10_figure_98 (fun y71 H locs f70 ry71 h72 hF hB => ?_)
    obtain ⟨rfl, ly71, uy71⟩ := h72
    refine q_iret cx hr hlk hB dX10_figure_101 ⟨by omega, by omega⟩ ?_
    exact rfl
  refine lv_tableOut (tgt := 102) cx.1 cx.2.1 dX10_figure_1 (by rw [q_toInt ⟨by omega, by omega⟩]; omega) (by decide) ?_
  refine q_ald_n cx dX10_figure_102 rfl (lv_at hl 0 rfl) ?_
  obtain ⟨x73, ex73⟩ : ∃ zz, q_is (q_z f v 12) zz := ⟨_, q_isr _⟩
  refine q_gX10_63_16 cx hB hv kv ex73 dX10_figure_103 (fun lb74 ub74 => ?_)
  refine q_iret cx hr hlk hB dX10_figure_106 ⟨by omega, by omega⟩ ?_
  exact rfl
set_option maxHeartbeats 4000000 in
set_option maxRecDepth 100000 in
theorem g_X10_nodeFigure (l : Launch) (g : q_G) {K : Nat → Nat} {L : List Nat} (hN : L.Nodup) {f : Nat → va_E} (hT : q_Ty g K L f) (v : Nat) (hv : v ∈ L) (kv : K v = 10) (p0 : Int) (lp0 : (-2147483648) ≤ p0) (up0 : p0 ≤ 2147483647) (p1 : Int) (lp1 : (-2147483648) ≤ p1) (up1 : p1 ≤ 2147483647) : q_Ct l g K L yX10_nodeFigure cX10_nodeFigure 4 (some .int) 3 67 [.ref v, .int (q_i p0), .int (q_i p1)] f [] (q_Pi (fun (z : Int) (f1 : Nat → va_E) => f = f1)) := by
  refine q_ofb (by decide +kernel) hN hT (Nat.le_of_ble_eq_true rfl) ?_
  intro p e s m below meth c ls cx hr hlk hB hl
  have hl : lv_has ls 4 [(0, .ref v), (1, .int (q_i p0)), (2, .int (q_i p1))] := hl
  have J94 : ∀ (t94_0 : Int) (lt94_0 : 0 ≤ t94_0) (ut94_0 : t94_0 ≤ 1) (blp1 : 4 ≤ p1) (bup1 : p1 ≤ 4) (H : Heap) (locs : List Loc) (hB : q_B g K L (fun q => q ∈ L) [] f f s H locs) (ls : Array Slot) (hl : lv_has ls 4 []), W p l e { frames := 3, cells := 0, slots := 0, locals := 67 } s m ([.ref v, .int (q_i p0), .int (q_i p1)] : List Value).toArray below meth c H locs 0 0 (MQ below (q_Q g K L [] f (q_Pi (fun (z : Int) (f1 : Nat → va_E) => f = f1))) ([.ref v, .int (q_i p0), .int (q_i p1)] : List Value).toArray s 0 0 (fun q => q ∈ L)) (F0 m 94 ls [.int (q_i t94_0)]) := by
    intro t94_0 lt94_0 ut94_0 blp1 bup1 H locs hB ls hl
    refine q_iret cx hr hlk hB dX10_nodeFigure_94 ⟨by omega, by omega⟩ ?_
    exact rfl
  obtain ⟨H, hH⟩ : ∃ H : Heap, H = s.heap := ⟨_, rfl⟩
  obtain ⟨locs, hlocs⟩ : ∃ z : List Loc, z = [] := ⟨_, rfl⟩
  rw [← hH, ← hlocs] at hB
  rw [← hH, ← hlocs]
  refine q_ald_n cx dX10_nodeFigure_0 rfl (lv_at hl 0 rfl) ?_
  refine q_ild_n cx dX10_nodeFigure_1 rfl (lv_at hl 1 rfl) ?_
  refine q_cVr (As := [.int (q_i p0)]) (rest := []) cx hB (fun _ h => h) hN hv kv (by decide) rfl (g_X10_nodeAt l g hN hB.2.1 v hv kv p0 (by omega) (by omega)) q_cX10_66 q_dX10_nodeAt (by decide) rfl rfl hl.1 rfl (Nat.le_of_ble_eq_true rfl) dX10_nodeFigure_2 (fun y46 H locs f45 h47 hF hB => ?_)
  obtain ⟨rfl, hy46, ky46⟩ := h47
  refine lv_astore_n (lv' := [(3, .ref y46), (0, .ref v), (1, .int (q_i p0)), (2, .int (q_i p1))]) cx.1 cx.2.1 dX10_nodeFigure_5 rfl hl (by decide) rfl (fun ls hl => ?_)
  refine q_ild_n cx dX10_nodeFigure_6 rfl (lv_at hl 3 rfl) ?_
  by_cases c49 : p1 = 0
  · refine lv_tableIn (tgt := 60) cx.1 cx.2.1 dX10_nodeFigure_7 (by rw [q_toInt ⟨by omega, by omega⟩]; omega) (by rw [q_toInt ⟨by omega, by omega⟩]; omega) (off := 53) (by rw [q_toInt ⟨by omega, by omega⟩, c49]; rfl) (by decide) ?_
    refine q_ald_n cx dX10_nodeFigure_60 rfl (lv_at hl 0 rfl) ?_
    obtain ⟨x50, ex50⟩ : ∃ zz, q_is (q_z f y46 2) zz := ⟨_, q_isr _⟩
    refine q_gX10_95 cx hB hy46 ky46 ex50 dX10_nodeFigure_61 (fun lb51 ub51 => ?_)
    refine q_iret cx hr hlk hB dX10_nodeFigure_64 ⟨by omega, by omega⟩ ?_
    exact rfl
  by_cases c52 : p1 = 1
  · refine lv_tableIn (tgt := 65) cx.1 cx.2.1 dX10_nodeFigure_7 (by rw [q_toInt ⟨by omega, by omega⟩]; omega) (by rw [q_toInt ⟨by omega, by omega⟩]; omega) (off := 58) (by rw [q_toInt ⟨by omega, by omega⟩, c52]; rfl) (by decide) ?_
    refine q_ald_n cx dX10_nodeFigure_65 rfl (lv_at hl 0 rfl) ?_
    obtain ⟨x53, ex53⟩ : ∃ zz, q_is (q_z f y46 3) zz := ⟨_, q_isr _⟩
    refine q_gX10_98 cx hB hy46 ky46 ex53 dX10_nodeFigure_66 (fun lb54 ub54 => ?_)
    refine q_iret cx hr hlk hB dX10_nodeFigure_69 ⟨by omega, by omega⟩ ?_
    exact rfl
  by_cases c55 : p1 = 2
  · refine lv_tableIn (tgt := 70) cx.1 cx.2.1 dX10_nodeFigure_7 (by rw [q_toInt ⟨by omega, by omega⟩]; omega) (by rw [q_toInt ⟨by omega, by omega⟩]; omega) (off := 63) (by rw [q_toInt ⟨by omega, by omega⟩, c55]; rfl) (by decide) ?_
    refine q_ald_n cx dX10_nodeFigure_70 rfl (lv_at hl 0 rfl) ?_
    obtain ⟨x56, ex56⟩ : ∃ zz, q_is (q_z f y46 4) zz := ⟨_, q_isr _⟩
    refine q_gX10_101 cx hB hy46 ky46 ex56 dX10_nodeFigure_71 (fun lb57 ub57 => ?_)
    refine q_iret cx hr hlk hB dX10_nodeFigure_74 ⟨by omega, by omega⟩ ?_
    exact rfl
  by_cases c58 : p1 = 3
  · refine lv_tableIn (tgt := 75) cx.1 cx.2.1 dX10_nodeFigure_7 (by rw [q_toInt ⟨by omega, by omega⟩]; omega) (by rw [q_toInt ⟨by omega, by omega⟩]; omega) (off := 68) (by rw [q_toInt ⟨by omega, by omega⟩, c58]; rfl) (by decide) ?_
    refine q_ald_n cx dX10_nodeFigure_75 rfl (lv_at hl 1 rfl) ?_
    refine q_ild_n cx dX10_nodeFigure_76 rfl (lv_at hl 2 rfl) ?_
    refine q_cVi (As := [.int (q_i p0)]) (rest := []) cx hB (fun _ h => h) hN hv kv (by decide) rfl (g_X10_dayOf l g hN hB.2.1 v hv kv p0 (by omega) (by omega)) q_cX10_178 q_dX10_dayOf (by decide) rfl rfl hl.1 rfl (Nat.le_of_ble_eq_true rfl) dX10_nodeFigure_77 (fun y60 H locs f59 ry60 h61 hF hB => ?_)
    obtain ⟨rfl, ly60, uy60⟩ := h61
    refine q_iret cx hr hlk hB dX10_nodeFigure_80 ⟨by omega, by omega⟩ ?_
    exact rfl
  by_cases c62 : p1 = 4
  · refine lv_tableIn (tgt := 81) cx.1 cx.2.1 dX10_nodeFigure_7 (by rw [q_toInt ⟨by omega, by omega⟩]; omega) (by rw [q_toInt ⟨by omega, by omega⟩]; omega) (off := 74) (by rw [q_toInt ⟨by omega, by omega⟩, c62]; rfl) (by decide) ?_
    refine q_ald_n cx dX10_nodeFigure_81 rfl (lv_at hl 1 rfl) ?_
    refine q_ild_n cx dX10_nodeFigure_82 rfl (lv_at hl 2 rfl) ?_
    refine q_cVi (As := [.int (q_i p0)]) (rest := []) cx hB (fun _ h => h) hN hv kv (by decide) rfl (g_X10_isAwake l g hN hB.2.1 v hv kv p0 (by omega) (by omega)) q_cX10_203 q_dX10_isAwake (by decide) rfl rfl hl.1 rfl (Nat.le_of_ble_eq_true rfl) dX10_nodeFigure_83 (fun y64 H locs f63 ry64 h65 hF hB => ?_)
    obtain ⟨rfl, ly64, uy64⟩ := h65
    refine q_ifeq (tgt := 93) cx ⟨by omega, by omega⟩ dX10_nodeFigure_86 (by decide) (fun c66 => ?_) (fun c66 => ?_)
    · refine q_iconst cx dX10_nodeFigure_93 ?_
      exact J94 0 (by decide) (by decide) (by omega) (by omega) H locs hB ls (lv_sub hl [] rfl)
    · refine q_iconst cx dX10_nodeFigure_89 ?_
      refine lv_goto (tgt := 94) cx.1 cx.2.1 dX10_nodeFigure_90 (by decide) ?_
      exact J94 1 (by decide) (by decide) (by omega) (by omega) H locs hB ls (lv_sub hl [] rfl)
  by_cases c67 : p1 = 5
  · refine lv_tableIn (tgt := 95) cx.1 cx.2.1 dX10_nodeFigure_7 (by rw [q_toInt ⟨by omega, by omega⟩]; omega) (by rw [q_toInt ⟨by omega, by omega⟩]; omega) (off := 88) (by rw [q_toInt ⟨by omega, by omega⟩, c67]; rfl) (by decide) ?_
    refine q_ald_n cx dX10_nodeFigure_95 rfl (lv_at hl 0 rfl) ?_
    obtain ⟨x68, ex68⟩ : ∃ zz, q_is (q_z f y46 5) zz := ⟨_, q_isr _⟩
    refine q_gX10_104 cx hB hy46 ky46 ex68 dX10_nodeFigure_96 (fun lb69 ub69 => ?_)
    refine q_iret cx hr hlk hB dX10_nodeFigure_99 ⟨by omega, by omega⟩ ?_
    exact rfl
  by_cases c70 : p1 = 6
  · refine lv_tableIn (tgt := 100) cx.1 cx.2.1 dX10_nodeFigure_7 (by rw [q_toInt ⟨by omega, by omega⟩]; omega) (by rw [q_toInt ⟨by omega, by omega⟩]; omega) (off := 93) (by rw [q_toInt ⟨by omega, by omega⟩, c70]; rfl) (by decide) ?_
    refine q_ald_n cx dX10_nodeFigure_100 rfl (lv_at hl 0 rfl) ?_
    obtain ⟨x71, ex71⟩ : ∃ zz, q_is (q_z f y46 6) zz := ⟨_, q_isr _⟩
    refine q_gX10_107 cx hB hy46 ky46 ex71 dX10_nodeFigure_101 (fun lb72 ub72 => ?_)
    refine q_iret cx hr hlk hB dX10_nodeFigure_104 ⟨by omega, by omega⟩ ?_
    exact rfl
  by_cases c73 : p1 = 7
  · refine lv_tableIn (tgt := 105) cx.1 cx.2.1 dX10_nodeFigure_7 (by rw [q_toInt ⟨by omega, by omega⟩]; omega) (by rw [q_toInt ⟨by omega, by omega⟩]; omega) (off := 98) (by rw [q_toInt ⟨by omega, by omega⟩, c73]; rfl) (by decide) ?_
    refine q_ald_n cx dX10_nodeFigure_105 rfl (lv_at hl 0 rfl) ?_
    obtain ⟨x74, ex74⟩ : ∃ zz, q_is (q_z f y46 7) zz := ⟨_, q_isr _⟩
    refine q_gX10_110 cx hB hy46 ky46 ex74 dX10_nodeFigure_106 (fun lb75 ub75 => ?_)
    refine q_iret cx hr hlk hB dX10_nodeFigure_109 ⟨by omega, by omega⟩ ?_
    exact rfl
  by_cases c76 : p1 = 8
  · refine lv_tableIn (tgt := 110) cx.1 cx.2.1 dX10_nodeFigure_7 (by rw [q_toInt ⟨by omega, by omega⟩]; omega) (by rw [q_toInt ⟨by omega, by omega⟩]; omega) (off := 103) (by rw [q_toInt ⟨by omega, by omega⟩, c76]; rfl) (by decide) ?_
    refine q_ald_n cx dX10_nodeFigure_110 rfl (lv_at hl 0 rfl) ?_
    obtain ⟨x77, ex77⟩ : ∃ zz, q_is (q_z f y46 8) zz := ⟨_, q_isr _⟩
    refine q_gX10_113 cx hB hy46 ky46 ex77 dX10_nodeFigure_111 (fun lb78 ub78 => ?_)
    refine q_iret cx hr hlk hB dX10_nodeFigure_114 ⟨by omega, by omega⟩ ?_
    exact rfl
  by_cases c79 : p1 = 9
  · refine lv_tableIn (tgt := 115) cx.1 cx.2.1 dX10_nodeFigure_7 (by rw [q_toInt ⟨by omega, by omega⟩]; omega) (by rw [q_toInt ⟨by omega, by omega⟩]; omega) (off := 108) (by rw [q_toInt ⟨by omega, by omega⟩, c79]; rfl) (by decide) ?_
    refine q_ald_n cx dX10_nodeFigure_115 rfl (lv_at hl 1 rfl) ?_
    refine q_ild_n cx dX10_nodeFigure_116 rfl (lv_at hl 2 rfl) ?_
    refine q_cVl (As := [.int (q_i p0)]) (rest := []) cx hB (fun _ h => h) hN hv kv (by decide) rfl (g_X10_tableOf l g hN hB.2.1 v hv kv p0 (by omega) (by omega)) q_cX10_174 q_dX10_tableOf (by decide) rfl rfl hl.1 rfl (Nat.le_of_ble_eq_true rfl) dX10_nodeFigure_117 (fun y81 H locs f80 h82 hF hB => ?_)
    obtain rfl := h82
    refine q_cSi (As := [.long y81]) (rest := []) cx hB (fun _ h => h) hN (g_Long_bitCount l g hN hB.2.1 y81) q_cX10_206 q_dJ13_bitCount_95d88 (by decide) rfl rfl hl.1 rfl (Nat.le_of_ble_eq_true rfl) dX10_nodeFigure_120 (fun y84 H locs f83 ry84 h85 hF hB => ?_)
    obtain ⟨rfl, ly84, uy84⟩ := h85
    refine q_iret cx hr hlk hB dX10_nodeFigure_123 ⟨by omega, by omega⟩ ?_
    exact rfl
  refine lv_tableOut (tgt := 124) cx.1 cx.2.1 dX10_nodeFigure_7 (by rw [q_toInt ⟨by omega, by omega⟩]; omega) (by decide) ?_
  refine q_ald_n cx dX10_nodeFigure_124 rfl (lv_at hl 1 rfl) ?_
  refine q_ild_n cx dX10_nodeFigure_125 rfl (lv_at hl 2 rfl) ?_
  refine q_cVi (As := [.int (q_i p0)]) (rest := []) cx hB (fun _ h => h) hN hv kv (by decide) rfl (g_X10_messagesWaitingAt l g hN hB.2.1 v hv kv p0 (by omega) (by omega)) q_cX10_211 q_dX10_messagesWaitingAt (by decide) rfl rfl hl.1 rfl (Nat.le_of_ble_eq_true rfl) dX10_nodeFigure_126 (fun y87 H locs f86 ry87 h88 hF hB => ?_)
  obtain rfl := h88
  refine q_iret cx hr hlk hB dX10_nodeFigure_129 ⟨by omega, by omega⟩ ?_
  exact rfl
set_option maxHeartbeats 4000000 in
set_option maxRecDepth 100000 in
theorem g_X10_nodeFigure_1 (l : Launch) (g : q_G) {K : Nat → Nat} {L : List Nat} (hN : L.Nodup) {f : Nat → va_E} (hT : q_Ty g K L f) (v : Nat) (hv : v ∈ L) (kv : K v = 13) (p0 : Int) (lp0 : (-2147483648) ≤ p0) (up0 : p0 ≤ 2147483647) (p1 : Int) (lp1 : (-2147483648) ≤ p1) (up1 : p1 ≤ 2147483647) : q_Ct l g K L yX10_nodeFigure cX10_nodeFigure 4 (some .int) 3 67 [.ref v, .int (q_i p0), .int (q_i p1)] f [] (q_Pi (fun (z : Int) (f1 : Nat → va_E) => f = f1)) := by
  refine q_ofb (by decide +kernel) hN hT (Nat.le_of_ble_eq_true rfl) ?_
  intro p e s m below meth c ls cx hr hlk hB hl
  have hl : lv_has ls 4 [(0, .ref v), (1, .int (q_i p0)), (2, .int (q_i p1))] := hl
  have J94 : ∀ (t94_0 : Int) (lt94_0 : 0 ≤ t94_0) (ut94_0 : t94_0 ≤ 1) (blp1 : 4 ≤ p1) (bup1 : p1 ≤ 4) (H : Heap) (locs : List Loc) (hB : q_B g K L (fun q => q ∈ L) [] f f s H locs) (ls : Array Slot) (hl : lv_has ls 4 []), W p l e { frames := 3, cells := 0, slots := 0, locals := 67 } s m ([.ref v, .int (q_i p0), .int (q_i p1)] : List Value).toArray below meth c H locs 0 0 (MQ below (q_Q g K L [] f (q_Pi (fun (z : Int) (f1 : Nat → va_E) => f = f1))) ([.ref v, .int (q_i p0), .int (q_i p1)] : List Value).toArray s 0 0 (fun q => q ∈ L)) (F0 m 94 ls [.int (q_i t94_0)]) := by
    intro t94_0 lt94_0 ut94_0 blp1 bup1 H locs hB ls hl
    refine q_iret cx hr hlk hB dX10_nodeFigure_94 ⟨by omega, by omega⟩ ?_
    exact rfl
  obtain ⟨H, hH⟩ : ∃ H : Heap, H = s.heap := ⟨_, rfl⟩
  obtain ⟨locs, hlocs⟩ : ∃ z : List Loc, z = [] := ⟨_, rfl⟩
  rw [← hH, ← hlocs] at hB
  rw [← hH, ← hlocs]
  refine q_ald_n cx dX10_nodeFigure_0 rfl (lv_at hl 0 rfl) ?_
  refine q_ild_n cx dX10_nodeFigure_1 rfl (lv_at hl 1 rfl) ?_
  refine q_cVr (As := [.int (q_i p0)]) (rest := []) cx hB (fun _ h => h) hN hv kv (by decide) rfl (g_X10_nodeAt_1 l g hN hB.2.1 v hv kv p0 (by omega) (by omega)) q_cX10_66 q_dX10_nodeAt (by decide) rfl rfl hl.1 rfl (Nat.le_of_ble_eq_true rfl) dX10_nodeFigure_2 (fun y46 H locs f45 h47 hF hB => ?_)
  obtain ⟨rfl, hy46, ky46⟩ := h47
  refine lv_astore_n (lv' := [(3, .ref y46), (0, .ref v), (1, .int (q_i p0)), (2, .int (q_i p1))]) cx.1 cx.2.1 dX10_nodeFigure_5 rfl hl (by decide) rfl (fun ls hl => ?_)
  refine q_ild_n cx dX10_nodeFigure_6 rfl (lv_at hl 3 rfl) ?_
  by_cases c49 : p1 = 0
  · refine lv_tableIn (tgt := 60) cx.1 cx.2.1 dX10_nodeFigure_7 (by rw [q_toInt ⟨by omega, by omega⟩]; omega) (by rw [q_toInt ⟨by omega, by omega⟩]; omega) (off := 53) (by rw [q_toInt ⟨by omega, by omega⟩, c49]; rfl) (by decide) ?_
    refine q_ald_n cx dX10_nodeFigure_60 rfl (lv_at hl 0 rfl) ?_
    obtain ⟨x50, ex50⟩ : ∃ zz, q_is (q_z f y46 2) zz := ⟨_, q_isr _⟩
    refine q_gX10_95_17 cx hB hy46 ky46 ex50 dX10_nodeFigure_61 (fun lb51 ub51 => ?_)
    refine q_iret cx hr hlk hB dX10_nodeFigure_64 ⟨by omega, by omega⟩ ?_
    exact rfl
  by_cases c52 : p1 = 1
  · refine lv_tableIn (tgt := 65) cx.1 cx.2.1 dX10_nodeFigure_7 (by rw [q_toInt ⟨by omega, by omega⟩]; omega) (by rw [q_toInt ⟨by omega, by omega⟩]; omega) (off := 58) (by rw [q_toInt ⟨by omega, by omega⟩, c52]; rfl) (by decide) ?_
    refine q_ald_n cx dX10_nodeFigure_65 rfl (lv_at hl 0 rfl) ?_
    obtain ⟨x53, ex53⟩ : ∃ zz, q_is (q_z f y46 3) zz := ⟨_, q_isr _⟩
    refine q_gX10_98_17 cx hB hy46 ky46 ex53 dX10_nodeFigure_66 (fun lb54 ub54 => ?_)
    refine q_iret cx hr hlk hB dX10_nodeFigure_69 ⟨by omega, by omega⟩ ?_
    exact rfl
  by_cases c55 : p1 = 2
  · refine lv_tableIn (tgt := 70) cx.1 cx.2.1 dX10_nodeFigure_7 (by rw [q_toInt ⟨by omega, by omega⟩]; omega) (by rw [q_toInt ⟨by omega, by omega⟩]; omega) (off := 63) (by rw [q_toInt ⟨by omega, by omega⟩, c55]; rfl) (by decide) ?_
    refine q_ald_n cx dX10_nodeFigure_70 rfl (lv_at hl 0 rfl) ?_
    obtain ⟨x56, ex56⟩ : ∃ zz, q_is (q_z f y46 4) zz := ⟨_, q_isr _⟩
    refine q_gX10_101_17 cx hB hy46 ky46 ex56 dX10_nodeFigure_71 (fun lb57 ub57 => ?_)
    refine q_iret cx hr hlk hB dX10_nodeFigure_74 ⟨by omega, by omega⟩ ?_
    exact rfl
  by_cases c58 : p1 = 3
  · refine lv_tableIn (tgt := 75) cx.1 cx.2.1 dX10_nodeFigure_7 (by rw [q_toInt ⟨by omega, by omega⟩]; omega) (by rw [q_toInt ⟨by omega, by omega⟩]; omega) (off := 68) (by rw [q_toInt ⟨by omega, by omega⟩, c58]; rfl) (by decide) ?_
    refine q_ald_n cx dX10_nodeFigure_75 rfl (lv_at hl 1 rfl) ?_
    refine q_ild_n cx dX10_nodeFigure_76 rfl (lv_at hl 2 rfl) ?_
    refine q_cVi (As := [.int (q_i p0)]) (rest := []) cx hB (fun _ h => h) hN hv kv (by decide) rfl (g_X10_dayOf_1 l g hN hB.2.1 v hv kv p0 (by omega) (by omega)) q_cX10_178 q_dX10_dayOf (by decide) rfl rfl hl.1 rfl (Nat.le_of_ble_eq_true rfl) dX10_nodeFigure_77 (fun y60 H locs f59 ry60 h61 hF hB => ?_)
    obtain ⟨rfl, ly60, uy60⟩ := h61
    refine q_iret cx hr hlk hB dX10_nodeFigure_80 ⟨by omega, by omega⟩ ?_
    exact rfl
  by_cases c62 : p1 = 4
  · refine lv_tableIn (tgt := 81) cx.1 cx.2.1 dX10_nodeFigure_7 (by rw [q_toInt ⟨by omega, by omega⟩]; omega) (by rw [q_toInt ⟨by omega, by omega⟩]; omega) (off := 74) (by rw [q_toInt ⟨by omega, by omega⟩, c62]; rfl) (by decide) ?_
    refine q_ald_n cx dX10_nodeFigure_81 rfl (lv_at hl 1 rfl) ?_
    refine q_ild_n cx dX10_nodeFigure_82 rfl (lv_at hl 2 rfl) ?_
    refine q_cVi (As := [.int (q_i p0)]) (rest := []) cx hB (fun _ h => h) hN hv kv (by decide) rfl (g_X10_isAwake_1 l g hN hB.2.1 v hv kv p0 (by omega) (by omega)) q_cX10_203 q_dX10_isAwake (by decide) rfl rfl hl.1 rfl (Nat.le_of_ble_eq_true rfl) dX10_nodeFigure_83 (fun y64 H locs f63 ry64 h65 hF hB => ?_)
    obtain ⟨rfl, ly64, uy64⟩ := h65
    refine q_ifeq (tgt := 93) cx ⟨by omega, by omega⟩ dX10_nodeFigure_86 (by decide) (fun c66 => ?_) (fun c66 => ?_)
    · refine q_iconst cx dX10_nodeFigure_93 ?_
      exact J94 0 (by decide) (by decide) (by omega) (by omega) H locs hB ls (lv_sub hl [] rfl)
    · refine q_iconst cx dX10_nodeFigure_89 ?_
      refine lv_goto (tgt := 94) cx.1 cx.2.1 dX10_nodeFigure_90 (by decide) ?_
      exact J94 1 (by decide) (by decide) (by omega) (by omega) H locs hB ls (lv_sub hl [] rfl)
  by_cases c67 : p1 = 5
  · refine lv_tableIn (tgt := 95) cx.1 cx.2.1 dX10_nodeFigure_7 (by rw [q_toInt ⟨by omega, by omega⟩]; omega) (by rw [q_toInt ⟨by omega, by omega⟩]; omega) (off := 88) (by rw [q_toInt ⟨by omega, by omega⟩, c67]; rfl) (by decide) ?_
    refine q_ald_n cx dX10_nodeFigure_95 rfl (lv_at hl 0 rfl) ?_
    obtain ⟨x68, ex68⟩ : ∃ zz, q_is (q_z f y46 5) zz := ⟨_, q_isr _⟩
    refine q_gX10_104_17 cx hB hy46 ky46 ex68 dX10_nodeFigure_96 (fun lb69 ub69 => ?_)
    refine q_iret cx hr hlk hB dX10_nodeFigure_99 ⟨by omega, by omega⟩ ?_
    exact rfl
  by_cases c70 : p1 = 6
  · refine lv_tableIn (tgt := 100) cx.1 cx.2.1 dX10_nodeFigure_7 (by rw [q_toInt ⟨by omega, by omega⟩]; omega) (by rw [q_toInt ⟨by omega, by omega⟩]; omega) (off := 93) (by rw [q_toInt ⟨by omega, by omega⟩, c70]; rfl) (by decide) ?_
    refine q_ald_n cx dX10_nodeFigure_100 rfl (lv_at hl 0 rfl) ?_
    obtain ⟨x71, ex71⟩ : ∃ zz, q_is (q_z f y46 6) zz := ⟨_, q_isr _⟩
    refine q_gX10_107_17 cx hB hy46 ky46 ex71 dX10_nodeFigure_101 (fun lb72 ub72 => ?_)
    refine q_iret cx hr hlk hB dX10_nodeFigure_104 ⟨by omega, by omega⟩ ?_
    exact rfl
  by_cases c73 : p1 = 7
  · refine lv_tableIn (tgt := 105) cx.1 cx.2.1 dX10_nodeFigure_7 (by rw [q_toInt ⟨by omega, by omega⟩]; omega) (by rw [q_toInt ⟨by omega, by omega⟩]; omega) (off := 98) (by rw [q_toInt ⟨by omega, by omega⟩, c73]; rfl) (by decide) ?_
    refine q_ald_n cx dX10_nodeFigure_105 rfl (lv_at hl 0 rfl) ?_
    obtain ⟨x74, ex74⟩ : ∃ zz, q_is (q_z f y46 7) zz := ⟨_, q_isr _⟩
    refine q_gX10_110_17 cx hB hy46 ky46 ex74 dX10_nodeFigure_106 (fun lb75 ub75 => ?_)
    refine q_iret cx hr hlk hB dX10_nodeFigure_109 ⟨by omega, by omega⟩ ?_
    exact rfl
  by_cases c76 : p1 = 8
  · refine lv_tableIn (tgt := 110) cx.1 cx.2.1 dX10_nodeFigure_7 (by rw [q_toInt ⟨by omega, by omega⟩]; omega) (by rw [q_toInt ⟨by omega, by omega⟩]; omega) (off := 103) (by rw [q_toInt ⟨by omega, by omega⟩, c76]; rfl) (by decide) ?_
    refine q_ald_n cx dX10_nodeFigure_110 rfl (lv_at hl 0 rfl) ?_
    obtain ⟨x77, ex77⟩ : ∃ zz, q_is (q_z f y46 8) zz := ⟨_, q_isr _⟩
    refine q_gX10_113_17 cx hB hy46 ky46 ex77 dX10_nodeFigure_111 (fun lb78 ub78 => ?_)
    refine q_iret cx hr hlk hB dX10_nodeFigure_114 ⟨by omega, by omega⟩ ?_
    exact rfl
  by_cases c79 : p1 = 9
  · refine lv_tableIn (tgt := 115) cx.1 cx.2.1 dX10_nodeFigure_7 (by rw [q_toInt ⟨by omega, by omega⟩]; omega) (by rw [q_toInt ⟨by omega, by omega⟩]; omega) (off := 108) (by rw [q_toInt ⟨by omega, by omega⟩, c79]; rfl) (by decide) ?_
    refine q_ald_n cx dX10_nodeFigure_115 rfl (lv_at hl 1 rfl) ?_
    refine q_ild_n cx dX10_nodeFigure_116 rfl (lv_at hl 2 rfl) ?_
    refine q_cVl (As := [.int (q_i p0)]) (rest := []) cx hB (fun _ h => h) hN hv kv (by decide) rfl (g_X10_tableOf_1 l g hN hB.2.1 v hv kv p0 (by omega) (by omega)) q_cX10_174 q_dX10_tableOf (by decide) rfl rfl hl.1 rfl (Nat.le_of_ble_eq_true rfl) dX10_nodeFigure_117 (fun y81 H locs f80 h82 hF hB => ?_)
    obtain rfl := h82
    refine q_cSi (As := [.long y81]) (rest := []) cx hB (fun _ h => h) hN (g_Long_bitCount l g hN hB.2.1 y81) q_cX10_206 q_dJ13_bitCount_95d88 (by decide) rfl rfl hl.1 rfl (Nat.le_of_ble_eq_true rfl) dX10_nodeFigure_120 (fun y84 H locs f83 ry84 h85 hF hB => ?_)
    obtain ⟨rfl, ly84, uy84⟩ := h85
    refine q_iret cx hr hlk hB dX10_nodeFigure_123 ⟨by omega, by omega⟩ ?_
    exact rfl
  refine lv_tableOut (tgt := 124) cx.1 cx.2.1 dX10_nodeFigure_7 (by rw [q_toInt ⟨by omega, by omega⟩]; omega) (by decide) ?_
  refine q_ald_n cx dX10_nodeFigure_124 rfl (lv_at hl 1 rfl) ?_
  refine q_ild_n cx dX10_nodeFigure_125 rfl (lv_at hl 2 rfl) ?_
  refine q_cVi (As := [.int (q_i p0)]) (rest := []) cx hB (fun _ h => h) hN hv kv (by decide) rfl (g_X10_messagesWaitingAt_1 l g hN hB.2.1 v hv kv p0 (by omega) (by omega)) q_cX10_211 q_dX10_messagesWaitingAt (by decide) rfl rfl hl.1 rfl (Nat.le_of_ble_eq_true rfl) dX10_nodeFigure_126 (fun y87 H locs f86 ry87 h88 hF hB => ?_)
  obtain rfl := h88
  refine q_iret cx hr hlk hB dX10_nodeFigure_129 ⟨by omega, by omega⟩ ?_
  exact rfl
set_option maxHeartbeats 4000000 in
set_option maxRecDepth 100000 in
theorem g_X10_nodeFigure_2 (l : Launch) (g : q_G) {K : Nat → Nat} {L : List Nat} (hN : L.Nodup) {f : Nat → va_E} (hT : q_Ty g K L f) (v : Nat) (hv : v ∈ L) (kv : K v = 14) (p0 : Int) (lp0 : (-2147483648) ≤ p0) (up0 : p0 ≤ 2147483647) (p1 : Int) (lp1 : (-2147483648) ≤ p1) (up1 : p1 ≤ 2147483647) : q_Ct l g K L yX10_nodeFigure cX10_nodeFigure 4 (some .int) 3 67 [.ref v, .int (q_i p0), .int (q_i p1)] f [] (q_Pi (fun (z : Int) (f1 : Nat → va_E) => f = f1)) := by
  refine q_ofb (by decide +kernel) hN hT (Nat.le_of_ble_eq_true rfl) ?_
  intro p e s m below meth c ls cx hr hlk hB hl
  have hl : lv_has ls 4 [(0, .ref v), (1, .int (q_i p0)), (2, .int (q_i p1))] := hl
  have J94 : ∀ (t94_0 : Int) (lt94_0 : 0 ≤ t94_0) (ut94_0 : t94_0 ≤ 1) (blp1 : 4 ≤ p1) (bup1 : p1 ≤ 4) (H : Heap) (locs : List Loc) (hB : q_B g K L (fun q => q ∈ L) [] f f s H locs) (ls : Array Slot) (hl : lv_has ls 4 []), W p l e { frames := 3, cells := 0, slots := 0, locals := 67 } s m ([.ref v, .int (q_i p0), .int (q_i p1)] : List Value).toArray below meth c H locs 0 0 (MQ below (q_Q g K L [] f (q_Pi (fun (z : Int) (f1 : Nat → va_E) => f = f1))) ([.ref v, .int (q_i p0), .int (q_i p1)] : List Value).toArray s 0 0 (fun q => q ∈ L)) (F0 m 94 ls [.int (q_i t94_0)]) := by
    intro t94_0 lt94_0 ut94_0 blp1 bup1 H locs hB ls hl
    refine q_iret cx hr hlk hB dX10_nodeFigure_94 ⟨by omega, by omega⟩ ?_
    exact rfl
  obtain ⟨H, hH⟩ : ∃ H : Heap, H = s.heap := ⟨_, rfl⟩
  obtain ⟨locs, hlocs⟩ : ∃ z : List Loc, z = [] := ⟨_, rfl⟩
  rw [← hH, ← hlocs] at hB
  rw [← hH, ← hlocs]
  refine q_ald_n cx dX10_nodeFigure_0 rfl (lv_at hl 0 rfl) ?_
  refine q_ild_n cx dX10_nodeFigure_1 rfl (lv_at hl 1 rfl) ?_
  refine q_cVr (As := [.int (q_i p0)]) (rest := []) cx hB (fun _ h => h) hN hv kv (by decide) rfl (g_X10_nodeAt_2 l g hN hB.2.1 v hv kv p0 (by omega) (by omega)) q_cX10_66 q_dX10_nodeAt (by decide) rfl rfl hl.1 rfl (Nat.le_of_ble_eq_true rfl) dX10_nodeFigure_2 (fun y46 H locs f45 h47 hF hB => ?_)
  obtain ⟨rfl, hy46, ky46⟩ := h47
  refine lv_astore_n (lv' := [(3, .ref y46), (0, .ref v), (1, .int (q_i p0)), (2, .int (q_i p1))]) cx.1 cx.2.1 dX10_nodeFigure_5 rfl hl (by decide) rfl (fun ls hl => ?_)
  refine q_ild_n cx dX10_nodeFigure_6 rfl (lv_at hl 3 rfl) ?_
  by_cases c49 : p1 = 0
  · refine lv_tableIn (tgt := 60) cx.1 cx.2.1 dX10_nodeFigure_7 (by rw [q_toInt ⟨by omega, by omega⟩]; omega) (by rw [q_toInt ⟨by omega, by omega⟩]; omega) (off := 53) (by rw [q_toInt ⟨by omega, by omega⟩, c49]; rfl) (by decide) ?_
    refine q_ald_n cx dX10_nodeFigure_60 rfl (lv_at hl 0 rfl) ?_
    obtain ⟨x50, ex50⟩ : ∃ zz, q_is (q_z f y46 2) zz := ⟨_, q_isr _⟩
    refine q_gX10_95_18 cx hB hy46 ky46 ex50 dX10_nodeFigure_61 (fun lb51 ub51 => ?_)
    refine q_iret cx hr hlk hB dX10_nodeFigure_64 ⟨by omega, by omega⟩ ?_
    exact rfl
  by_cases c52 : p1 = 1
  · refine lv_tableIn (tgt := 65) cx.1 cx.2.1 dX10_nodeFigure_7 (by rw [q_toInt ⟨by omega, by omega⟩]; omega) (by rw [q_toInt ⟨by omega, by omega⟩]; omega) (off := 58) (by rw [q_toInt ⟨by omega, by omega⟩, c52]; rfl) (by decide) ?_
    refine q_ald_n cx dX10_nodeFigure_65 rfl (lv_at hl 0 rfl) ?_
    obtain ⟨x53, ex53⟩ : ∃ zz, q_is (q_z f y46 3) zz := ⟨_, q_isr _⟩
    refine q_gX10_98_18 cx hB hy46 ky46 ex53 dX10_nodeFigure_66 (fun lb54 ub54 => ?_)
    refine q_iret cx hr hlk hB dX10_nodeFigure_69 ⟨by omega, by omega⟩ ?_
    exact rfl
  by_cases c55 : p1 = 2
  · refine lv_tableIn (tgt := 70) cx.1 cx.2.1 dX10_nodeFigure_7 (by rw [q_toInt ⟨by omega, by omega⟩]; omega) (by rw [q_toInt ⟨by omega, by omega⟩]; omega) (off := 63) (by rw [q_toInt ⟨by omega, by omega⟩, c55]; rfl) (by decide) ?_
    refine q_ald_n cx dX10_nodeFigure_70 rfl (lv_at hl 0 rfl) ?_
    obtain ⟨x56, ex56⟩ : ∃ zz, q_is (q_z f y46 4) zz := ⟨_, q_isr _⟩
    refine q_gX10_101_18 cx hB hy46 ky46 ex56 dX10_nodeFigure_71 (fun lb57 ub57 => ?_)
    refine q_iret cx hr hlk hB dX10_nodeFigure_74 ⟨by omega, by omega⟩ ?_
    exact rfl
  by_cases c58 : p1 = 3
  · refine lv_tableIn (tgt := 75) cx.1 cx.2.1 dX10_nodeFigure_7 (by rw [q_toInt ⟨by omega, by omega⟩]; omega) (by rw [q_toInt ⟨by omega, by omega⟩]; omega) (off := 68) (by rw [q_toInt ⟨by omega, by omega⟩, c58]; rfl) (by decide) ?_
    refine q_ald_n cx dX10_nodeFigure_75 rfl (lv_at hl 1 rfl) ?_
    refine q_ild_n cx dX10_nodeFigure_76 rfl (lv_at hl 2 rfl) ?_
    refine q_cVi (As := [.int (q_i p0)]) (rest := []) cx hB (fun _ h => h) hN hv kv (by decide) rfl (g_X10_dayOf_2 l g hN hB.2.1 v hv kv p0 (by omega) (by omega)) q_cX10_178 q_dX10_dayOf (by decide) rfl rfl hl.1 rfl (Nat.le_of_ble_eq_true rfl) dX10_nodeFigure_77 (fun y60 H locs f59 ry60 h61 hF hB => ?_)
    obtain ⟨rfl, ly60, uy60⟩ := h61
    refine q_iret cx hr hlk hB dX10_nodeFigure_80 ⟨by omega, by omega⟩ ?_
    exact rfl
  by_cases c62 : p1 = 4
  · refine lv_tableIn (tgt := 81) cx.1 cx.2.1 dX10_nodeFigure_7 (by rw [q_toInt ⟨by omega, by omega⟩]; omega) (by rw [q_toInt ⟨by omega, by omega⟩]; omega) (off := 74) (by rw [q_toInt ⟨by omega, by omega⟩, c62]; rfl) (by decide) ?_
    refine q_ald_n cx dX10_nodeFigure_81 rfl (lv_at hl 1 rfl) ?_
    refine q_ild_n cx dX10_nodeFigure_82 rfl (lv_at hl 2 rfl) ?_
    refine q_cVi (As := [.int (q_i p0)]) (rest := []) cx hB (fun _ h => h) hN hv kv (by decide) rfl (g_X10_isAwake_2 l g hN hB.2.1 v hv kv p0 (by omega) (by omega)) q_cX10_203 q_dX10_isAwake (by decide) rfl rfl hl.1 rfl (Nat.le_of_ble_eq_true rfl) dX10_nodeFigure_83 (fun y64 H locs f63 ry64 h65 hF hB => ?_)
    obtain ⟨rfl, ly64, uy64⟩ := h65
    refine q_ifeq (tgt := 93) cx ⟨by omega, by omega⟩ dX10_nodeFigure_86 (by decide) (fun c66 => ?_) (fun c66 => ?_)
    · refine q_iconst cx dX10_nodeFigure_93 ?_
      exact J94 0 (by decide) (by decide) (by omega) (by omega) H locs hB ls (lv_sub hl [] rfl)
    · refine q_iconst cx dX10_nodeFigure_89 ?_
      refine lv_goto (tgt := 94) cx.1 cx.2.1 dX10_nodeFigure_90 (by decide) ?_
      exact J94 1 (by decide) (by decide) (by omega) (by omega) H locs hB ls (lv_sub hl [] rfl)
  by_cases c67 : p1 = 5
  · refine lv_tableIn (tgt := 95) cx.1 cx.2.1 dX10_nodeFigure_7 (by rw [q_toInt ⟨by omega, by omega⟩]; omega) (by rw [q_toInt ⟨by omega, by omega⟩]; omega) (off := 88) (by rw [q_toInt ⟨by omega, by omega⟩, c67]; rfl) (by decide) ?_
    refine q_ald_n cx dX10_nodeFigure_95 rfl (lv_at hl 0 rfl) ?_
    obtain ⟨x68, ex68⟩ : ∃ zz, q_is (q_z f y46 5) zz := ⟨_, q_isr _⟩
    refine q_gX10_104_18 cx hB hy46 ky46 ex68 dX10_nodeFigure_96 (fun lb69 ub69 => ?_)
    refine q_iret cx hr hlk hB dX10_nodeFigure_99 ⟨by omega, by omega⟩ ?_
    exact rfl
  by_cases c70 : p1 = 6
  · refine lv_tableIn (tgt := 100) cx.1 cx.2.1 dX10_nodeFigure_7 (by rw [q_toInt ⟨by omega, by omega⟩]; omega) (by rw [q_toInt ⟨by omega, by omega⟩]; omega) (off := 93) (by rw [q_toInt ⟨by omega, by omega⟩, c70]; rfl) (by decide) ?_
    refine q_ald_n cx dX10_nodeFigure_100 rfl (lv_at hl 0 rfl) ?_
    obtain ⟨x71, ex71⟩ : ∃ zz, q_is (q_z f y46 6) zz := ⟨_, q_isr _⟩
    refine q_gX10_107_18 cx hB hy46 ky46 ex71 dX10_nodeFigure_101 (fun lb72 ub72 => ?_)
    refine q_iret cx hr hlk hB dX10_nodeFigure_104 ⟨by omega, by omega⟩ ?_
    exact rfl
  by_cases c73 : p1 = 7
  · refine lv_tableIn (tgt := 105) cx.1 cx.2.1 dX10_nodeFigure_7 (by rw [q_toInt ⟨by omega, by omega⟩]; omega) (by rw [q_toInt ⟨by omega, by omega⟩]; omega) (off := 98) (by rw [q_toInt ⟨by omega, by omega⟩, c73]; rfl) (by decide) ?_
    refine q_ald_n cx dX10_nodeFigure_105 rfl (lv_at hl 0 rfl) ?_
    obtain ⟨x74, ex74⟩ : ∃ zz, q_is (q_z f y46 7) zz := ⟨_, q_isr _⟩
    refine q_gX10_110_18 cx hB hy46 ky46 ex74 dX10_nodeFigure_106 (fun lb75 ub75 => ?_)
    refine q_iret cx hr hlk hB dX10_nodeFigure_109 ⟨by omega, by omega⟩ ?_
    exact rfl
  by_cases c76 : p1 = 8
  · refine lv_tableIn (tgt := 110) cx.1 cx.2.1 dX10_nodeFigure_7 (by rw [q_toInt ⟨by omega, by omega⟩]; omega) (by rw [q_toInt ⟨by omega, by omega⟩]; omega) (off := 103) (by rw [q_toInt ⟨by omega, by omega⟩, c76]; rfl) (by decide) ?_
    refine q_ald_n cx dX10_nodeFigure_110 rfl (lv_at hl 0 rfl) ?_
    obtain ⟨x77, ex77⟩ : ∃ zz, q_is (q_z f y46 8) zz := ⟨_, q_isr _⟩
    refine q_gX10_113_18 cx hB hy46 ky46 ex77 dX10_nodeFigure_111 (fun lb78 ub78 => ?_)
    refine q_iret cx hr hlk hB dX10_nodeFigure_114 ⟨by omega, by omega⟩ ?_
    exact rfl
  by_cases c79 : p1 = 9
  · refine lv_tableIn (tgt := 115) cx.1 cx.2.1 dX10_nodeFigure_7 (by rw [q_toInt ⟨by omega, by omega⟩]; omega) (by rw [q_toInt ⟨by omega, by omega⟩]; omega) (off := 108) (by rw [q_toInt ⟨by omega, by omega⟩, c79]; rfl) (by decide) ?_
    refine q_ald_n cx dX10_nodeFigure_115 rfl (lv_at hl 1 rfl) ?_
    refine q_ild_n cx dX10_nodeFigure_116 rfl (lv_at hl 2 rfl) ?_
    refine q_cVl (As := [.int (q_i p0)]) (rest := []) cx hB (fun _ h => h) hN hv kv (by decide) rfl (g_X10_tableOf_2 l g hN hB.2.1 v hv kv p0 (by omega) (by omega)) q_cX10_174 q_dX10_tableOf (by decide) rfl rfl hl.1 rfl (Nat.le_of_ble_eq_true rfl) dX10_nodeFigure_117 (fun y81 H locs f80 h82 hF hB => ?_)
    obtain rfl := h82
    refine q_cSi (As := [.long y81]) (rest := []) cx hB (fun _ h => h) hN (g_Long_bitCount l g hN hB.2.1 y81) q_cX10_206 q_dJ13_bitCount_95d88 (by decide) rfl rfl hl.1 rfl (Nat.le_of_ble_eq_true rfl) dX10_nodeFigure_120 (fun y84 H locs f83 ry84 h85 hF hB => ?_)
    obtain ⟨rfl, ly84, uy84⟩ := h85
    refine q_iret cx hr hlk hB dX10_nodeFigure_123 ⟨by omega, by omega⟩ ?_
    exact rfl
  refine lv_tableOut (tgt := 124) cx.1 cx.2.1 dX10_nodeFigure_7 (by rw [q_toInt ⟨by omega, by omega⟩]; omega) (by decide) ?_
  refine q_ald_n cx dX10_nodeFigure_124 rfl (lv_at hl 1 rfl) ?_
  refine q_ild_n cx dX10_nodeFigure_125 rfl (lv_at hl 2 rfl) ?_
  refine q_cVi (As := [.int (q_i p0)]) (rest := []) cx hB (fun _ h => h) hN hv kv (by decide) rfl (g_X10_messagesWaitingAt_2 l g hN hB.2.1 v hv kv p0 (by omega) (by omega)) q_cX10_211 q_dX10_messagesWaitingAt (by decide) rfl rfl hl.1 rfl (Nat.le_of_ble_eq_true rfl) dX10_nodeFigure_126 (fun y87 H locs f86 ry87 h88 hF hB => ?_)
  obtain rfl := h88
  refine q_iret cx hr hlk hB dX10_nodeFigure_129 ⟨by omega, by omega⟩ ?_
  exact rfl
