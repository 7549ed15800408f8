set_option maxHeartbeats 4000000 in
set_option maxRecDepth 100000 in
theorem g_X10_nodeFigure_3 (l : Launch) (g : q_G) {K : Nat → Nat} {L : List Nat} (hN : L.Nodup) {f : Nat → va_E} (hT : q_Ty g K L f) (v : Nat) (hv : v ∈ L) (kv : K v = 15) (p0 : Int) (lp0 : (-2147483648) ≤ p0) (up0 : p0 ≤ 2147483647) (p1 : Int) (lp1 : (-2147483648) ≤ p1) (up1 : p1 ≤ 2147483647) : q_Ct l g K L yX10_nodeFigure cX10_nodeFigure 4 (some .int) 3 67 [.ref v, .int (q_i p0), .int (q_i p1)] f [] (q_Pi (fun (z : Int) (f1 : Nat → va_E) => f = f1)) := by
  refine q_ofb (by decide +kernel) hN hT (Nat.le_of_ble_eq_true rfl) ?_
  intro p e s m below meth c ls cx hr hlk hB hl
  have hl : lv_has ls 4 [(0, .ref v), (1, .int (q_i p0)), (2, .int (q_i p1))] := hl
  have J94 : ∀ (t94_0 : Int) (lt94_0 : 0 ≤ t94_0) (ut94_0 : t94_0 ≤ 1) (blp1 : 4 ≤ p1) (bup1 : p1 ≤ 4) (H : Heap) (locs : List Loc) (hB : q_B g K L (fun q => q ∈ L) [] f f s H locs) (ls : Array Slot) (hl : lv_has ls 4 []), W p l e { frames := 3, cells := 0, slots := 0, locals := 67 } s m ([.ref v, .int (q_i p0), .int (q_i p1)] : List Value).toArray below meth c H locs 0 0 (MQ below (q_Q g K L [] f (q_Pi (fun (z : Int) (f1 : Nat → va_E) => f = f1))) ([.ref v, .int (q_i p0), .int (q_i p1)] : List Value).toArray s 0 0 (fun q => q ∈ L)) (F0 m 94 ls [.int (q_i t94_0)]) := by
    intro t94_0 lt94_0 ut94_0 blp1 bup1 H locs hB ls hl
    refine q_iret cx hr hlk hB dX10_nodeFigure_94 ⟨by omega, by omega⟩ ?_
    exact rfl
  obtain ⟨H, hH⟩ : ∃ H : Heap, H = s.heap := ⟨_, rfl⟩
  obtain ⟨locs, hlocs⟩ : ∃ z : List Loc, z = [] := ⟨_, rfl⟩
  rw [← hH, ← hlocs] at hB
  rw [← hH, ← hlocs]
  refine q_ald_n cx dX10_nodeFigure_0 rfl (lv_at hl 0 rfl) ?_
  refine q_ild_n cx dX10_nodeFigure_1 rfl (lv_at hl 1 rfl) ?_
  refine q_cVr (As := [.int (q_i p0)]) (rest := []) cx hB (fun _ h => h) hN hv kv (by decide) rfl (g_X10_nodeAt_3 l g hN hB.2.1 v hv kv p0 (by omega) (by omega)) q_cX10_66 q_dX10_nodeAt (by decide) rfl rfl hl.1 rfl (Nat.le_of_ble_eq_true rfl) dX10_nodeFigure_2 (fun y46 H locs f45 h47 hF hB => ?_)
  obtain ⟨rfl, hy46, ky46⟩ := h47
  refine lv_astore_n (lv' := [(3, .ref y46), (0, .ref v), (1, .int (q_i p0)), (2, .int (q_i p1))]) cx.1 cx.2.1 dX10_nodeFigure_5 rfl hl (by decide) rfl (fun ls hl => ?_)
  refine q_ild_n cx dX10_nodeFigure_6 rfl (lv_at hl 3 rfl) ?_
  by_cases c49 : p1 = 0
  · refine lv_tableIn (tgt := 60) cx.1 cx.2.1 dX10_nodeFigure_7 (by rw [q_toInt ⟨by omega, by omega⟩]; omega) (by rw [q_toInt ⟨by omega, by omega⟩]; omega) (off := 53) (by rw [q_toInt ⟨by omega, by omega⟩, c49]; rfl) (by decide) ?_
    refine q_ald_n cx dX10_nodeFigure_60 rfl (lv_at hl 0 rfl) ?_
    obtain ⟨x50, ex50⟩ : ∃ zz, q_is (q_z f y46 2) zz := ⟨_, q_isr _⟩
    refine q_gX10_95_19 cx hB hy46 ky46 ex50 dX10_nodeFigure_61 (fun lb51 ub51 => ?_)
    refine q_iret cx hr hlk hB dX10_nodeFigure_64 ⟨by omega, by omega⟩ ?_
    exact rfl
  by_cases c52 : p1 = 1
  · refine lv_tableIn (tgt := 65) cx.1 cx.2.1 dX10_nodeFigure_7 (by rw [q_toInt ⟨by omega, by omega⟩]; omega) (by rw [q_toInt ⟨by omega, by omega⟩]; omega) (off := 58) (by rw [q_toInt ⟨by omega, by omega⟩, c52]; rfl) (by decide) ?_
    refine q_ald_n cx dX10_nodeFigure_65 rfl (lv_at hl 0 rfl) ?_
    obtain ⟨x53, ex53⟩ : ∃ zz, q_is (q_z f y46 3) zz := ⟨_, q_isr _⟩
    refine q_gX10_98_19 cx hB hy46 ky46 ex53 dX10_nodeFigure_66 (fun lb54 ub54 => ?_)
    refine q_iret cx hr hlk hB dX10_nodeFigure_69 ⟨by omega, by omega⟩ ?_
    exact rfl
  by_cases c55 : p1 = 2
  · refine lv_tableIn (tgt := 70) cx.1 cx.2.1 dX10_nodeFigure_7 (by rw [q_toInt ⟨by omega, by omega⟩]; omega) (by rw [q_toInt ⟨by omega, by omega⟩]; omega) (off := 63) (by rw [q_toInt ⟨by omega, by omega⟩, c55]; rfl) (by decide) ?_
    refine q_ald_n cx dX10_nodeFigure_70 rfl (lv_at hl 0 rfl) ?_
    obtain ⟨x56, ex56⟩ : ∃ zz, q_is (q_z f y46 4) zz := ⟨_, q_isr _⟩
    refine q_gX10_101_19 cx hB hy46 ky46 ex56 dX10_nodeFigure_71 (fun lb57 ub57 => ?_)
    refine q_iret cx hr hlk hB dX10_nodeFigure_74 ⟨by omega, by omega⟩ ?_
    exact rfl
  by_cases c58 : p1 = 3
  · refine lv_tableIn (tgt := 75) cx.1 cx.2.1 dX10_nodeFigure_7 (by rw [q_toInt ⟨by omega, by omega⟩]; omega) (by rw [q_toInt ⟨by omega, by omega⟩]; omega) (off := 68) (by rw [q_toInt ⟨by omega, by omega⟩, c58]; rfl) (by decide) ?_
    refine q_ald_n cx dX10_nodeFigure_75 rfl (lv_at hl 1 rfl) ?_
    refine q_ild_n cx dX10_nodeFigure_76 rfl (lv_at hl 2 rfl) ?_
    refine q_cVi (As := [.int (q_i p0)]) (rest := []) cx hB (fun _ h => h) hN hv kv (by decide) rfl (g_X10_dayOf_3 l g hN hB.2.1 v hv kv p0 (by omega) (by omega)) q_cX10_178 q_dX10_dayOf (by decide) rfl rfl hl.1 rfl (Nat.le_of_ble_eq_true rfl) dX10_nodeFigure_77 (fun y60 H locs f59 ry60 h61 hF hB => ?_)
    obtain ⟨rfl, ly60, uy60⟩ := h61
    refine q_iret cx hr hlk hB dX10_nodeFigure_80 ⟨by omega, by omega⟩ ?_
    exact rfl
  by_cases c62 : p1 = 4
  · refine lv_tableIn (tgt := 81) cx.1 cx.2.1 dX10_nodeFigure_7 (by rw [q_toInt ⟨by omega, by omega⟩]; omega) (by rw [q_toInt ⟨by omega, by omega⟩]; omega) (off := 74) (by rw [q_toInt ⟨by omega, by omega⟩, c62]; rfl) (by decide) ?_
    refine q_ald_n cx dX10_nodeFigure_81 rfl (lv_at hl 1 rfl) ?_
    refine q_ild_n cx dX10_nodeFigure_82 rfl (lv_at hl 2 rfl) ?_
    refine q_cVi (As := [.int (q_i p0)]) (rest := []) cx hB (fun _ h => h) hN hv kv (by decide) rfl (g_X10_isAwake_3 l g hN hB.2.1 v hv kv p0 (by omega) (by omega)) q_cX10_203 q_dX10_isAwake (by decide) rfl rfl hl.1 rfl (Nat.le_of_ble_eq_true rfl) dX10_nodeFigure_83 (fun y64 H locs f63 ry64 h65 hF hB => ?_)
    obtain ⟨rfl, ly64, uy64⟩ := h65
    refine q_ifeq (tgt := 93) cx ⟨by omega, by omega⟩ dX10_nodeFigure_86 (by decide) (fun c66 => ?_) (fun c66 => ?_)
    · refine q_iconst cx dX10_nodeFigure_93 ?_
      exact J94 0 (by decide) (by decide) (by omega) (by omega) H locs hB ls (lv_sub hl [] rfl)
    · refine q_iconst cx dX10_nodeFigure_89 ?_
      refine lv_goto (tgt := 94) cx.1 cx.2.1 dX10_nodeFigure_90 (by decide) ?_
      exact J94 1 (by decide) (by decide) (by omega) (by omega) H locs hB ls (lv_sub hl [] rfl)
  by_cases c67 : p1 = 5
  · refine lv_tableIn (tgt := 95) cx.1 cx.2.1 dX10_nodeFigure_7 (by rw [q_toInt ⟨by omega, by omega⟩]; omega) (by rw [q_toInt ⟨by omega, by omega⟩]; omega) (off := 88) (by rw [q_toInt ⟨by omega, by omega⟩, c67]; rfl) (by decide) ?_
    refine q_ald_n cx dX10_nodeFigure_95 rfl (lv_at hl 0 rfl) ?_
    obtain ⟨x68, ex68⟩ : ∃ zz, q_is (q_z f y46 5) zz := ⟨_, q_isr _⟩
    refine q_gX10_104_19 cx hB hy46 ky46 ex68 dX10_nodeFigure_96 (fun lb69 ub69 => ?_)
    refine q_iret cx hr hlk hB dX10_nodeFigure_99 ⟨by omega, by omega⟩ ?_
    exact rfl
  by_cases c70 : p1 = 6
  · refine lv_tableIn (tgt := 100) cx.1 cx.2.1 dX10_nodeFigure_7 (by rw [q_toInt ⟨by omega, by omega⟩]; omega) (by rw [q_toInt ⟨by omega, by omega⟩]; omega) (off := 93) (by rw [q_toInt ⟨by omega, by omega⟩, c70]; rfl) (by decide) ?_
    refine q_ald_n cx dX10_nodeFigure_100 rfl (lv_at hl 0 rfl) ?_
    obtain ⟨x71, ex71⟩ : ∃ zz, q_is (q_z f y46 6) zz := ⟨_, q_isr _⟩
    refine q_gX10_107_19 cx hB hy46 ky46 ex71 dX10_nodeFigure_101 (fun lb72 ub72 => ?_)
    refine q_iret cx hr hlk hB dX10_nodeFigure_104 ⟨by omega, by omega⟩ ?_
    exact rfl
  by_cases c73 : p1 = 7
  · refine lv_tableIn (tgt := 105) cx.1 cx.2.1 dX10_nodeFigure_7 (by rw [q_toInt ⟨by omega, by omega⟩]; omega) (by rw [q_toInt ⟨by omega, by omega⟩]; omega) (off := 98) (by rw [q_toInt ⟨by omega, by omega⟩, c73]; rfl) (by decide) ?_
    refine q_ald_n cx dX10_nodeFigure_105 rfl (lv_at hl 0 rfl) ?_
    obtain ⟨x74, ex74⟩ : ∃ zz, q_is (q_z f y46 7) zz := ⟨_, q_isr _⟩
    refine q_gX10_110_19 cx hB hy46 ky46 ex74 dX10_nodeFigure_106 (fun lb75 ub75 => ?_)
    refine q_iret cx hr hlk hB dX10_nodeFigure_109 ⟨by omega, by omega⟩ ?_
    exact rfl
  by_cases c76 : p1 = 8
  · refine lv_tableIn (tgt := 110) cx.1 cx.2.1 dX10_nodeFigure_7 (by rw [q_toInt ⟨by omega, by omega⟩]; omega) (by rw [q_toInt ⟨by omega, by omega⟩]; omega) (off := 103) (by rw [q_toInt ⟨by omega, by omega⟩, c76]; rfl) (by decide) ?_
    refine q_ald_n cx dX10_nodeFigure_110 rfl (lv_at hl 0 rfl) ?_
    obtain ⟨x77, ex77⟩ : ∃ zz, q_is (q_z f y46 8) zz := ⟨_, q_isr _⟩
    refine q_gX10_113_19 cx hB hy46 ky46 ex77 dX10_nodeFigure_111 (fun lb78 ub78 => ?_)
    refine q_iret cx hr hlk hB dX10_nodeFigure_114 ⟨by omega, by omega⟩ ?_
    exact rfl
  by_cases c79 : p1 = 9
  · refine lv_tableIn (tgt := 115) cx.1 cx.2.1 dX10_nodeFigure_7 (by rw [q_toInt ⟨by omega, by omega⟩]; omega) (by rw [q_toInt ⟨by omega, by omega⟩]; omega) (off := 108) (by rw [q_toInt ⟨by omega, by omega⟩, c79]; rfl) (by decide) ?_
    refine q_ald_n cx dX10_nodeFigure_115 rfl (lv_at hl 1 rfl) ?_
    refine q_ild_n cx dX10_nodeFigure_116 rfl (lv_at hl 2 rfl) ?_
    refine q_cVl (As := [.int (q_i p0)]) (rest := []) cx hB (fun _ h => h) hN hv kv (by decide) rfl (g_X10_tableOf_3 l g hN hB.2.1 v hv kv p0 (by omega) (by omega)) q_cX10_174 q_dX10_tableOf (by decide) rfl rfl hl.1 rfl (Nat.le_of_ble_eq_true rfl) dX10_nodeFigure_117 (fun y81 H locs f80 h82 hF hB => ?_)
    obtain rfl := h82
    refine q_cSi (As := [.long y81]) (rest := []) cx hB (fun _ h => h) hN (g_Long_bitCount l g hN hB.2.1 y81) q_cX10_206 q_dJ13_bitCount_95d88 (by decide) rfl rfl hl.1 rfl (Nat.le_of_ble_eq_true rfl) dX10_nodeFigure_120 (fun y84 H locs f83 ry84 h85 hF hB => ?_)
    obtain ⟨rfl, ly84, uy84⟩ := h85
    refine q_iret cx hr hlk hB dX10_nodeFigure_123 ⟨by omega, by omega⟩ ?_
    exact rfl
  refine lv_tableOut (tgt := 124) cx.1 cx.2.1 dX10_nodeFigure_7 (by rw [q_toInt ⟨by omega, by omega⟩]; omega) (by decide) ?_
  refine q_ald_n cx dX10_nodeFigure_124 rfl (lv_at hl 1 rfl) ?_
  refine q_ild_n cx dX10_nodeFigure_125 rfl (lv_at hl 2 rfl) ?_
  refine q_cVi (As := [.int (q_i p0)]) (rest := []) cx hB (fun _ h => h) hN hv kv (by decide) rfl (g_X10_messagesWaitingAt_3 l g hN hB.2.1 v hv kv p0 (by omega) (by omega)) q_cX10_211 q_dX10_messagesWaitingAt (by decide) rfl rfl hl.1 rfl (Nat.le_of_ble_eq_true rfl) dX10_nodeFigure_126 (fun y87 H locs f86 ry87 h88 hF hB => ?_)
  obtain rfl := h88
  refine q_iret cx hr hlk hB dX10_nodeFigure_129 ⟨by omega, by omega⟩ ?_
  exact rfl
set_option maxHeartbeats 4000000 in
set_option maxRecDepth 100000 in
theorem g_X10_nodeFigure_4 (l : Launch) (g : q_G) {K : Nat → Nat} {L : List Nat} (hN : L.Nodup) {f : Nat → va_E} (hT : q_Ty g K L f) (v : Nat) (hv : v ∈ L) (kv : K v = 16) (p0 : Int) (lp0 : (-2147483648) ≤ p0) (up0 : p0 ≤ 2147483647) (p1 : Int) (lp1 : (-2147483648) ≤ p1) (up1 : p1 ≤ 2147483647) : q_Ct l g K L yX10_nodeFigure cX10_nodeFigure 4 (some .int) 3 67 [.ref v, .int (q_i p0), .int (q_i p1)] f [] (q_Pi (fun (z : Int) (f1 : Nat → va_E) => f = f1)) := by
  refine q_ofb (by decide +kernel) hN hT (Nat.le_of_ble_eq_true rfl) ?_
  intro p e s m below meth c ls cx hr hlk hB hl
  have hl : lv_has ls 4 [(0, .ref v), (1, .int (q_i p0)), (2, .int (q_i p1))] := hl
  have J94 : ∀ (t94_0 : Int) (lt94_0 : 0 ≤ t94_0) (ut94_0 : t94_0 ≤ 1) (blp1 : 4 ≤ p1) (bup1 : p1 ≤ 4) (H : Heap) (locs : List Loc) (hB : q_B g K L (fun q => q ∈ L) [] f f s H locs) (ls : Array Slot) (hl : lv_has ls 4 []), W p l e { frames := 3, cells := 0, slots := 0, locals := 67 } s m ([.ref v, .int (q_i p0), .int (q_i p1)] : List Value).toArray below meth c H locs 0 0 (MQ below (q_Q g K L [] f (q_Pi (fun (z : Int) (f1 : Nat → va_E) => f = f1))) ([.ref v, .int (q_i p0), .int (q_i p1)] : List Value).toArray s 0 0 (fun q => q ∈ L)) (F0 m 94 ls [.int (q_i t94_0)]) := by
    intro t94_0 lt94_0 ut94_0 blp1 bup1 H locs hB ls hl
    refine q_iret cx hr hlk hB dX10_nodeFigure_94 ⟨by omega, by omega⟩ ?_
    exact rfl
  obtain ⟨H, hH⟩ : ∃ H : Heap, H = s.heap := ⟨_, rfl⟩
  obtain ⟨locs, hlocs⟩ : ∃ z : List Loc, z = [] := ⟨_, rfl⟩
  rw [← hH, ← hlocs] at hB
  rw [← hH, ← hlocs]
  refine q_ald_n cx dX10_nodeFigure_0 rfl (lv_at hl 0 rfl) ?_
  refine q_ild_n cx dX10_nodeFigure_1 rfl (lv_at hl 1 rfl) ?_
  refine q_cVr (As := [.int (q_i p0)]) (rest := []) cx hB (fun _ h => h) hN hv kv (by decide) rfl (g_X10_nodeAt_4 l g hN hB.2.1 v hv kv p0 (by omega) (by omega)) q_cX10_66 q_dX10_nodeAt (by decide) rfl rfl hl.1 rfl (Nat.le_of_ble_eq_true rfl) dX10_nodeFigure_2 (fun y46 H locs f45 h47 hF hB => ?_)
  obtain ⟨rfl, hy46, ky46⟩ := h47
  refine lv_astore_n (lv' := [(3, .ref y46), (0, .ref v), (1, .int (q_i p0)), (2, .int (q_i p1))]) cx.1 cx.2.1 dX10_nodeFigure_5 rfl hl (by decide) rfl (fun ls hl => ?_)
  refine q_ild_n cx dX10_nodeFigure_6 rfl (lv_at hl 3 rfl) ?_
  by_cases c49 : p1 = 0
  · refine lv_tableIn (tgt := 60) cx.1 cx.2.1 dX10_nodeFigure_7 (by rw [q_toInt ⟨by omega, by omega⟩]; omega) (by rw [q_toInt ⟨by omega, by omega⟩]; omega) (off := 53) (by rw [q_toInt ⟨by omega, by omega⟩, c49]; rfl) (by decide) ?_
    refine q_ald_n cx dX10_nodeFigure_60 rfl (lv_at hl 0 rfl) ?_
    obtain ⟨x50, ex50⟩ : ∃ zz, q_is (q_z f y46 2) zz := ⟨_, q_isr _⟩
    refine q_gX10_95_20 cx hB hy46 ky46 ex50 dX10_nodeFigure_61 (fun lb51 ub51 => ?_)
    refine q_iret cx hr hlk hB dX10_nodeFigure_64 ⟨by omega, by omega⟩ ?_
    exact rfl
  by_cases c52 : p1 = 1
  · refine lv_tableIn (tgt := 65) cx.1 cx.2.1 dX10_nodeFigure_7 (by rw [q_toInt ⟨by omega, by omega⟩]; omega) (by rw [q_toInt ⟨by omega, by omega⟩]; omega) (off := 58) (by rw [q_toInt ⟨by omega, by omega⟩, c52]; rfl) (by decide) ?_
    refine q_ald_n cx dX10_nodeFigure_65 rfl (lv_at hl 0 rfl) ?_
    obtain ⟨x53, ex53⟩ : ∃ zz, q_is (q_z f y46 3) zz := ⟨_, q_isr _⟩
    refine q_gX10_98_20 cx hB hy46 ky46 ex53 dX10_nodeFigure_66 (fun lb54 ub54 => ?_)
    refine q_iret cx hr hlk hB dX10_nodeFigure_69 ⟨by omega, by omega⟩ ?_
    exact rfl
  by_cases c55 : p1 = 2
  · refine lv_tableIn (tgt := 70) cx.1 cx.2.1 dX10_nodeFigure_7 (by rw [q_toInt ⟨by omega, by omega⟩]; omega) (by rw [q_toInt ⟨by omega, by omega⟩]; omega) (off := 63) (by rw [q_toInt ⟨by omega, by omega⟩, c55]; rfl) (by decide) ?_
    refine q_ald_n cx dX10_nodeFigure_70 rfl (lv_at hl 0 rfl) ?_
    obtain ⟨x56, ex56⟩ : ∃ zz, q_is (q_z f y46 4) zz := ⟨_, q_isr _⟩
    refine q_gX10_101_20 cx hB hy46 ky46 ex56 dX10_nodeFigure_71 (fun lb57 ub57 => ?_)
    refine q_iret cx hr hlk hB dX10_nodeFigure_74 ⟨by omega, by omega⟩ ?_
    exact rfl
  by_cases c58 : p1 = 3
  · refine lv_tableIn (tgt := 75) cx.1 cx.2.1 dX10_nodeFigure_7 (by rw [q_toInt ⟨by omega, by omega⟩]; omega) (by rw [q_toInt ⟨by omega, by omega⟩]; omega) (off := 68) (by rw [q_toInt ⟨by omega, by omega⟩, c58]; rfl) (by decide) ?_
    refine q_ald_n cx dX10_nodeFigure_75 rfl (lv_at hl 1 rfl) ?_
    refine q_ild_n cx dX10_nodeFigure_76 rfl (lv_at hl 2 rfl) ?_
    refine q_cVi (As := [.int (q_i p0)]) (rest := []) cx hB (fun _ h => h) hN hv kv (by decide) rfl (g_X10_dayOf_4 l g hN hB.2.1 v hv kv p0 (by omega) (by omega)) q_cX10_178 q_dX10_dayOf (by decide) rfl rfl hl.1 rfl (Nat.le_of_ble_eq_true rfl) dX10_nodeFigure_77 (fun y60 H locs f59 ry60 h61 hF hB => ?_)
    obtain ⟨rfl, ly60, uy60⟩ := h61
    refine q_iret cx hr hlk hB dX10_nodeFigure_80 ⟨by omega, by omega⟩ ?_
    exact rfl
  by_cases c62 : p1 = 4
  · refine lv_tableIn (tgt := 81) cx.1 cx.2.1 dX10_nodeFigure_7 (by rw [q_toInt ⟨by omega, by omega⟩]; omega) (by rw [q_toInt ⟨by omega, by omega⟩]; omega) (off := 74) (by rw [q_toInt ⟨by omega, by omega⟩, c62]; rfl) (by decide) ?_
    refine q_ald_n cx dX10_nodeFigure_81 rfl (lv_at hl 1 rfl) ?_
    refine q_ild_n cx dX10_nodeFigure_82 rfl (lv_at hl 2 rfl) ?_
    refine q_cVi (As := [.int (q_i p0)]) (rest := []) cx hB (fun _ h => h) hN hv kv (by decide) rfl (g_X10_isAwake_4 l g hN hB.2.1 v hv kv p0 (by omega) (by omega)) q_cX10_203 q_dX10_isAwake (by decide) rfl rfl hl.1 rfl (Nat.le_of_ble_eq_true rfl) dX10_nodeFigure_83 (fun y64 H locs f63 ry64 h65 hF hB => ?_)
    obtain ⟨rfl, ly64, uy64⟩ := h65
    refine q_ifeq (tgt := 93) cx ⟨by omega, by omega⟩ dX10_nodeFigure_86 (by decide) (fun c66 => ?_) (fun c66 => ?_)
    · refine q_iconst cx dX10_nodeFigure_93 ?_
      exact J94 0 (by decide) (by decide) (by omega) (by omega) H locs hB ls (lv_sub hl [] rfl)
    · refine q_iconst cx dX10_nodeFigure_89 ?_
      refine lv_goto (tgt := 94) cx.1 cx.2.1 dX10_nodeFigure_90 (by decide) ?_
      exact J94 1 (by decide) (by decide) (by omega) (by omega) H locs hB ls (lv_sub hl [] rfl)
  by_cases c67 : p1 = 5
  · refine lv_tableIn (tgt := 95) cx.1 cx.2.1 dX10_nodeFigure_7 (by rw [q_toInt ⟨by omega, by omega⟩]; omega) (by rw [q_toInt ⟨by omega, by omega⟩]; omega) (off := 88) (by rw [q_toInt ⟨by omega, by omega⟩, c67]; rfl) (by decide) ?_
    refine q_ald_n cx dX10_nodeFigure_95 rfl (lv_at hl 0 rfl) ?_
    obtain ⟨x68, ex68⟩ : ∃ zz, q_is (q_z f y46 5) zz := ⟨_, q_isr _⟩
    refine q_gX10_104_20 cx hB hy46 ky46 ex68 dX10_nodeFigure_96 (fun lb69 ub69 => ?_)
    refine q_iret cx hr hlk hB dX10_nodeFigure_99 ⟨by omega, by omega⟩ ?_
    exact rfl
  by_cases c70 : p1 = 6
  · refine lv_tableIn (tgt := 100) cx.1 cx.2.1 dX10_nodeFigure_7 (by rw [q_toInt ⟨by omega, by omega⟩]; omega) (by rw [q_toInt ⟨by omega, by omega⟩]; omega) (off := 93) (by rw [q_toInt ⟨by omega, by omega⟩, c70]; rfl) (by decide) ?_
    refine q_ald_n cx dX10_nodeFigure_100 rfl (lv_at hl 0 rfl) ?_
    obtain ⟨x71, ex71⟩ : ∃ zz, q_is (q_z f y46 6) zz := ⟨_, q_isr _⟩
    refine q_gX10_107_20 cx hB hy46 ky46 ex71 dX10_nodeFigure_101 (fun lb72 ub72 => ?_)
    refine q_iret cx hr hlk hB dX10_nodeFigure_104 ⟨by omega, by omega⟩ ?_
    exact rfl
  by_cases c73 : p1 = 7
  · refine lv_tableIn (tgt := 105) cx.1 cx.2.1 dX10_nodeFigure_7 (by rw [q_toInt ⟨by omega, by omega⟩]; omega) (by rw [q_toInt ⟨by omega, by omega⟩]; omega) (off := 98) (by rw [q_toInt ⟨by omega, by omega⟩, c73]; rfl) (by decide) ?_
    refine q_ald_n cx dX10_nodeFigure_105 rfl (lv_at hl 0 rfl) ?_
    obtain ⟨x74, ex74⟩ : ∃ zz, q_is (q_z f y46 7) zz := ⟨_, q_isr _⟩
    refine q_gX10_110_20 cx hB hy46 ky46 ex74 dX10_nodeFigure_106 (fun lb75 ub75 => ?_)
    refine q_iret cx hr hlk hB dX10_nodeFigure_109 ⟨by omega, by omega⟩ ?_
    exact rfl
  by_cases c76 : p1 = 8
  · refine lv_tableIn (tgt := 110) cx.1 cx.2.1 dX10_nodeFigure_7 (by rw [q_toInt ⟨by omega, by omega⟩]; omega) (by rw [q_toInt ⟨by omega, by omega⟩]; omega) (off := 103) (by rw [q_toInt ⟨by omega, by omega⟩, c76]; rfl) (by decide) ?_
    refine q_ald_n cx dX10_nodeFigure_110 rfl (lv_at hl 0 rfl) ?_
    obtain ⟨x77, ex77⟩ : ∃ zz, q_is (q_z f y46 8) zz := ⟨_, q_isr _⟩
    refine q_gX10_113_20 cx hB hy46 ky46 ex77 dX10_nodeFigure_111 (fun lb78 ub78 => ?_)
    refine q_iret cx hr hlk hB dX10_nodeFigure_114 ⟨by omega, by omega⟩ ?_
    exact rfl
  by_cases c79 : p1 = 9
  · refine lv_tableIn (tgt := 115) cx.1 cx.2.1 dX10_nodeFigure_7 (by rw [q_toInt ⟨by omega, by omega⟩]; omega) (by rw [q_toInt ⟨by omega, by omega⟩]; omega) (off := 108) (by rw [q_toInt ⟨by omega, by omega⟩, c79]; rfl) (by decide) ?_
    refine q_ald_n cx dX10_nodeFigure_115 rfl (lv_at hl 1 rfl) ?_
    refine q_ild_n cx dX10_nodeFigure_116 rfl (lv_at hl 2 rfl) ?_
    refine q_cVl (As := [.int (q_i p0)]) (rest := []) cx hB (fun _ h => h) hN hv kv (by decide) rfl (g_X10_tableOf_4 l g hN hB.2.1 v hv kv p0 (by omega) (by omega)) q_cX10_174 q_dX10_tableOf (by decide) rfl rfl hl.1 rfl (Nat.le_of_ble_eq_true rfl) dX10_nodeFigure_117 (fun y81 H locs f80 h82 hF hB => ?_)
    obtain rfl := h82
    refine q_cSi (As := [.long y81]) (rest := []) cx hB (fun _ h => h) hN (g_Long_bitCount l g hN hB.2.1 y81) q_cX10_206 q_dJ13_bitCount_95d88 (by decide) rfl rfl hl.1 rfl (Nat.le_of_ble_eq_true rfl) dX10_nodeFigure_120 (fun y84 H locs f83 ry84 h85 hF hB => ?_)
    obtain ⟨rfl, ly84, uy84⟩ := h85
    refine q_iret cx hr hlk hB dX10_nodeFigure_123 ⟨by omega, by omega⟩ ?_
    exact rfl
  refine lv_tableOut (tgt := 124) cx.1 cx.2.1 dX10_nodeFigure_7 (by rw [q_toInt ⟨by omega, by omega⟩]; omega) (by decide) ?_
  refine q_ald_n cx dX10_nodeFigure_124 rfl (lv_at hl 1 rfl) ?_
  refine q_ild_n cx dX10_nodeFigure_125 rfl (lv_at hl 2 rfl) ?_
  refine q_cVi (As := [.int (q_i p0)]) (rest := []) cx hB (fun _ h => h) hN hv kv (by decide) rfl (g_X10_messagesWaitingAt_4 l g hN hB.2.1 v hv kv p0 (by omega) (by omega)) q_cX10_211 q_dX10_messagesWaitingAt (by decide) rfl rfl hl.1 rfl (Nat.le_of_ble_eq_true rfl) dX10_nodeFigure_126 (fun y87 H locs f86 ry87 h88 hF hB => ?_)
  obtain rfl := h88
  refine q_iret cx hr hlk hB dX10_nodeFigure_129 ⟨by omega, by omega⟩ ?_
  exact rfl
set_option maxHeartbeats 4000000 in
set_option maxRecDepth 100000 in
theorem g_X10_wakesAfter (l : Launch) (g : q_G) {K : Nat → Nat} {L : List Nat} (hN : L.Nodup) {f : Nat → va_E} (hT : q_Ty g K L f) (v : Nat) (hv : v ∈ L) (kv : K v = 10) (p0 : Int) (lp0 : (-2147483648) ≤ p0) (up0 : p0 ≤ 2147483647) (p1 : Int) (lp1 : (-2147483648) ≤ p1) (up1 : p1 ≤ 2147483647) (p2 : Int) (lp2 : (-2147483648) ≤ p2) (up2 : p2 ≤ 2147483647) : q_Ct l g K L yX10_wakesAfter cX10_wakesAfter 4 (some .boolean) 2 46 [.ref v, .int (q_i p0), .int (q_i p1), .int (q_i p2)] f [] (q_Pi (fun (z : Int) (f1 : Nat → va_E) => f = f1 ∧ 0 ≤ z ∧ z ≤ 1)) := by
  refine q_ofb (by decide +kernel) hN hT (Nat.le_of_ble_eq_true rfl) ?_
  intro p e s m below meth c ls cx hr hlk hB hl
  have hl : lv_has ls 4 [(0, .ref v), (1, .int (q_i p0)), (2, .int (q_i p1)), (3, .int (q_i p2))] := hl
  have J36 : ∀ (t36_0 : Int) (lt36_0 : 0 ≤ t36_0) (ut36_0 : t36_0 ≤ 1) (H : Heap) (locs : List Loc) (hB : q_B g K L (fun q => q ∈ L) [] f f s H locs) (ls : Array Slot) (hl : lv_has ls 4 []), W p l e { frames := 2, cells := 0, slots := 0, locals := 46 } s m ([.ref v, .int (q_i p0), .int (q_i p1), .int (q_i p2)] : List Value).toArray below meth c H locs 0 0 (MQ below (q_Q g K L [] f (q_Pi (fun (z : Int) (f1 : Nat → va_E) => f = f1 ∧ 0 ≤ z ∧ z ≤ 1))) ([.ref v, .int (q_i p0), .int (q_i p1), .int (q_i p2)] : List Value).toArray s 0 0 (fun q => q ∈ L)) (F0 m 36 ls [.int (q_i t36_0)]) := by
    intro t36_0 lt36_0 ut36_0 H locs hB ls hl
    refine q_zret cx hr hlk hB dX10_wakesAfter_36 (by omega) (by omega) ?_
    exact ⟨rfl, (by omega), (by omega)⟩
  have J35 : ∀  (H : Heap) (locs : List Loc) (hB : q_B g K L (fun q => q ∈ L) [] f f s H locs) (ls : Array Slot) (hl : lv_has ls 4 []), W p l e { frames := 2, cells := 0, slots := 0, locals := 46 } s m ([.ref v, .int (q_i p0), .int (q_i p1), .int (q_i p2)] : List Value).toArray below meth c H locs 0 0 (MQ below (q_Q g K L [] f (q_Pi (fun (z : Int) (f1 : Nat → va_E) => f = f1 ∧ 0 ≤ z ∧ z ≤ 1))) ([.ref v, .int (q_i p0), .int (q_i p1), .int (q_i p2)] : List Value).toArray s 0 0 (fun q => q ∈ L)) (F0 m 35 ls []) := by
    intro  H locs hB ls hl
    refine q_iconst cx dX10_wakesAfter_35 ?_
    exact J36 0 (by decide) (by decide) H locs hB ls (lv_sub hl [] rfl)
  obtain ⟨H, hH⟩ : ∃ H : Heap, H = s.heap := ⟨_, rfl⟩
  obtain ⟨locs, hlocs⟩ : ∃ z : List Loc, z = [] := ⟨_, rfl⟩
  rw [← hH, ← hlocs] at hB
  rw [← hH, ← hlocs]
  refine q_ald_n cx dX10_wakesAfter_0 rfl (lv_at hl 0 rfl) ?_
  refine q_ild_n cx dX10_wakesAfter_1 rfl (lv_at hl 1 rfl) ?_
  refine q_cVi (As := [.int (q_i p0)]) (rest := []) cx hB (fun _ h => h) hN hv kv (by decide) rfl (g_X10_isOut l g hN hB.2.1 v hv kv p0 (by omega) (by omega)) q_cX10_160 q_dX10_isOut (by decide) rfl rfl hl.1 rfl (Nat.le_of_ble_eq_true rfl) dX10_wakesAfter_2 (fun y20 H locs f19 ry20 h21 hF hB => ?_)
  obtain ⟨rfl, ly20, uy20⟩ := h21
  refine q_ifne (tgt := 35) cx ⟨by omega, by omega⟩ dX10_wakesAfter_5 (by decide) (fun c22 => ?_) (fun c22 => ?_)
  · exact J35  H locs hB ls (lv_sub hl [] rfl)
  · refine q_ald_n cx dX10_wakesAfter_8 rfl (lv_at hl 0 rfl) ?_
    refine q_ild_n cx dX10_wakesAfter_9 rfl (lv_at hl 1 rfl) ?_
    refine q_cVl (As := [.int (q_i p0)]) (rest := []) cx hB (fun _ h => h) hN hv kv (by decide) rfl (g_X10_tableOf l g hN hB.2.1 v hv kv p0 (by omega) (by omega)) q_cX10_174 q_dX10_tableOf (by decide) rfl rfl hl.1 rfl (Nat.le_of_ble_eq_true rfl) dX10_wakesAfter_10 (fun y24 H locs f23 h25 hF hB => ?_)
    obtain rfl := h25
    refine q_ald_n cx dX10_wakesAfter_13 rfl (lv_at hl 0 rfl) ?_
    refine q_ald_n cx dX10_wakesAfter_14 rfl (lv_at hl 0 rfl) ?_
    obtain ⟨x26, ex26⟩ : ∃ zz, q_is (q_z f v 11) zz := ⟨_, q_isr _⟩
    refine q_gX10_60 cx hB hv kv ex26 dX10_wakesAfter_15 (fun lb27 ub27 => ?_)
    refine q_ild_n cx dX10_wakesAfter_18 rfl (lv_at hl 3 rfl) ?_
    refine q_iadd cx dX10_wakesAfter_19 ?_
    refine q_any (fun y28 ry28 ey28 => ?_)
    refine q_ild_n cx dX10_wakesAfter_20 rfl (lv_at hl 2 rfl) ?_
    refine q_iadd cx dX10_wakesAfter_21 ?_
    refine q_any (fun y29 ry29 ey29 => ?_)
    refine q_cVi (As := [.int (q_i y29)]) (rest := [.long y24]) cx hB (fun _ h => h) hN hv kv (by decide) rfl (g_X10_dayOfYear l g hN hB.2.1 v hv kv y29 (by omega) (by omega)) q_cX10_156 q_dX10_dayOfYear (by decide) rfl rfl hl.1 rfl (Nat.le_of_ble_eq_true rfl) dX10_wakesAfter_22 (fun y31 H locs f30 ry31 h32 hF hB => ?_)
    obtain ⟨rfl, ly31, uy31⟩ := h32
    refine q_cSi (As := [.long y24, .int (q_i y31)]) (rest := []) cx hB (fun _ h => h) hN (g_X10_hasDay l g hN hB.2.1 y24 y31 (by omega) (by omega)) q_cX10_170 q_dX10_hasDay (by decide) rfl rfl hl.1 rfl (Nat.le_of_ble_eq_true rfl) dX10_wakesAfter_25 (fun y34 H locs f33 ry34 h35 hF hB => ?_)
    obtain ⟨rfl, ly34, uy34⟩ := h35
    refine q_ifeq (tgt := 35) cx ⟨by omega, by omega⟩ dX10_wakesAfter_28 (by decide) (fun c36 => ?_) (fun c36 => ?_)
    · exact J35  H locs hB ls (lv_sub hl [] rfl)
    · refine q_iconst cx dX10_wakesAfter_31 ?_
      refine lv_goto (tgt := 36) cx.1 cx.2.1 dX10_wakesAfter_32 (by decide) ?_
      exact J36 1 (by decide) (by decide) H locs hB ls (lv_sub hl [] rfl)
set_option maxHeartbeats 4000000 in
set_option maxRecDepth 100000 in
theorem g_X10_wakesAfter_1 (l : Launch) (g : q_G) {K : Nat → Nat} {L : List Nat} (hN : L.Nodup) {f : Nat → va_E} (hT : q_Ty g K L f) (v : Nat) (hv : v ∈ L) (kv : K v = 13) (p0 : Int) (lp0 : (-2147483648) ≤ p0) (up0 : p0 ≤ 2147483647) (p1 : Int) (lp1 : (-2147483648) ≤ p1) (up1 : p1 ≤ 2147483647) (p2 : Int) (lp2 : (-2147483648) ≤ p2) (up2 : p2 ≤ 2147483647) : q_Ct l g K L yX10_wakesAfter cX10_wakesAfter 4 (some .boolean) 2 46 [.ref v, .int (q_i p0), .int (q_i p1), .int (q_i p2)] f [] (q_Pi (fun (z : Int) (f1 : Nat → va_E) => f = f1 ∧ 0 ≤ z ∧ z ≤ 1)) := by
  refine q_ofb (by decide +kernel) hN hT (Nat.le_of_ble_eq_true rfl) ?_
  intro p e s m below meth c ls cx hr hlk hB hl
  have hl : lv_has ls 4 [(0, .ref v), (1, .int (q_i p0)), (2, .int (q_i p1)), (3, .int (q_i p2))] := hl
  have J36 : ∀ (t36_0 : Int) (lt36_0 : 0 ≤ t36_0) (ut36_0 : t36_0 ≤ 1) (H : Heap) (locs : List Loc) (hB : q_B g K L (fun q => q ∈ L) [] f f s H locs) (ls : Array Slot) (hl : lv_has ls 4 []), W p l e { frames := 2, cells := 0, slots := 0, locals := 46 } s m ([.ref v, .int (q_i p0), .int (q_i p1), .int (q_i p2)] : List Value).toArray below meth c H locs 0 0 (MQ below (q_Q g K L [] f (q_Pi (fun (z : Int) (f1 : Nat → va_E) => f = f1 ∧ 0 ≤ z ∧ z ≤ 1))) ([.ref v, .int (q_i p0), .int (q_i p1), .int (q_i p2)] : List Value).toArray s 0 0 (fun q => q ∈ L)) (F0 m 36 ls [.int (q_i t36_0)]) := by
    intro t36_0 lt36_0 ut36_0 H locs hB ls hl
    refine q_zret cx hr hlk hB dX10_wakesAfter_36 (by omega) (by omega) ?_
    exact ⟨rfl, (by omega), (by omega)⟩
  have J35 : ∀  (H : Heap) (locs : List Loc) (hB : q_B g K L (fun q => q ∈ L) [] f f s H locs) (ls : Array Slot) (hl : lv_has ls 4 []), W p l e { frames := 2, cells := 0, slots := 0, locals := 46 } s m ([.ref v, .int (q_i p0), .int (q_i p1), .int (q_i p2)] : List Value).toArray below meth c H locs 0 0 (MQ below (q_Q g K L [] f (q_Pi (fun (z : Int) (f1 : Nat → va_E) => f = f1 ∧ 0 ≤ z ∧ z ≤ 1))) ([.ref v, .int (q_i p0), .int (q_i p1), .int (q_i p2)] : List Value).toArray s 0 0 (fun q => q ∈ L)) (F0 m 35 ls []) := by
    intro  H locs hB ls hl
    refine q_iconst cx dX10_wakesAfter_35 ?_
    exact J36 0 (by decide) (by decide) H locs hB ls (lv_sub hl [] rfl)
  obtain ⟨H, hH⟩ : ∃ H : Heap, H = s.heap := ⟨_, rfl⟩
  obtain ⟨locs, hlocs⟩ : ∃ z : List Loc, z = [] := ⟨_, rfl⟩
  rw [← hH, ← hlocs] at hB
  rw [← hH, ← hlocs]
  refine q_ald_n cx dX10_wakesAfter_0 rfl (lv_at hl 0 rfl) ?_
  refine q_ild_n cx dX10_wakesAfter_1 rfl (lv_at hl 1 rfl) ?_
  refine q_cVi (As := [.int (q_i p0)]) (rest := []) cx hB (fun _ h => h) hN hv kv (by decide) rfl (g_X10_isOut_1 l g hN hB.2.1 v hv kv p0 (by omega) (by omega)) q_cX10_160 q_dX10_isOut (by decide) rfl rfl hl.1 rfl (Nat.le_of_ble_eq_true rfl) dX10_wakesAfter_2 (fun y20 H locs f19 ry20 h21 hF hB => ?_)
  obtain ⟨rfl, ly20, uy20⟩ := h21
  refine q_ifne (tgt := 35) cx ⟨by omega, by omega⟩ dX10_wakesAfter_5 (by decide) (fun c22 => ?_) (fun c22 => ?_)
  · exact J35  H locs hB ls (lv_sub hl [] rfl)
  · refine q_ald_n cx dX10_wakesAfter_8 rfl (lv_at hl 0 rfl) ?_
    refine q_ild_n cx dX10_wakesAfter_9 rfl (lv_at hl 1 rfl) ?_
    refine q_cVl (As := [.int (q_i p0)]) (rest := []) cx hB (fun _ h => h) hN hv kv (by decide) rfl (g_X10_tableOf_1 l g hN hB.2.1 v hv kv p0 (by omega) (by omega)) q_cX10_174 q_dX10_tableOf (by decide) rfl rfl hl.1 rfl (Nat.le_of_ble_eq_true rfl) dX10_wakesAfter_10 (fun y24 H locs f23 h25 hF hB => ?_)
    obtain rfl := h25
    refine q_ald_n cx dX10_wakesAfter_13 rfl (lv_at hl 0 rfl) ?_
    refine q_ald_n cx dX10_wakesAfter_14 rfl (lv_at hl 0 rfl) ?_
    obtain ⟨x26, ex26⟩ : ∃ zz, q_is (q_z f v 11) zz := ⟨_, q_isr _⟩
    refine q_gX10_60_13 cx hB hv kv ex26 dX10_wakesAfter_15 (fun lb27 ub27 => ?_)
    refine q_ild_n cx dX10_wakesAfter_18 rfl (lv_at hl 3 rfl) ?_
    refine q_iadd cx dX10_wakesAfter_19 ?_
    refine q_any (fun y28 ry28 ey28 => ?_)
    refine q_ild_n cx dX10_wakesAfter_20 rfl (lv_at hl 2 rfl) ?_
    refine q_iadd cx dX10_wakesAfter_21 ?_
    refine q_any (fun y29 ry29 ey29 => ?_)
    refine q_cVi (As := [.int (q_i y29)]) (rest := [.long y24]) cx hB (fun _ h => h) hN hv kv (by decide) rfl (g_X10_dayOfYear_1 l g hN hB.2.1 v hv kv y29 (by omega) (by omega)) q_cX10_156 q_dX10_dayOfYear (by decide) rfl rfl hl.1 rfl (Nat.le_of_ble_eq_true rfl) dX10_wakesAfter_22 (fun y31 H locs f30 ry31 h32 hF hB => ?_)
    obtain ⟨rfl, ly31, uy31⟩ := h32
    refine q_cSi (As := [.long y24, .int (q_i y31)]) (rest := []) cx hB (fun _ h => h) hN (g_X10_hasDay l g hN hB.2.1 y24 y31 (by omega) (by omega)) q_cX10_170 q_dX10_hasDay (by decide) rfl rfl hl.1 rfl (Nat.le_of_ble_eq_true rfl) dX10_wakesAfter_25 (fun y34 H locs f33 ry34 h35 hF hB => ?_)
    obtain ⟨rfl, ly34, uy34⟩ := h35
    refine q_ifeq (tgt := 35) cx ⟨by omega, by omega⟩ dX10_wakesAfter_28 (by decide) (fun c36 => ?_) (fun c36 => ?_)
    · exact J35  H locs hB ls (lv_sub hl [] rfl)
    · refine q_iconst cx dX10_wakesAfter_31 ?_
      refine lv_goto (tgt := 36) cx.1 cx.2.1 dX10_wakesAfter_32 (by decide) ?_
      exact J36 1 (by decide) (by decide) H locs hB ls (lv_sub hl [] rfl)
set_option maxHeartbeats 4000000 in
set_option maxRecDepth 100000 in
theorem g_X10_wakesAfter_2 (l : Launch) (g : q_G) {K : Nat → Nat} {L : List Nat} (hN : L.Nodup) {f : Nat → va_E} (hT : q_Ty g K L f) (v : Nat) (hv : v ∈ L) (kv : K v = 14) (p0 : Int) (lp0 : (-2147483648) ≤ p0) (up0 : p0 ≤ 2147483647) (p1 : Int) (lp1 : (-2147483648) ≤ p1) (up1 : p1 ≤ 2147483647) (p2 : Int) (lp2 : (-2147483648) ≤ p2) (up2 : p2 ≤ 2147483647) : q_Ct l g K L yX10_wakesAfter cX10_wakesAfter 4 (some .boolean) 2 46 [.ref v, .int (q_i p0), .int (q_i p1), .int (q_i p2)] f [] (q_Pi (fun (z : Int) (f1 : Nat → va_E) => f = f1 ∧ 0 ≤ z ∧ z ≤ 1)) := by
  refine q_ofb (by decide +kernel) hN hT (Nat.le_of_ble_eq_true rfl) ?_
  intro p e s m below meth c ls cx hr hlk hB hl
  have hl : lv_has ls 4 [(0, .ref v), (1, .int (q_i p0)), (2, .int (q_i p1)), (3, .int (q_i p2))] := hl
  have J36 : ∀ (t36_0 : Int) (lt36_0 : 0 ≤ t36_0) (ut36_0 : t36_0 ≤ 1) (H : Heap) (locs : List Loc) (hB : q_B g K L (fun q => q ∈ L) [] f f s H locs) (ls : Array Slot) (hl : lv_has ls 4 []), W p l e { frames := 2, cells := 0, slots := 0, locals := 46 } s m ([.ref v, .int (q_i p0), .int (q_i p1), .int (q_i p2)] : List Value).toArray below meth c H locs 0 0 (MQ below (q_Q g K L [] f (q_Pi (fun (z : Int) (f1 : Nat → va_E) => f = f1 ∧ 0 ≤ z ∧ z ≤ 1))) ([.ref v, .int (q_i p0), .int (q_i p1), .int (q_i p2)] : List Value).toArray s 0 0 (fun q => q ∈ L)) (F0 m 36 ls [.int (q_i t36_0)]) := by
    intro t36_0 lt36_0 ut36_0 H locs hB ls hl
    refine q_zret cx hr hlk hB dX10_wakesAfter_36 (by omega) (by omega) ?_
    exact ⟨rfl, (by omega), (by omega)⟩
  have J35 : ∀  (H : Heap) (locs : List Loc) (hB : q_B g K L (fun q => q ∈ L) [] f f s H locs) (ls : Array Slot) (hl : lv_has ls 4 []), W p l e { frames := 2, cells := 0, slots := 0, locals := 46 } s m ([.ref v, .int (q_i p0), .int (q_i p1), .int (q_i p2)] : List Value).toArray below meth c H locs 0 0 (MQ below (q_Q g K L [] f (q_Pi (fun (z : Int) (f1 : Nat → va_E) => f = f1 ∧ 0 ≤ z ∧ z ≤ 1))) ([.ref v, .int (q_i p0), .int (q_i p1), .int (q_i p2)] : List Value).toArray s 0 0 (fun q => q ∈ L)) (F0 m 35 ls []) := by
    intro  H locs hB ls hl
    refine q_iconst cx dX10_wakesAfter_35 ?_
    exact J36 0 (by decide) (by decide) H locs hB ls (lv_sub hl [] rfl)
  obtain ⟨H, hH⟩ : ∃ H : Heap, H = s.heap := ⟨_, rfl⟩
  obtain ⟨locs, hlocs⟩ : ∃ z : List Loc, z = [] := ⟨_, rfl⟩
  rw [← hH, ← hlocs] at hB
  rw [← hH, ← hlocs]
  refine q_ald_n cx dX10_wakesAfter_0 rfl (lv_at hl 0 rfl) ?_
  refine q_ild_n cx dX10_wakesAfter_1 rfl (lv_at hl 1 rfl) ?_
  refine q_cVi (As := [.int (q_i p0)]) (rest := []) cx hB (fun _ h => h) hN hv kv (by decide) rfl (g_X10_isOut_2 l g hN hB.2.1 v hv kv p0 (by omega) (by omega)) q_cX10_160 q_dX10_isOut (by decide) rfl rfl hl.1 rfl (Nat.le_of_ble_eq_true rfl) dX10_wakesAfter_2 (fun y20 H locs f19 ry20 h21 hF hB => ?_)
  obtain ⟨rfl, ly20, uy20⟩ := h21
  refine q_ifne (tgt := 35) cx ⟨by omega, by omega⟩ dX10_wakesAfter_5 (by decide) (fun c22 => ?_) (fun c22 => ?_)
  · exact J35  H locs hB ls (lv_sub hl [] rfl)
  · refine q_ald_n cx dX10_wakesAfter_8 rfl (lv_at hl 0 rfl) ?_
    refine q_ild_n cx dX10_wakesAfter_9 rfl (lv_at hl 1 rfl) ?_
    refine q_cVl (As := [.int (q_i p0)]) (rest := []) cx hB (fun _ h => h) hN hv kv (by decide) rfl (g_X10_tableOf_2 l g hN hB.2.1 v hv kv p0 (by omega) (by omega)) q_cX10_174 q_dX10_tableOf (by decide) rfl rfl hl.1 rfl (Nat.le_of_ble_eq_true rfl) dX10_wakesAfter_10 (fun y24 H locs f23 h25 hF hB => ?_)
    obtain rfl := h25
    refine q_ald_n cx dX10_wakesAfter_13 rfl (lv_at hl 0 rfl) ?_
    refine q_ald_n cx dX10_wakesAfter_14 rfl (lv_at hl 0 rfl) ?_
    obtain ⟨x26, ex26⟩ : ∃ zz, q_is (q_z f v 11) zz := ⟨_, q_isr _⟩
    refine q_gX10_60_14 cx hB hv kv ex26 dX10_wakesAfter_15 (fun lb27 ub27 => ?_)
    refine q_ild_n cx dX10_wakesAfter_18 rfl (lv_at hl 3 rfl) ?_
    refine q_iadd cx dX10_wakesAfter_19 ?_
    refine q_any (fun y28 ry28 ey28 => ?_)
    refine q_ild_n cx dX10_wakesAfter_20 rfl (lv_at hl 2 rfl) ?_
    refine q_iadd cx dX10_wakesAfter_21 ?_
    refine q_any (fun y29 ry29 ey29 => ?_)
    refine q_cVi (As := [.int (q_i y29)]) (rest := [.long y24]) cx hB (fun _ h => h) hN hv kv (by decide) rfl (g_X10_dayOfYear_2 l g hN hB.2.1 v hv kv y29 (by omega) (by omega)) q_cX10_156 q_dX10_dayOfYear (by decide) rfl rfl hl.1 rfl (Nat.le_of_ble_eq_true rfl) dX10_wakesAfter_22 (fun y31 H locs f30 ry31 h32 hF hB => ?_)
    obtain ⟨rfl, ly31, uy31⟩ := h32
    refine q_cSi (As := [.long y24, .int (q_i y31)]) (rest := []) cx hB (fun _ h => h) hN (g_X10_hasDay l g hN hB.2.1 y24 y31 (by omega) (by omega)) q_cX10_170 q_dX10_hasDay (by decide) rfl rfl hl.1 rfl (Nat.le_of_ble_eq_true rfl) dX10_wakesAfter_25 (fun y34 H locs f33 ry34 h35 hF hB => ?_)
    obtain ⟨rfl, ly34, uy34⟩ := h35
    refine q_ifeq (tgt := 35) cx ⟨by omega, by omega⟩ dX10_wakesAfter_28 (by decide) (fun c36 => ?_) (fun c36 => ?_)
    · exact J35  H locs hB ls (lv_sub hl [] rfl)
    · refine q_iconst cx dX10_wakesAfter_31 ?_
      refine lv_goto (tgt := 36) cx.1 cx.2.1 dX10_wakesAfter_32 (by decide) ?_
      exact J36 1 (by decide) (by decide) H locs hB ls (lv_sub hl [] rfl)
set_option maxHeartbeats 4000000 in
set_option maxRecDepth 100000 in
theorem g_X10_wakesAfter_3 (l : Launch) (g : q_G) {K : Nat → Nat} {L : List Nat} (hN : L.Nodup) {f : Nat → va_E} (hT : q_Ty g K L f) (v : Nat) (hv : v ∈ L) (kv : K v = 15) (p0 : Int) (lp0 : (-2147483648) ≤ p0) (up0 : p0 ≤ 2147483647) (p1 : Int) (lp1 : (-2147483648) ≤ p1) (up1 : p1 ≤ 2147483647) (p2 : Int) (lp2 : (-2147483648) ≤ p2) (up2 : p2 ≤ 2147483647) : q_Ct l g K L yX10_wakesAfter cX10_wakesAfter 4 (some .boolean) 2 46 [.ref v, .int (q_i p0), .int (q_i p1), .int (q_i p2)] f [] (q_Pi (fun (z : Int) (f1 : Nat → va_E) => f = f1 ∧ 0 ≤ z ∧ z ≤ 1)) := by
  refine q_ofb (by decide +kernel) hN hT (Nat.le_of_ble_eq_true rfl) ?_
  intro p e s m below meth c ls cx hr hlk hB hl
  have hl : lv_has ls 4 [(0, .ref v), (1, .int (q_i p0)), (2, .int (q_i p1)), (3, .int (q_i p2))] := hl
  have J36 : ∀ (t36_0 : Int) (lt36_0 : 0 ≤ t36_0) (ut36_0 : t36_0 ≤ 1) (H : Heap) (locs : List Loc) (hB : q_B g K L (fun q => q ∈ L) [] f f s H locs) (ls : Array Slot) (hl : lv_has ls 4 []), W p l e { frames := 2, cells := 0, slots := 0, locals := 46 } s m ([.ref v, .int (q_i p0), .int (q_i p1), .int (q_i p2)] : List Value).toArray below meth c H locs 0 0 (MQ below (q_Q g K L [] f (q_Pi (fun (z : Int) (f1 : Nat → va_E) => f = f1 ∧ 0 ≤ z ∧ z ≤ 1))) ([.ref v, .int (q_i p0), .int (q_i p1), .int (q_i p2)] : List Value).toArray s 0 0 (fun q => q ∈ L)) (F0 m 36 ls [.int (q_i t36_0)]) := by
    intro t36_0 lt36_0 ut36_0 H locs hB ls hl
    refine q_zret cx hr hlk hB dX10_wakesAfter_36 (by omega) (by omega) ?_
    exact ⟨rfl, (by omega), (by omega)⟩
  have J35 : ∀  (H : Heap) (locs : List Loc) (hB : q_B g K L (fun q => q ∈ L) [] f f s H locs) (ls : Array Slot) (hl : lv_has ls 4 []), W p l e { frames := 2, cells := 0, slots := 0, locals := 46 } s m ([.ref v, .int (q_i p0), .int (q_i p1), .int (q_i p2)] : List Value).toArray below meth c H locs 0 0 (MQ below (q_Q g K L [] f (q_Pi (fun (z : Int) (f1 : Nat → va_E) => f = f1 ∧ 0 ≤ z ∧ z ≤ 1))) ([.ref v, .int (q_i p0), .int (q_i p1), .int (q_i p2)] : List Value).toArray s 0 0 (fun q => q ∈ L)) (F0 m 35 ls []) := by
    intro  H locs hB ls hl
    refine q_iconst cx dX10_wakesAfter_35 ?_
    exact J36 0 (by decide) (by decide) H locs hB ls (lv_sub hl [] rfl)
  obtain ⟨H, hH⟩ : ∃ H : Heap, H = s.heap := ⟨_, rfl⟩
  obtain ⟨locs, hlocs⟩ : ∃ z : List Loc, z = [] := ⟨_, rfl⟩
  rw [← hH, ← hlocs] at hB
  rw [← hH, ← hlocs]
  refine q_ald_n cx dX10_wakesAfter_0 rfl (lv_at hl 0 rfl) ?_
  refine q_ild_n cx dX10_wakesAfter_1 rfl (lv_at hl 1 rfl) ?_
  refine q_cVi (As := [.int (q_i p0)]) (rest := []) cx hB (fun _ h => h) hN hv kv (by decide) rfl (g_X10_isOut_3 l g hN hB.2.1 v hv kv p0 (by omega) (by omega)) q_cX10_160 q_dX10_isOut (by decide) rfl rfl hl.1 rfl (Nat.le_of_ble_eq_true rfl) dX10_wakesAfter_2 (fun y20 H locs f19 ry20 h21 hF hB => ?_)
  obtain ⟨rfl, ly20, uy20⟩ := h21
  refine q_ifne (tgt := 35) cx ⟨by omega, by omega⟩ dX10_wakesAfter_5 (by decide) (fun c22 => ?_) (fun c22 => ?_)
  · exact J35  H locs hB ls (lv_sub hl [] rfl)
  · refine q_ald_n cx dX10_wakesAfter_8 rfl (lv_at hl 0 rfl) ?_
    refine q_ild_n cx dX10_wakesAfter_9 rfl (lv_at hl 1 rfl) ?_
    refine q_cVl (As := [.int (q_i p0)]) (rest := []) cx hB (fun _ h => h) hN hv kv (by decide) rfl (g_X10_tableOf_3 l g hN hB.2.1 v hv kv p0 (by omega) (by omega)) q_cX10_174 q_dX10_tableOf (by decide) rfl rfl hl.1 rfl (Nat.le_of_ble_eq_true rfl) dX10_wakesAfter_10 (fun y24 H locs f23 h25 hF hB => ?_)
    obtain rfl := h25
    refine q_ald_n cx dX10_wakesAfter_13 rfl (lv_at hl 0 rfl) ?_
    refine q_ald_n cx dX10_wakesAfter_14 rfl (lv_at hl 0 rfl) ?_
    obtain ⟨x26, ex26⟩ : ∃ zz, q_is (q_z f v 11) zz := ⟨_, q_isr _⟩
    refine q_gX10_60_15 cx hB hv kv ex26 dX10_wakesAfter_15 (fun lb27 ub27 => ?_)
    refine q_ild_n cx dX10_wakesAfter_18 rfl (lv_at hl 3 rfl) ?_
    refine q_iadd cx dX10_wakesAfter_19 ?_
    refine q_any (fun y28 ry28 ey28 => ?_)
    refine q_ild_n cx dX10_wakesAfter_20 rfl (lv_at hl 2 rfl) ?_
    refine q_iadd cx dX10_wakesAfter_21 ?_
    refine q_any (fun y29 ry29 ey29 => ?_)
    refine q_cVi (As := [.int (q_i y29)]) (rest := [.long y24]) cx hB (fun _ h => h) hN hv kv (by decide) rfl (g_X10_dayOfYear_3 l g hN hB.2.1 v hv kv y29 (by omega) (by omega)) q_cX10_156 q_dX10_dayOfYear (by decide) rfl rfl hl.1 rfl (Nat.le_of_ble_eq_true rfl) dX10_wakesAfter_22 (fun y31 H locs f30 ry31 h32 hF hB => ?_)
    obtain ⟨rfl, ly31, uy31⟩ := h32
    refine q_cSi (As := [.long y24, .int (q_i y31)]) (rest := []) cx hB (fun _ h => h) hN (g_X10_hasDay l g hN hB.2.1 y24 y31 (by omega) (by omega)) q_cX10_170 q_dX10_hasDay (by decide) rfl rfl hl.1 rfl (Nat.le_of_ble_eq_true rfl) dX10_wakesAfter_25 (fun y34 H locs f33 ry34 h35 hF hB => ?_)
    obtain ⟨rfl, ly34, uy34⟩ := h35
    refine q_ifeq (tgt := 35) cx ⟨by omega, by omega⟩ dX10_wakesAfter_28 (by decide) (fun c36 => ?_) (fun c36 => ?_)
    · exact J35  H locs hB ls (lv_sub hl [] rfl)
    · refine q_iconst cx dX10_wakesAfter_31 ?_
      refine lv_goto (tgt := 36) cx.1 cx.2.1 dX10_wakesAfter_32 (by decide) ?_
      exact J36 1 (by decide) (by decide) H locs hB ls (lv_sub hl [] rfl)
set_option maxHeartbeats 4000000 in
set_option maxRecDepth 100000 in
theorem g_X10_wakesAfter_4 (l : Launch) (g : q_G) {K : Nat → Nat} {L : List Nat} (hN : L.Nodup) {f : Nat → va_E} (hT : q_Ty g K L f) (v : Nat) (hv : v ∈ L) (kv : K v = 16) (p0 : Int) (lp0 : (-2147483648) ≤ p0) (up0 : p0 ≤ 2147483647) (p1 : Int) (lp1 : (-2147483648) ≤ p1) (up1 : p1 ≤ 2147483647) (p2 : Int) (lp2 : (-2147483648) ≤ p2) (up2 : p2 ≤ 2147483647) : q_Ct l g K L yX10_wakesAfter cX10_wakesAfter 4 (some .boolean) 2 46 [.ref v, .int (q_i p0), .int (q_i p1), .int (q_i p2)] f [] (q_Pi (fun (z : Int) (f1 : Nat → va_E) => f = f1 ∧ 0 ≤ z ∧ z ≤ 1)) := by
  refine q_ofb (by decide +kernel) hN hT (Nat.le_of_ble_eq_true rfl) ?_
  intro p e s m below meth c ls cx hr hlk hB hl
  have hl : lv_has ls 4 [(0, .ref v), (1, .int (q_i p0)), (2, .int (q_i p1)), (3, .int (q_i p2))] := hl
  have J36 : ∀ (t36_0 : Int) (lt36_0 : 0 ≤ t36_0) (ut36_0 : t36_0 ≤ 1) (H : Heap) (locs : List Loc) (hB : q_B g K L (fun q => q ∈ L) [] f f s H locs) (ls : Array Slot) (hl : lv_has ls 4 []), W p l e { frames := 2, cells := 0, slots := 0, locals := 46 } s m ([.ref v, .int (q_i p0), .int (q_i p1), .int (q_i p2)] : List Value).toArray below meth c H locs 0 0 (MQ below (q_Q g K L [] f (q_Pi (fun (z : Int) (f1 : Nat → va_E) => f = f1 ∧ 0 ≤ z ∧ z ≤ 1))) ([.ref v, .int (q_i p0), .int (q_i p1), .int (q_i p2)] : List Value).toArray s 0 0 (fun q => q ∈ L)) (F0 m 36 ls [.int (q_i t36_0)]) := by
    intro t36_0 lt36_0 ut36_0 H locs hB ls hl
    refine q_zret cx hr hlk hB dX10_wakesAfter_36 (by omega) (by omega) ?_
    exact ⟨rfl, (by omega), (by omega)⟩
  have J35 : ∀  (H : Heap) (locs : List Loc) (hB : q_B g K L (fun q => q ∈ L) [] f f s H locs) (ls : Array Slot) (hl : lv_has ls 4 []), W p l e { frames := 2, cells := 0, slots := 0, locals := 46 } s m ([.ref v, .int (q_i p0), .int (q_i p1), .int (q_i p2)] : List Value).toArray below meth c H locs 0 0 (MQ below (q_Q g K L [] f (q_Pi (fun (z : Int) (f1 : Nat → va_E) => f = f1 ∧ 0 ≤ z ∧ z ≤ 1))) ([.ref v, .int (q_i p0), .int (q_i p1), .int (q_i p2)] : List Value).toArray s 0 0 (fun q => q ∈ L)) (F0 m 35 ls []) := by
    intro  H locs hB ls hl
    refine q_iconst cx dX10_wakesAfter_35 ?_
    exact J36 0 (by decide) (by decide) H locs hB ls (lv_sub hl [] rfl)
  obtain ⟨H, hH⟩ : ∃ H : Heap, H = s.heap := ⟨_, rfl⟩
  obtain ⟨locs, hlocs⟩ : ∃ z : List Loc, z = [] := ⟨_, rfl⟩
  rw [← hH, ← hlocs] at hB
  rw [← hH, ← hlocs]
  refine q_ald_n cx dX10_wakesAfter_0 rfl (lv_at hl 0 rfl) ?_
  refine q_ild_n cx dX10_wakesAfter_1 rfl (lv_at hl 1 rfl) ?_
  refine q_cVi (As := [.int (q_i p0)]) (rest := []) cx hB (fun _ h => h) hN hv kv (by decide) rfl (g_X10_isOut_4 l g hN hB.2.1 v hv kv p0 (by omega) (by omega)) q_cX10_160 q_dX10_isOut (by decide) rfl rfl hl.1 rfl (Nat.le_of_ble_eq_true rfl) dX10_wakesAfter_2 (fun y20 H locs f19 ry20 h21 hF hB => ?_)
  obtain ⟨rfl, ly20, uy20⟩ := h21
  refine q_ifne (tgt := 35) cx ⟨by omega, by omega⟩ dX10_wakesAfter_5 (by decide) (fun c22 => ?_) (fun c22 => ?_)
  · exact J35  H locs hB ls (lv_sub hl [] rfl)
  · refine q_ald_n cx dX10_wakesAfter_8 rfl (lv_at hl 0 rfl) ?_
    refine q_ild_n cx dX10_wakesAfter_9 rfl (lv_at hl 1 rfl) ?_
    refine q_cVl (As := [.int (q_i p0)]) (rest := []) cx hB (fun _ h => h) hN hv kv (by decide) rfl (g_X10_tableOf_4 l g hN hB.2.1 v hv kv p0 (by omega) (by omega)) q_cX10_174 q_dX10_tableOf (by decide) rfl rfl hl.1 rfl (Nat.le_of_ble_eq_true rfl) dX10_wakesAfter_10 (fun y24 H locs f23 h25 hF hB => ?_)
    obtain rfl := h25
    refine q_ald_n cx dX10_wakesAfter_13 rfl (lv_at hl 0 rfl) ?_
    refine q_ald_n cx dX10_wakesAfter_14 rfl (lv_at hl 0 rfl) ?_
    obtain ⟨x26, ex26⟩ : ∃ zz, q_is (q_z f v 11) zz := ⟨_, q_isr _⟩
    refine q_gX10_60_16 cx hB hv kv ex26 dX10_wakesAfter_15 (fun lb27 ub27 => ?_)
    refine q_ild_n cx dX10_wakesAfter_18 rfl (lv_at hl 3 rfl) ?_
    refine q_iadd cx dX10_wakesAfter_19 ?_
    refine q_any (fun y28 ry28 ey28 => ?_)
    refine q_ild_n cx dX10_wakesAfter_20 rfl (lv_at hl 2 rfl) ?_
    refine q_iadd cx dX10_wakesAfter_21 ?_
    refine q_any (fun y29 ry29 ey29 => ?_)
    refine q_cVi (As := [.int (q_i y29)]) (rest := [.long y24]) cx hB (fun _ h => h) hN hv kv (by decide) rfl (g_X10_dayOfYear_4 l g hN hB.2.1 v hv kv y29 (by omega) (by omega)) q_cX10_156 q_dX10_dayOfYear (by decide) rfl rfl hl.1 rfl (Nat.le_of_ble_eq_true rfl) dX10_wakesAfter_22 (fun y31 H locs f30 ry31 h32 hF hB => ?_)
    obtain ⟨rfl, ly31, uy31⟩ := h32
    refine q_cSi (As := [.long y24, .int (q_i y31)]) (rest := []) cx hB (fun _ h => h) hN (g_X10_hasDay l g hN hB.2.1 y24 y31 (by omega) (by omega)) q_cX10_170 q_dX10_hasDay (by decide) rfl rfl hl.1 rfl (Nat.le_of_ble_eq_true rfl) dX10_wakesAfter_25 (fun y34 H locs f33 ry34 h35 hF hB => ?_)
    obtain ⟨rfl, ly34, uy34⟩ := h35
    refine q_ifeq (tgt := 35) cx ⟨by omega, by omega⟩ dX10_wakesAfter_28 (by decide) (fun c36 => ?_) (fun c36 => ?_)
    · exact J35  H locs hB ls (lv_sub hl [] rfl)
    · refine q_iconst cx dX10_wakesAfter_31 ?_
      refine lv_goto (tgt := 36) cx.1 cx.2.1 dX10_wakesAfter_32 (by decide) ?_
      exact J36 1 (by decide) (by decide) H locs hB ls (lv_sub hl [] rfl)
set_option maxHeartbeats 4000000 in
set_option maxRecDepth 100000 in
theorem g_X10_awakeAfter (l : Launch) (g : q_G) {K : Nat → Nat} {L : List Nat} (hN : L.Nodup) {f : Nat → va_E} (hT : q_Ty g K L f) (v : Nat) (hv : v ∈ L) (kv : K v = 10) (p0 : Int) (lp0 : (-2147483648) ≤ p0) (up0 : p0 ≤ 2147483647) : q_Ct l g K L yX10_awakeAfter cX10_awakeAfter 4 (some .int) 3 69 [.ref v, .int (q_i p0)] f [] (q_Pi (fun (z : Int) (f1 : Nat → va_E) => f = f1)) := by
  refine q_ofb (by decide +kernel) hN hT (Nat.le_of_ble_eq_true rfl) ?_
  intro p e s m below meth c ls cx hr hlk hB hl
  have hl : lv_has ls 4 [(0, .ref v), (1, .int (q_i p0))] := hl
  have J4 : ∀ (n : Nat) (v4_2 : Int) (lv4_2 : (-2147483648) ≤ v4_2) (uv4_2 : v4_2 ≤ 2147483647) (v4_3 : Int) (lv4_3 : 0 ≤ v4_3) (uv4_3 : v4_3 ≤ 10) (hmu : (Int.toNat (2147483647 - v4_3)) < n) (H : Heap) (locs : List Loc) (hB : q_B g K L (fun q => q ∈ L) [] f f s H locs) (ls : Array Slot) (hl : lv_has ls 4 [(0, .ref v), (1, .int (q_i p0)), (2, .int (q_i v4_2)), (3, .int (q_i v4_3))]), W p l e { frames := 3, cells := 0, slots := 0, locals := 69 } s m ([.ref v, .int (q_i p0)] : List Value).toArray below meth c H locs 0 0 (MQ below (q_Q g K L [] f (q_Pi (fun (z : Int) (f1 : Nat → va_E) => f = f1))) ([.ref v, .int (q_i p0)] : List Value).toArray s 0 0 (fun q => q ∈ L)) (F0 m 4 ls []) := by
    intro n
    induction n with
    | zero =>
      intro v4_2 lv4_2 uv4_2 v4_3 lv4_3 uv4_3 hmu
      exact absurd hmu (Nat.not_lt_zero _)
    | succ n ih4 =>
      intro v4_2 lv4_2 uv4_2 v4_3 lv4_3 uv4_3 hmu H locs hB ls hl
      have J35 : ∀ (v35_2 : Int) (lv35_2 : (-2147483648) ≤ v35_2) (uv35_2 : v35_2 ≤ 2147483647) (buv4_3 : v4_3 ≤ 9) (H : Heap) (locs : List Loc) (hB : q_B g K L (fun q => q ∈ L) [] f f s H locs) (ls : Array Slot) (hl : lv_has ls 4 [(0, .ref v), (1, .int (q_i p0)), (2, .int (q_i v35_2)), (3, .int (q_i v4_3))]), W p l e { frames := 3, cells := 0, slots := 0, locals := 69 } s m ([.ref v, .int (q_i p0)] : List Value).toArray below meth c H locs 0 0 (MQ below (q_Q g K L [] f (q_Pi (fun (z : Int) (f1 : Nat → va_E) => f = f1))) ([.ref v, .int (q_i p0)] : List Value).toArray s 0 0 (fun q => q ∈ L)) (F0 m 35 ls []) := by
        intro v35_2 lv35_2 uv35_2 buv4_3 H locs hB ls hl
        refine q_iinc (lv' := [(3, .int (q_i (v4_3 + 1))), (0, .ref v), (1, .int (q_i p0)), (2, .int (q_i v35_2))]) cx dX10_awakeAfter_35 hl (k := 3) rfl (by decide) rfl (fun ls hl => ?_)
        refine lv_goto (tgt := 4) cx.1 cx.2.1 dX10_awakeAfter_38 (by decide) ?_
        exact ih4 v35_2 (by omega) (by omega) (v4_3 + 1) (by omega) (by omega) (by omega) H locs hB ls (lv_sub hl [1, 2, 3, 0] rfl)
      refine q_ild_n cx dX10_awakeAfter_4 rfl (lv_at hl 3 rfl) ?_
      refine q_ald_n cx dX10_awakeAfter_5 rfl (lv_at hl 0 rfl) ?_
      obtain ⟨x141, ex141⟩ : ∃ zz, q_is (q_z f v 3) zz := ⟨_, q_isr _⟩
      refine q_gX10_35 cx hB hv kv ex141 dX10_awakeAfter_6 (fun lb142 ub142 => ?_)
      refine q_icge (tgt := 41) cx ⟨by omega, by omega⟩ ⟨by omega, by omega⟩ dX10_awakeAfter_9 (by decide) (fun c143 => ?_) (fun c143 => ?_)
      · refine q_ild_n cx dX10_awakeAfter_41 rfl (lv_at hl 2 rfl) ?_
        refine q_iret cx hr hlk hB dX10_awakeAfter_42 ⟨by omega, by omega⟩ ?_
        exact rfl
      · refine q_ald_n cx dX10_awakeAfter_12 rfl (lv_at hl 0 rfl) ?_
        refine q_ild_n cx dX10_awakeAfter_13 rfl (lv_at hl 3 rfl) ?_
        refine q_ald_n cx dX10_awakeAfter_14 rfl (lv_at hl 0 rfl) ?_
        refine q_ild_n cx dX10_awakeAfter_15 rfl (lv_at hl 3 rfl) ?_
        refine q_cVr (As := [.int (q_i v4_3)]) (rest := [.int (q_i v4_3), .ref v]) cx hB (fun _ h => h) hN hv kv (by decide) rfl (g_X10_nodeAt l g hN hB.2.1 v hv kv v4_3 (by omega) (by omega)) q_cX10_66 q_dX10_nodeAt (by decide) rfl rfl hl.1 rfl (Nat.le_of_ble_eq_true rfl) dX10_awakeAfter_16 (fun y145 H locs f144 h146 hF hB => ?_)
        obtain ⟨rfl, hy145, ky145⟩ := h146
        obtain ⟨x147, ex147⟩ : ∃ zz, q_is (q_z f y145 3) zz := ⟨_, q_isr _⟩
        refine q_gX10_98 cx hB hy145 ky145 ex147 dX10_awakeAfter_19 (fun lb148 ub148 => ?_)
        refine q_ild_n cx dX10_awakeAfter_22 rfl (lv_at hl 1 rfl) ?_
        refine q_cVi (As := [.int (q_i v4_3), .int (q_i x147), .int (q_i p0)]) (rest := []) cx hB (fun _ h => h) hN hv kv (by decide) rfl (g_X10_wakesAfter l g hN hB.2.1 v hv kv v4_3 (by omega) (by omega) x147 (by omega) (by omega) p0 (by omega) (by omega)) q_cX10_214 q_dX10_wakesAfter (by decide) rfl rfl hl.1 rfl (Nat.le_of_ble_eq_true rfl) dX10_awakeAfter_23 (fun y150 H locs f149 ry150 h151 hF hB => ?_)
        obtain ⟨rfl, ly150, uy150⟩ := h151
        refine q_ifeq (tgt := 35) cx ⟨by omega, by omega⟩ dX10_awakeAfter_26 (by decide) (fun c152 => ?_) (fun c152 => ?_)
        · exact J35 v4_2 (by omega) (by omega) (by omega) H locs hB ls (lv_sub hl [0, 1, 2, 3] rfl)
        · refine q_ild_n cx dX10_awakeAfter_29 rfl (lv_at hl 2 rfl) ?_
          refine q_iconst cx dX10_awakeAfter_30 ?_
          refine q_ild_n cx dX10_awakeAfter_31 rfl (lv_at hl 3 rfl) ?_
          refine q_ishl cx dX10_awakeAfter_32 (fun y153 ry153 ey153 => ?_)
          refine q_ior cx dX10_awakeAfter_33 (fun y154 ry154 ey154 => ?_)
          refine lv_istore_n (lv' := [(2, .int (q_i y154)), (0, .ref v), (1, .int (q_i p0)), (3, .int (q_i v4_3))]) cx.1 cx.2.1 dX10_awakeAfter_34 rfl hl (by decide) rfl (fun ls hl => ?_)
          exact J35 y154 (by omega) (by omega) (by omega) H locs hB ls (lv_sub hl [1, 2, 0, 3] rfl)
  obtain ⟨H, hH⟩ : ∃ H : Heap, H = s.heap := ⟨_, rfl⟩
  obtain ⟨locs, hlocs⟩ : ∃ z : List Loc, z = [] := ⟨_, rfl⟩
  rw [← hH, ← hlocs] at hB
  rw [← hH, ← hlocs]
  refine q_iconst cx dX10_awakeAfter_0 ?_
  refine lv_istore_n (lv' := [(2, .int (q_i 0)), (0, .ref v), (1, .int (q_i p0))]) cx.1 cx.2.1 dX10_awakeAfter_1 rfl hl (by decide) rfl (fun ls hl => ?_)
  refine q_iconst cx dX10_awakeAfter_2 ?_
  refine lv_istore_n (lv' := [(3, .int (q_i 0)), (2, .int (q_i 0)), (0, .ref v), (1, .int (q_i p0))]) cx.1 cx.2.1 dX10_awakeAfter_3 rfl hl (by decide) rfl (fun ls hl => ?_)
  exact J4 ((Int.toNat (2147483647 - 0)) + 1) 0 (by decide) (by decide) 0 (by decide) (by decide) (Nat.lt_succ_self _) H locs hB ls (lv_sub hl [2, 3, 1, 0] rfl)
set_option maxHeartbeats 4000000 in
set_option maxRecDepth 100000 in
theorem g_X10_awakeAfter_1 (l : Launch) (g : q_G) {K : Nat → Nat} {L : List Nat} (hN : L.Nodup) {f : Nat → va_E} (hT : q_Ty g K L f) (v : Nat) (hv : v ∈ L) (kv : K v = 13) (p0 : Int) (lp0 : (-2147483648) ≤ p0) (up0 : p0 ≤ 2147483647) : q_Ct l g K L yX10_awakeAfter cX10_awakeAfter 4 (some .int) 3 69 [.ref v, .int (q_i p0)] f [] (q_Pi (fun (z : Int) (f1 : Nat → va_E) => f = f1)) := by
  refine q_ofb (by decide +kernel) hN hT (Nat.le_of_ble_eq_true rfl) ?_
  intro p e s m below meth c ls cx hr hlk hB hl
  have hl : lv_has ls 4 [(0, .ref v), (1, .int (q_i p0))] := hl
  have J4 : ∀ (n : Nat) (v4_2 : Int) (lv4_2 : (-2147483648) ≤ v4_2) (uv4_2 : v4_2 ≤ 2147483647) (v4_3 : Int) (lv4_3 : 0 ≤ v4_3) (uv4_3 : v4_3 ≤ 10) (hmu : (Int.toNat (2147483647 - v4_3)) < n) (H : Heap) (locs : List Loc) (hB : q_B g K L (fun q => q ∈ L) [] f f s H locs) (ls : Array Slot) (hl : lv_has ls 4 [(0, .ref v), (1, .int (q_i p0)), (2, .int (q_i v4_2)), (3, .int (q_i v4_3))]), W p l e { frames := 3, cells := 0, slots := 0, locals := 69 } s m ([.ref v, .int (q_i p0)] : List Value).toArray below meth c H locs 0 0 (MQ below (q_Q g K L [] f (q_Pi (fun (z : Int) (f1 : Nat → va_E) => f = f1))) ([.ref v, .int (q_i p0)] : List Value).toArray s 0 0 (fun q => q ∈ L)) (F0 m 4 ls []) := by
    intro n
    induction n with
    | zero =>
      intro v4_2 lv4_2 uv4_2 v4_3 lv4_3 uv4_3 hmu
      exact absurd hmu (Nat.not_lt_zero _)
    | succ n ih4 =>
      intro v4_2 lv4_2 uv4_2 v4_3 lv4_3 uv4_3 hmu H locs hB ls hl
      have J35 : ∀ (v35_2 : Int) (lv35_2 : (-2147483648) ≤ v35_2) (uv35_2 : v35_2 ≤ 2147483647) (buv4_3 : v4_3 ≤ 9) (H : Heap) (locs : List Loc) (hB : q_B g K L (fun q => q ∈ L) [] f f s H locs) (ls : Array Slot) (hl : lv_has ls 4 [(0, .ref v), (1, .int (q_i p0)), (2, .int (q_i v35_2)), (3, .int (q_i v4_3))]), W p l e { frames := 3, cells := 0, slots := 0, locals := 69 } s m ([.ref v, .int (q_i p0)] : List Value).toArray below meth c H locs 0 0 (MQ below (q_Q g K L [] f (q_Pi (fun (z : Int) (f1 : Nat → va_E) => f = f1))) ([.ref v, .int (q_i p0)] : List Value).toArray s 0 0 (fun q => q ∈ L)) (F0 m 35 ls []) := by
        intro v35_2 lv35_2 uv35_2 buv4_3 H locs hB ls hl
        refine q_iinc (lv' := [(3, .int (q_i (v4_3 + 1))), (0, .ref v), (1, .int (q_i p0)), (2, .int (q_i v35_2))]) cx dX10_awakeAfter_35 hl (k := 3) rfl (by decide) rfl (fun ls hl => ?_)
        refine lv_goto (tgt := 4) cx.1 cx.2.1 dX10_awakeAfter_38 (by decide) ?_
        exact ih4 v35_2 (by omega) (by omega) (v4_3 + 1) (by omega) (by omega) (by omega) H locs hB ls (lv_sub hl [1, 2, 3, 0] rfl)
      refine q_ild_n cx dX10_awakeAfter_4 rfl (lv_at hl 3 rfl) ?_
      refine q_ald_n cx dX10_awakeAfter_5 rfl (lv_at hl 0 rfl) ?_
      obtain ⟨x141, ex141⟩ : ∃ zz, q_is (q_z f v 3) zz := ⟨_, q_isr _⟩
      refine q_gX10_35_13 cx hB hv kv ex141 dX10_awakeAfter_6 (fun lb142 ub142 => ?_)
      refine q_icge (tgt := 41) cx ⟨by omega, by omega⟩ ⟨by omega, by omega⟩ dX10_awakeAfter_9 (by decide) (fun c143 => ?_) (fun c143 => ?_)
      · refine q_ild_n cx dX10_awakeAfter_41 rfl (lv_at hl 2 rfl) ?_
        refine q_iret cx hr hlk hB dX10_awakeAfter_42 ⟨by omega, by omega⟩ ?_
        exact rfl
      · refine q_ald_n cx dX10_awakeAfter_12 rfl (lv_at hl 0 rfl) ?_
        refine q_ild_n cx dX10_awakeAfter_13 rfl (lv_at hl 3 rfl) ?_
        refine q_ald_n cx dX10_awakeAfter_14 rfl (lv_at hl 0 rfl) ?_
        refine q_ild_n cx dX10_awakeAfter_15 rfl (lv_at hl 3 rfl) ?_
        refine q_cVr (As := [.int (q_i v4_3)]) (rest := [.int (q_i v4_3), .ref v]) cx hB (fun _ h => h) hN hv kv (by decide) rfl (g_X10_nodeAt_1 l g hN hB.2.1 v hv kv v4_3 (by omega) (by omega)) q_cX10_66 q_dX10_nodeAt (by decide) rfl rfl hl.1 rfl (Nat.le_of_ble_eq_true rfl) dX10_awakeAfter_16 (fun y145 H locs f144 h146 hF hB => ?_)
        obtain ⟨rfl, hy145, ky145⟩ := h146
        obtain ⟨x147, ex147⟩ : ∃ zz, q_is (q_z f y145 3) zz := ⟨_, q_isr _⟩
        refine q_gX10_98_17 cx hB hy145 ky145 ex147 dX10_awakeAfter_19 (fun lb148 ub148 => ?_)
        refine q_ild_n cx dX10_awakeAfter_22 rfl (lv_at hl 1 rfl) ?_
        refine q_cVi (As := [.int (q_i v4_3), .int (q_i x147), .int (q_i p0)]) (rest := []) cx hB (fun _ h => h) hN hv kv (by decide) rfl (g_X10_wakesAfter_1 l g hN hB.2.1 v hv kv v4_3 (by omega) (by omega) x147 (by omega) (by omega) p0 (by omega) (by omega)) q_cX10_214 q_dX10_wakesAfter (by decide) rfl rfl hl.1 rfl (Nat.le_of_ble_eq_true rfl) dX10_awakeAfter_23 (fun y150 H locs f149 ry150 h151 hF hB => ?_)
        obtain ⟨rfl, ly150, uy150⟩ := h151
        refine q_ifeq (tgt := 35) cx ⟨by omega, by omega⟩ dX10_awakeAfter_26 (by decide) (fun c152 => ?_) (fun c152 => ?_)
        · exact J35 v4_2 (by omega) (by omega) (by omega) H locs hB ls (lv_sub hl [0, 1, 2, 3] rfl)
        · refine q_ild_n cx dX10_awakeAfter_29 rfl (lv_at hl 2 rfl) ?_
          refine q_iconst cx dX10_awakeAfter_30 ?_
          refine q_ild_n cx dX10_awakeAfter_31 rfl (lv_at hl 3 rfl) ?_
          refine q_ishl cx dX10_awakeAfter_32 (fun y153 ry153 ey153 => ?_)
          refine q_ior cx dX10_awakeAfter_33 (fun y154 ry154 ey154 => ?_)
          refine lv_istore_n (lv' := [(2, .int (q_i y154)), (0, .ref v), (1, .int (q_i p0)), (3, .int (q_i v4_3))]) cx.1 cx.2.1 dX10_awakeAfter_34 rfl hl (by decide) rfl (fun ls hl => ?_)
          exact J35 y154 (by omega) (by omega) (by omega) H locs hB ls (lv_sub hl [1, 2, 0, 3] rfl)
  obtain ⟨H, hH⟩ : ∃ H : Heap, H = s.heap := ⟨_, rfl⟩
  obtain ⟨locs, hlocs⟩ : ∃ z : List Loc, z = [] := ⟨_, rfl⟩
  rw [← hH, ← hlocs] at hB
  rw [← hH, ← hlocs]
  refine q_iconst cx dX10_awakeAfter_0 ?_
  refine lv_istore_n (lv' := [(2, .int (q_i 0)), (0, .ref v), (1, .int (q_i p0))]) cx.1 cx.2.1 dX10_awakeAfter_1 rfl hl (by decide) rfl (fun ls hl => ?_)
  refine q_iconst cx dX10_awakeAfter_2 ?_
  refine lv_istore_n (lv' := [(3, .int (q_i 0)), (2, .int (q_i 0)), (0, .ref v), (1, .int (q_i p0))]) cx.1 cx.2.1 dX10_awakeAfter_3 rfl hl (by decide) rfl (fun ls hl => ?_)
  exact J4 ((Int.toNat (2147483647 - 0)) + 1) 0 (by decide) (by decide) 0 (by decide) (by decide) (Nat.lt_succ_self _) H locs hB ls (lv_sub hl [2, 3, 1, 0] rfl)
set_option maxHeartbeats 4000000 in
set_option maxRecDepth 100000 in
theorem g_X10_awakeAfter_2 (l : Launch) (g : q_G) {K : Nat → Nat} {L : List Nat} (hN : L.Nodup) {f : Nat → va_E} (hT : q_Ty g K L f) (v : Nat) (hv : v ∈ L) (kv : K v = 14) (p0 : Int) (lp0 : (-2147483648) ≤ p0) (up0 : p0 ≤ 2147483647) : q_Ct l g K L yX10_awakeAfter cX10_awakeAfter 4 (some .int) 3 69 [.ref v, .int (q_i p0)] f [] (q_Pi (fun (z : Int) (f1 : Nat → va_E) => f = f1)) := by
  refine q_ofb (by decide +kernel) hN hT (Nat.le_of_ble_eq_true rfl) ?_
  intro p e s m below meth c ls cx hr hlk hB hl
  have hl : lv_has ls 4 [(0, .ref v), (1, .int (q_i p0))] := hl
  have J4 : ∀ (n : Nat) (v4_2 : Int) (lv4_2 : (-2147483648) ≤ v4_2) (uv4_2 : v4_2 ≤ 2147483647) (v4_3 : Int) (lv4_3 : 0 ≤ v4_3) (uv4_3 : v4_3 ≤ 10) (hmu : (Int.toNat (2147483647 - v4_3)) < n) (H : Heap) (locs : List Loc) (hB : q_B g K L (fun q => q ∈ L) [] f f s H locs) (ls : Array Slot) (hl : lv_has ls 4 [(0, .ref v), (1, .int (q_i p0)), (2, .int (q_i v4_2)), (3, .int (q_i v4_3))]), W p l e { frames := 3, cells := 0, slots := 0, locals := 69 } s m ([.ref v, .int (q_i p0)] : List Value).toArray below meth c H locs 0 0 (MQ below (q_Q g K L [] f (q_Pi (fun (z : Int) (f1 : Nat → va_E) => f = f1))) ([.ref v, .int (q_i p0)] : List Value).toArray s 0 0 (fun q => q ∈ L)) (F0 m 4 ls []) := by
    intro n
    induction n with
    | zero =>
      intro v4_2 lv4_2 uv4_2 v4_3 lv4_3 uv4_3 hmu
      exact absurd hmu (Nat.not_lt_zero _)
    | succ n ih4 =>
      intro v4_2 lv4_2 uv4_2 v4_3 lv4_3 uv4_3 hmu H locs hB ls hl
      have J35 : ∀ (v35_2 : Int) (lv35_2 : (-2147483648) ≤ v35_2) (uv35_2 : v35_2 ≤ 2147483647) (buv4_3 : v4_3 ≤ 9) (H : Heap) (locs : List Loc) (hB : q_B g K L (fun q => q ∈ L) [] f f s H locs) (ls : Array Slot) (hl : lv_has ls 4 [(0, .ref v), (1, .int (q_i p0)), (2, .int (q_i v35_2)), (3, .int (q_i v4_3))]), W p l e { frames := 3, cells := 0, slots := 0, locals := 69 } s m ([.ref v, .int (q_i p0)] : List Value).toArray below meth c H locs 0 0 (MQ below (q_Q g K L [] f (q_Pi (fun (z : Int) (f1 : Nat → va_E) => f = f1))) ([.ref v, .int (q_i p0)] : List Value).toArray s 0 0 (fun q => q ∈ L)) (F0 m 35 ls []) := by
        intro v35_2 lv35_2 uv35_2 buv4_3 H locs hB ls hl
        refine q_iinc (lv' := [(3, .int (q_i (v4_3 + 1))), (0, .ref v), (1, .int (q_i p0)), (2, .int (q_i v35_2))]) cx dX10_awakeAfter_35 hl (k := 3) rfl (by decide) rfl (fun ls hl => ?_)
        refine lv_goto (tgt := 4) cx.1 cx.2.1 dX10_awakeAfter_38 (by decide) ?_
        exact ih4 v35_2 (by omega) (by omega) (v4_3 + 1) (by omega) (by omega) (by omega) H locs hB ls (lv_sub hl [1, 2, 3, 0] rfl)
      refine q_ild_n cx dX10_awakeAfter_4 rfl (lv_at hl 3 rfl) ?_
      refine q_ald_n cx dX10_awakeAfter_5 rfl (lv_at hl 0 rfl) ?_
      obtain ⟨x141, ex141⟩ : ∃ zz, q_is (q_z f v 3) zz := ⟨_, q_isr _⟩
      refine q_gX10_35_14 cx hB hv kv ex141 dX10_awakeAfter_6 (fun lb142 ub142 => ?_)
      refine q_icge (tgt := 41) cx ⟨by omega, by omega⟩ ⟨by omega, by omega⟩ dX10_awakeAfter_9 (by decide) (fun c143 => ?_) (fun c143 => ?_)
      · refine q_ild_n cx dX10_awakeAfter_41 rfl (lv_at hl 2 rfl) ?_
        refine q_iret cx hr hlk hB dX10_awakeAfter_42 ⟨by omega, by omega⟩ ?_
        exact rfl
      · refine q_ald_n cx dX10_awakeAfter_12 rfl (lv_at hl 0 rfl) ?_
        refine q_ild_n cx dX10_awakeAfter_13 rfl (lv_at hl 3 rfl) ?_
        refine q_ald_n cx dX10_awakeAfter_14 rfl (lv_at hl 0 rfl) ?_
        refine q_ild_n cx dX10_awakeAfter_15 rfl (lv_at hl 3 rfl) ?_
        refine q_cVr (As := [.int (q_i v4_3)]) (rest := [.int (q_i v4_3), .ref v]) cx hB (fun _ h => h) hN hv kv (by decide) rfl (g_X10_nodeAt_2 l g hN hB.2.1 v hv kv v4_3 (by omega) (by omega)) q_cX10_66 q_dX10_nodeAt (by decide) rfl rfl hl.1 rfl (Nat.le_of_ble_eq_true rfl) dX10_awakeAfter_16 (fun y145 H locs f144 h146 hF hB => ?_)
        obtain ⟨rfl, hy145, ky145⟩ := h146
        obtain ⟨x147, ex147⟩ : ∃ zz, q_is (q_z f y145 3) zz := ⟨_, q_isr _⟩
        refine q_gX10_98_18 cx hB hy145 ky145 ex147 dX10_awakeAfter_19 (fun lb148 ub148 => ?_)
        refine q_ild_n cx dX10_awakeAfter_22 rfl (lv_at hl 1 rfl) ?_
        refine q_cVi (As := [.int (q_i v4_3), .int (q_i x147), .int (q_i p0)]) (rest := []) cx hB (fun _ h => h) hN hv kv (by decide) rfl (g_X10_wakesAfter_2 l g hN hB.2.1 v hv kv v4_3 (by omega) (by omega) x147 (by omega) (by omega) p0 (by omega) (by omega)) q_cX10_214 q_dX10_wakesAfter (by decide) rfl rfl hl.1 rfl (Nat.le_of_ble_eq_true rfl) dX10_awakeAfter_23 (fun y150 H locs f149 ry150 h151 hF hB => ?_)
        obtain ⟨rfl, ly150, uy150⟩ := h151
        refine q_ifeq (tgt := 35) cx ⟨by omega, by omega⟩ dX10_awakeAfter_26 (by decide) (fun c152 => ?_) (fun c152 => ?_)
        · exact J35 v4_2 (by omega) (by omega) (by omega) H locs hB ls (lv_sub hl [0, 1, 2, 3] rfl)
        · refine q_ild_n cx dX10_awakeAfter_29 rfl (lv_at hl 2 rfl) ?_
          refine q_iconst cx dX10_awakeAfter_30 ?_
          refine q_ild_n cx dX10_awakeAfter_31 rfl (lv_at hl 3 rfl) ?_
          refine q_ishl cx dX10_awakeAfter_32 (fun y153 ry153 ey153 => ?_)
          refine q_ior cx dX10_awakeAfter_33 (fun y154 ry154 ey154 => ?_)
          refine lv_istore_n (lv' := [(2, .int (q_i y154)), (0, .ref v), (1, .int (q_i p0)), (3, .int (q_i v4_3))]) cx.1 cx.2.1 dX10_awakeAfter_34 rfl hl (by decide) rfl (fun ls hl => ?_)
          exact J35 y154 (by omega) (by omega) (by omega) H locs hB ls (lv_sub hl [1, 2, 0, 3] rfl)
  obtain ⟨H, hH⟩ : ∃ H : Heap, H = s.heap := ⟨_, rfl⟩
  obtain ⟨locs, hlocs⟩ : ∃ z : List Loc, z = [] := ⟨_, rfl⟩
  rw [← hH, ← hlocs] at hB
  rw [← hH, ← hlocs]
  refine q_iconst cx dX10_awakeAfter_0 ?_
  refine lv_istore_n (lv' := [(2, .int (q_i 0)), (0, .ref v), (1, .int (q_i p0))]) cx.1 cx.2.1 dX10_awakeAfter_1 rfl hl (by decide) rfl (fun ls hl => ?_)
  refine q_iconst cx dX10_awakeAfter_2 ?_
  refine lv_istore_n (lv' := [(3, .int (q_i 0)), (2, .int (q_i 0)), (0, .ref v), (1, .int (q_i p0))]) cx.1 cx.2.1 dX10_awakeAfter_3 rfl hl (by decide) rfl (fun ls hl => ?_)
  exact J4 ((Int.toNat (2147483647 - 0)) + 1) 0 (by decide) (by decide) 0 (by decide) (by decide) (Nat.lt_succ_self _) H locs hB ls (lv_sub hl [2, 3, 1, 0] rfl)
set_option maxHeartbeats 4000000 in
set_option maxRecDepth 100000 in
theorem g_X10_awakeAfter_3 (l : Launch) (g : q_G) {K : Nat → Nat} {L : List Nat} (hN : L.Nodup) {f : Nat → va_E} (hT : q_Ty g K L f) (v : Nat) (hv : v ∈ L) (kv : K v = 15) (p0 : Int) (lp0 : (-2147483648) ≤ p0) (up0 : p0 ≤ 2147483647) : q_Ct l g K L yX10_awakeAfter cX10_awakeAfter 4 (some .int) 3 69 [.ref v, .int (q_i p0)] f [] (q_Pi (fun (z : Int) (f1 : Nat → va_E) => f = f1)) := by
  refine q_ofb (by decide +kernel) hN hT (Nat.le_of_ble_eq_true rfl) ?_
  intro p e s m below meth c ls cx hr hlk hB hl
  have hl : lv_has ls 4 [(0, .ref v), (1, .int (q_i p0))] := hl
  have J4 : ∀ (n : Nat) (v4_2 : Int) (lv4_2 : (-2147483648) ≤ v4_2) (uv4_2 : v4_2 ≤ 2147483647) (v4_3 : Int) (lv4_3 : 0 ≤ v4_3) (uv4_3 : v4_3 ≤ 10) (hmu : (Int.toNat (2147483647 - v4_3)) < n) (H : Heap) (locs : List Loc) (hB : q_B g K L (fun q => q ∈ L) [] f f s H locs) (ls : Array Slot) (hl : lv_has ls 4 [(0, .ref v), (1, .int (q_i p0)), (2, .int (q_i v4_2)), (3, .int (q_i v4_3))]), W p l e { frames := 3, cells := 0, slots := 0, locals := 69 } s m ([.ref v, .int (q_i p0)] : List Value).toArray below meth c H locs 0 0 (MQ below (q_Q g K L [] f (q_Pi (fun (z : Int) (f1 : Nat → va_E) => f = f1))) ([.ref v, .int (q_i p0)] : List Value).toArray s 0 0 (fun q => q ∈ L)) (F0 m 4 ls []) := by
    intro n
    induction n with
    | zero =>
      intro v4_2 lv4_2 uv4_2 v4_3 lv4_3 uv4_3 hmu
      exact absurd hmu (Nat.not_lt_zero _)
    | succ n ih4 =>
      intro v4_2 lv4_2 uv4_2 v4_3 lv4_3 uv4_3 hmu H locs hB ls hl
      have J35 : ∀ (v35_2 : Int) (lv35_2 : (-2147483648) ≤ v35_2) (uv35_2 : v35_2 ≤ 2147483647) (buv4_3 : v4_3 ≤ 9) (H : Heap) (locs : List Loc) (hB : q_B g K L (fun q => q ∈ L) [] f f s H locs) (ls : Array Slot) (hl : lv_has ls 4 [(0, .ref v), (1, .int (q_i p0)), (2, .int (q_i v35_2)), (3, .int (q_i v4_3))]), W p l e { frames := 3, cells := 0, slots := 0, locals := 69 } s m ([.ref v, .int (q_i p0)] : List Value).toArray below meth c H locs 0 0 (MQ below (q_Q g K L [] f (q_Pi (fun (z : Int) (f1 : Nat → va_E) => f = f1))) ([.ref v, .int (q_i p0)] : List Value).toArray s 0 0 (fun q => q ∈ L)) (F0 m 35 ls []) := by
        intro v35_2 lv35_2 uv35_2 buv4_3 H locs hB ls hl
        refine q_iinc (lv' := [(3, .int (q_i (v4_3 + 1))), (0, .ref v), (1, .int (q_i p0)), (2, .int (q_i v35_2))]) cx dX10_awakeAfter_35 hl (k := 3) rfl (by decide) rfl (fun ls hl => ?_)
        refine lv_goto (tgt := 4) cx.1 cx.2.1 dX10_awakeAfter_38 (by decide) ?_
        exact ih4 v35_2 (by omega) (by omega) (v4_3 + 1) (by omega) (by omega) (by omega) H locs hB ls (lv_sub hl [1, 2, 3, 0] rfl)
      refine q_ild_n cx dX10_awakeAfter_4 rfl (lv_at hl 3 rfl) ?_
      refine q_ald_n cx dX10_awakeAfter_5 rfl (lv_at hl 0 rfl) ?_
      obtain ⟨x141, ex141⟩ : ∃ zz, q_is (q_z f v 3) zz := ⟨_, q_isr _⟩
      refine q_gX10_35_15 cx hB hv kv ex141 dX10_awakeAfter_6 (fun lb142 ub142 => ?_)
      refine q_icge (tgt := 41) cx ⟨by omega, by omega⟩ ⟨by omega, by omega⟩ dX10_awakeAfter_9 (by decide) (fun c143 => ?_) (fun c143 => ?_)
      · refine q_ild_n cx dX10_awakeAfter_41 rfl (lv_at hl 2 rfl) ?_
        refine q_iret cx hr hlk hB dX10_awakeAfter_42 ⟨by omega, by omega⟩ ?_
        exact rfl
      · refine q_ald_n cx dX10_awakeAfter_12 rfl (lv_at hl 0 rfl) ?_
        refine q_ild_n cx dX10_awakeAfter_13 rfl (lv_at hl 3 rfl) ?_
        refine q_ald_n cx dX10_awakeAfter_14 rfl (lv_at hl 0 rfl) ?_
        refine q_ild_n cx dX10_awakeAfter_15 rfl (lv_at hl 3 rfl) ?_
        refine q_cVr (As := [.int (q_i v4_3)]) (rest := [.int (q_i v4_3), .ref v]) cx hB (fun _ h => h) hN hv kv (by decide) rfl (g_X10_nodeAt_3 l g hN hB.2.1 v hv kv v4_3 (by omega) (by omega)) q_cX10_66 q_dX10_nodeAt (by decide) rfl rfl hl.1 rfl (Nat.le_of_ble_eq_true rfl) dX10_awakeAfter_16 (fun y145 H locs f144 h146 hF hB => ?_)
        obtain ⟨rfl, hy145, ky145⟩ := h146
        obtain ⟨x147, ex147⟩ : ∃ zz, q_is (q_z f y145 3) zz := ⟨_, q_isr _⟩
        refine q_gX10_98_19 cx hB hy145 ky145 ex147 dX10_awakeAfter_19 (fun lb148 ub148 => ?_)
        refine q_ild_n cx dX10_awakeAfter_22 rfl (lv_at hl 1 rfl) ?_
        refine q_cVi (As := [.int (q_i v4_3), .int (q_i x147), .int (q_i p0)]) (rest := []) cx hB (fun _ h => h) hN hv kv (by decide) rfl (g_X10_wakesAfter_3 l g hN hB.2.1 v hv kv v4_3 (by omega) (by omega) x147 (by omega) (by omega) p0 (by omega) (by omega)) q_cX10_214 q_dX10_wakesAfter (by decide) rfl rfl hl.1 rfl (Nat.le_of_ble_eq_true rfl) dX10_awakeAfter_23 (fun y150 H locs f149 ry150 h151 hF hB => ?_)
        obtain ⟨rfl, ly150, uy150⟩ := h151
        refine q_ifeq (tgt := 35) cx ⟨by omega, by omega⟩ dX10_awakeAfter_26 (by decide) (fun c152 => ?_) (fun c152 => ?_)
        · exact J35 v4_2 (by omega) (by omega) (by omega) H locs hB ls (lv_sub hl [0, 1, 2, 3] rfl)
        · refine q_ild_n cx dX10_awakeAfter_29 rfl (lv_at hl 2 rfl) ?_
          refine q_iconst cx dX10_awakeAfter_30 ?_
          refine q_ild_n cx dX10_awakeAfter_31 rfl (lv_at hl 3 rfl) ?_
          refine q_ishl cx dX10_awakeAfter_32 (fun y153 ry153 ey153 => ?_)
          refine q_ior cx dX10_awakeAfter_33 (fun y154 ry154 ey154 => ?_)
          refine lv_istore_n (lv' := [(2, .int (q_i y154)), (0, .ref v), (1, .int (q_i p0)), (3, .int (q_i v4_3))]) cx.1 cx.2.1 dX10_awakeAfter_34 rfl hl (by decide) rfl (fun ls hl => ?_)
          exact J35 y154 (by omega) (by omega) (by omega) H locs hB ls (lv_sub hl [1, 2, 0, 3] rfl)
  obtain ⟨H, hH⟩ : ∃ H : Heap, H = s.heap := ⟨_, rfl⟩
  obtain ⟨locs, hlocs⟩ : ∃ z : List Loc, z = [] := ⟨_, rfl⟩
  rw [← hH, ← hlocs] at hB
  rw [← hH, ← hlocs]
  refine q_iconst cx dX10_awakeAfter_0 ?_
  refine lv_istore_n (lv' := [(2, .int (q_i 0)), (0, .ref v), (1, .int (q_i p0))]) cx.1 cx.2.1 dX10_awakeAfter_1 rfl hl (by decide) rfl (fun ls hl => ?_)
  refine q_iconst cx dX10_awakeAfter_2 ?_
  refine lv_istore_n (lv' := [(3, .int (q_i 0)), (2, .int (q_i 0)), (0, .ref v), (1, .int (q_i p0))]) cx.1 cx.2.1 dX10_awakeAfter_3 rfl hl (by decide) rfl (fun ls hl => ?_)
  exact J4 ((Int.toNat (2147483647 - 0)) + 1) 0 (by decide) (by decide) 0 (by decide) (by decide) (Nat.lt_succ_self _) H locs hB ls (lv_sub hl [2, 3, 1, 0] rfl)
