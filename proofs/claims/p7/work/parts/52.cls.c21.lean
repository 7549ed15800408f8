set_option maxHeartbeats 4000000 in
set_option maxRecDepth 100000 in
theorem g_X7_perform (l : Launch) (g : q_G) {K : Nat → Nat} {L : List Nat} (hN : L.Nodup) {f : Nat → va_E} (hT : q_Ty g K L f) (p0 : Nat) (hp0 : p0 ∈ L) (kp0 : K p0 = 0) (p1 : Nat) (hp1 : p1 ∈ L) (kp1 : K p1 = 10) : q_Ct l g K L yX7_perform cX7_perform 2 (some .boolean) 5 125 [.ref p0, .ref p1] f [(3, 2, 4), (4, 0, 7), (5, 1, 1), (5, 3, 4), (5, 6, 9), (10, 5, 5), (10, 11, 15)] (q_Pi (fun (z : Int) (f1 : Nat → va_E) => 0 ≤ z ∧ z ≤ 1)) := by
  refine q_ofb (by decide +kernel) hN hT (Nat.le_of_ble_eq_true rfl) ?_
  intro p e s m below meth c ls cx hr hlk hB hl
  have hl : lv_has ls 2 [(0, .ref p0), (1, .ref p1)] := hl
  have J61 : ∀  (H : Heap) (locs : List Loc) (hB : q_B g K L (fun q => q ∈ L) [(3, 2, 4), (4, 0, 7), (5, 1, 1), (5, 3, 4), (5, 6, 9), (10, 5, 5), (10, 11, 15)] f f s H locs) (ls : Array Slot) (hl : lv_has ls 2 []), W p l e { frames := 5, cells := 0, slots := 0, locals := 125 } s m ([.ref p0, .ref p1] : List Value).toArray below meth c H locs 0 0 (MQ below (q_Q g K L [(3, 2, 4), (4, 0, 7), (5, 1, 1), (5, 3, 4), (5, 6, 9), (10, 5, 5), (10, 11, 15)] f (q_Pi (fun (z : Int) (f1 : Nat → va_E) => 0 ≤ z ∧ z ≤ 1))) ([.ref p0, .ref p1] : List Value).toArray s 0 0 (fun q => q ∈ L)) (F0 m 61 ls []) := by
    intro  H locs hB ls hl
    refine q_iconst cx dX7_perform_61 ?_
    refine q_zret cx hr hlk hB dX7_perform_62 (by decide) (by decide) ?_
    exact ⟨(by decide), (by decide)⟩
  obtain ⟨H, hH⟩ : ∃ H : Heap, H = s.heap := ⟨_, rfl⟩
  obtain ⟨locs, hlocs⟩ : ∃ z : List Loc, z = [] := ⟨_, rfl⟩
  rw [← hH, ← hlocs] at hB
  rw [← hH, ← hlocs]
  refine q_ald_n cx dX7_perform_0 rfl (lv_at hl 0 rfl) ?_
  obtain ⟨x39, ex39⟩ : ∃ zz, q_is (q_z f p0 0) zz := ⟨_, q_isr _⟩
  refine q_gX7_78 cx hB hp0 kp0 ex39 dX7_perform_1 (fun lb40 ub40 => ?_)
  by_cases c42 : x39 = 0
  · refine lv_tableIn (tgt := 40) cx.1 cx.2.1 dX7_perform_4 (by rw [q_toInt ⟨by omega, by omega⟩]; omega) (by rw [q_toInt ⟨by omega, by omega⟩]; omega) (off := 36) (by rw [q_toInt ⟨by omega, by omega⟩, c42]; rfl) (by decide) ?_
    refine q_ald_n cx dX7_perform_40 rfl (lv_at hl 0 rfl) ?_
    obtain ⟨x43, ex43⟩ : ∃ zz, q_is (q_z f p0 1) zz := ⟨_, q_isr _⟩
    refine q_gX7_102 cx hB hp0 kp0 ex43 dX7_perform_41 (fun lb44 ub44 => ?_)
    refine q_cSi (As := [.int (q_i x43)]) (rest := []) cx hB (fun _ h => h) hN (g_X10_isTickCount l g hN hB.2.1 x43 (by omega) (by omega)) q_cX7_139 q_dX10_isTickCount (by decide) rfl rfl hl.1 rfl (Nat.le_of_ble_eq_true rfl) dX7_perform_44 (fun y46 H locs f45 ry46 h47 hF hB => ?_)
    obtain ⟨rfl, ly46, uy46⟩ := h47
    refine q_ifeq (tgt := 61) cx ⟨by omega, by omega⟩ dX7_perform_47 (by decide) (fun c48 => ?_) (fun c48 => ?_)
    · exact J61  H locs hB ls (lv_sub hl [] rfl)
    · refine q_ald_n cx dX7_perform_50 rfl (lv_at hl 1 rfl) ?_
      refine q_ald_n cx dX7_perform_51 rfl (lv_at hl 0 rfl) ?_
      refine q_gX7_102 cx hB hp0 kp0 ex43 dX7_perform_52 (fun lb49 ub49 => ?_)
      refine q_cVi (As := [.int (q_i x43)]) (rest := []) cx hB (fun _ h => h) hN hp1 kp1 (by decide) rfl (g_X10_hasTimeFor l g hN hB.2.1 p1 hp1 kp1 x43 (by omega) (by omega)) q_cX7_144 q_dX10_hasTimeFor (by decide) rfl rfl hl.1 rfl (Nat.le_of_ble_eq_true rfl) dX7_perform_55 (fun y51 H locs f50 ry51 h52 hF hB => ?_)
      obtain ⟨rfl, ly51, uy51⟩ := h52
      refine q_ifne (tgt := 63) cx ⟨by omega, by omega⟩ dX7_perform_58 (by decide) (fun c53 => ?_) (fun c53 => ?_)
      · refine q_ald_n cx dX7_perform_63 rfl (lv_at hl 1 rfl) ?_
        refine q_ald_n cx dX7_perform_64 rfl (lv_at hl 0 rfl) ?_
        refine q_gX7_102 cx hB hp0 kp0 ex43 dX7_perform_65 (fun lb54 ub54 => ?_)
        refine q_cVi (As := [.int (q_i x43)]) (rest := []) cx hB (fun _ h => h) hN hp1 kp1 (by decide) rfl (g_X10_passTicks l g hN hB.2.1 p1 hp1 kp1 x43 (by omega) (by omega)) q_cX7_147 q_dX10_passTicks (by decide) rfl rfl hl.1 rfl (Nat.le_of_ble_eq_true rfl) dX7_perform_68 (fun y56 H locs f55 ry56 h57 hF hB => ?_)
        refine lv_pop cx.1 cx.2.1 dX7_perform_71 rfl ?_
        refine q_iconst cx dX7_perform_72 ?_
        refine q_zret cx hr hlk hB dX7_perform_73 (by decide) (by decide) ?_
        exact ⟨(by decide), (by decide)⟩
      · exact J61  H locs hB ls (lv_sub hl [] rfl)
  by_cases c58 : x39 = 1
  · refine lv_tableIn (tgt := 74) cx.1 cx.2.1 dX7_perform_4 (by rw [q_toInt ⟨by omega, by omega⟩]; omega) (by rw [q_toInt ⟨by omega, by omega⟩]; omega) (off := 70) (by rw [q_toInt ⟨by omega, by omega⟩, c58]; rfl) (by decide) ?_
    refine q_ald_n cx dX7_perform_74 rfl (lv_at hl 0 rfl) ?_
    refine q_ald_n cx dX7_perform_75 rfl (lv_at hl 1 rfl) ?_
    refine q_iconst cx dX7_perform_76 ?_
    refine q_cSi (As := [.ref p0, .ref p1, .int (q_i 0)]) (rest := []) cx hB (fun _ h => h) hN (g_X7_performSend l g hN hB.2.1 p0 hp0 kp0 p1 hp1 kp1 0 (by decide) (by decide)) q_cX7_150 q_dX7_performSend (by decide) rfl rfl hl.1 rfl (Nat.le_of_ble_eq_true rfl) dX7_perform_77 (fun y60 H locs f59 ry60 h61 hF hB => ?_)
    obtain ⟨ly60, uy60⟩ := h61
    refine q_zret cx hr hlk hB dX7_perform_80 (by omega) (by omega) ?_
    exact ⟨(by omega), (by omega)⟩
  by_cases c62 : x39 = 2
  · refine lv_tableIn (tgt := 81) cx.1 cx.2.1 dX7_perform_4 (by rw [q_toInt ⟨by omega, by omega⟩]; omega) (by rw [q_toInt ⟨by omega, by omega⟩]; omega) (off := 77) (by rw [q_toInt ⟨by omega, by omega⟩, c62]; rfl) (by decide) ?_
    refine q_ald_n cx dX7_perform_81 rfl (lv_at hl 0 rfl) ?_
    refine q_ald_n cx dX7_perform_82 rfl (lv_at hl 1 rfl) ?_
    refine q_iconst cx dX7_perform_83 ?_
    refine q_cSi (As := [.ref p0, .ref p1, .int (q_i 1)]) (rest := []) cx hB (fun _ h => h) hN (g_X7_performSend l g hN hB.2.1 p0 hp0 kp0 p1 hp1 kp1 1 (by decide) (by decide)) q_cX7_150 q_dX7_performSend (by decide) rfl rfl hl.1 rfl (Nat.le_of_ble_eq_true rfl) dX7_perform_84 (fun y64 H locs f63 ry64 h65 hF hB => ?_)
    obtain ⟨ly64, uy64⟩ := h65
    refine q_zret cx hr hlk hB dX7_perform_87 (by omega) (by omega) ?_
    exact ⟨(by omega), (by omega)⟩
  by_cases c66 : x39 = 3
  · refine lv_tableIn (tgt := 88) cx.1 cx.2.1 dX7_perform_4 (by rw [q_toInt ⟨by omega, by omega⟩]; omega) (by rw [q_toInt ⟨by omega, by omega⟩]; omega) (off := 84) (by rw [q_toInt ⟨by omega, by omega⟩, c66]; rfl) (by decide) ?_
    refine q_ald_n cx dX7_perform_88 rfl (lv_at hl 0 rfl) ?_
    refine q_ald_n cx dX7_perform_89 rfl (lv_at hl 1 rfl) ?_
    refine q_cSi (As := [.ref p0, .ref p1]) (rest := []) cx hB (fun _ h => h) hN (g_X7_performShift l g hN hB.2.1 p0 hp0 kp0 p1 hp1 kp1) q_cX7_154 q_dX7_performShift (by decide) rfl rfl hl.1 rfl (Nat.le_of_ble_eq_true rfl) dX7_perform_90 (fun y68 H locs f67 ry68 h69 hF hB => ?_)
    obtain ⟨ly68, uy68⟩ := h69
    refine q_zret cx hr hlk hB dX7_perform_93 (by omega) (by omega) ?_
    exact ⟨(by omega), (by omega)⟩
  by_cases c70 : x39 = 4
  · refine lv_tableIn (tgt := 94) cx.1 cx.2.1 dX7_perform_4 (by rw [q_toInt ⟨by omega, by omega⟩]; omega) (by rw [q_toInt ⟨by omega, by omega⟩]; omega) (off := 90) (by rw [q_toInt ⟨by omega, by omega⟩, c70]; rfl) (by decide) ?_
    refine q_ald_n cx dX7_perform_94 rfl (lv_at hl 0 rfl) ?_
    refine q_ald_n cx dX7_perform_95 rfl (lv_at hl 1 rfl) ?_
    refine q_cSi (As := [.ref p0, .ref p1]) (rest := []) cx hB (fun _ h => h) hN (g_X7_performWatch l g hN hB.2.1 p0 hp0 kp0 p1 hp1 kp1) q_cX7_157 q_dX7_performWatch (by decide) rfl rfl hl.1 rfl (Nat.le_of_ble_eq_true rfl) dX7_perform_96 (fun y72 H locs f71 ry72 h73 hF hB => ?_)
    obtain ⟨ly72, uy72⟩ := h73
    refine q_zret cx hr hlk hB dX7_perform_99 (by omega) (by omega) ?_
    exact ⟨(by omega), (by omega)⟩
  refine lv_tableOut (tgt := 100) cx.1 cx.2.1 dX7_perform_4 (by rw [q_toInt ⟨by omega, by omega⟩]; omega) (by decide) ?_
  refine q_ald_n cx dX7_perform_100 rfl (lv_at hl 0 rfl) ?_
  refine q_ald_n cx dX7_perform_101 rfl (lv_at hl 1 rfl) ?_
  refine q_cSi (As := [.ref p0, .ref p1]) (rest := []) cx hB (fun _ h => h) hN (g_X7_performCharge l g hN hB.2.1 p0 hp0 kp0 p1 hp1 kp1) q_cX7_160 q_dX7_performCharge (by decide) rfl rfl hl.1 rfl (Nat.le_of_ble_eq_true rfl) dX7_perform_102 (fun y75 H locs f74 ry75 h76 hF hB => ?_)
  obtain ⟨ly75, uy75⟩ := h76
  refine q_zret cx hr hlk hB dX7_perform_105 (by omega) (by omega) ?_
  exact ⟨(by omega), (by omega)⟩
set_option maxHeartbeats 4000000 in
set_option maxRecDepth 100000 in
theorem g_X7_runOn (l : Launch) (g : q_G) {K : Nat → Nat} {L : List Nat} (hN : L.Nodup) {f : Nat → va_E} (hT : q_Ty g K L f) (v : Nat) (hv : v ∈ L) (kv : K v = 7) (p0 : Nat) (hp0 : p0 ∈ L) (kp0 : K p0 = 10) : q_Ct l g K L yX7_runOn cX7_runOn 5 (some .int) 6 146 [.ref v, .ref p0] f [(0, 6, 6), (3, 2, 4), (4, 0, 7), (5, 1, 1), (5, 3, 4), (5, 6, 9), (7, 2, 3), (10, 5, 5), (10, 11, 15)] (q_Pi (fun (z : Int) (f1 : Nat → va_E) => True)) := by
  refine q_ofb (by decide +kernel) hN hT (Nat.le_of_ble_eq_true rfl) ?_
  intro p e s m below meth c ls cx hr hlk hB hl
  have hl : lv_has ls 5 [(0, .ref v), (1, .ref p0)] := hl
  have J145 : ∀ (f145 : Nat → va_E) (H : Heap) (locs : List Loc) (hB : q_B g K L (fun q => q ∈ L) [(0, 6, 6), (3, 2, 4), (4, 0, 7), (5, 1, 1), (5, 3, 4), (5, 6, 9), (7, 2, 3), (10, 5, 5), (10, 11, 15)] f f145 s H locs) (ls : Array Slot) (hl : lv_has ls 5 [(0, .ref v)]), W p l e { frames := 6, cells := 0, slots := 0, locals := 146 } s m ([.ref v, .ref p0] : List Value).toArray below meth c H locs 0 0 (MQ below (q_Q g K L [(0, 6, 6), (3, 2, 4), (4, 0, 7), (5, 1, 1), (5, 3, 4), (5, 6, 9), (7, 2, 3), (10, 5, 5), (10, 11, 15)] f (q_Pi (fun (z : Int) (f1 : Nat → va_E) => True))) ([.ref v, .ref p0] : List Value).toArray s 0 0 (fun q => q ∈ L)) (F0 m 145 ls []) := by
    intro f145 H locs hB ls hl
    refine q_ald_n cx dX7_runOn_145 rfl (lv_at hl 0 rfl) ?_
    obtain ⟨x1537, ex1537⟩ : ∃ zz, q_is (q_z f145 v 2) zz := ⟨_, q_isr _⟩
    refine q_gX7_124 cx hB hv kv ex1537 dX7_runOn_146 (fun lb1538 ub1538 => ?_)
    refine q_iret cx hr hlk hB dX7_runOn_149 ⟨by omega, by omega⟩ ?_
    trivial
  have J14 : ∀ (n : Nat) (f14 : Nat → va_E) (v14_2 : Int) (lv14_2 : (-2147483648) ≤ v14_2) (uv14_2 : v14_2 ≤ 2147483647) (v14_3 : Int) (lv14_3 : 0 ≤ v14_3) (uv14_3 : v14_3 ≤ 1000000) (hmu : (Int.toNat (2147483647 - v14_3)) < n) (H : Heap) (locs : List Loc) (hB : q_B g K L (fun q => q ∈ L) [(0, 6, 6), (3, 2, 4), (4, 0, 7), (5, 1, 1), (5, 3, 4), (5, 6, 9), (7, 2, 3), (10, 5, 5), (10, 11, 15)] f f14 s H locs) (ls : Array Slot) (hl : lv_has ls 5 [(0, .ref v), (1, .ref p0), (2, .int (q_i v14_2)), (3, .int (q_i v14_3))]), W p l e { frames := 6, cells := 0, slots := 0, locals := 146 } s m ([.ref v, .ref p0] : List Value).toArray below meth c H locs 0 0 (MQ below (q_Q g K L [(0, 6, 6), (3, 2, 4), (4, 0, 7), (5, 1, 1), (5, 3, 4), (5, 6, 9), (7, 2, 3), (10, 5, 5), (10, 11, 15)] f (q_Pi (fun (z : Int) (f1 : Nat → va_E) => True))) ([.ref v, .ref p0] : List Value).toArray s 0 0 (fun q => q ∈ L)) (F0 m 14 ls []) := by
    intro n
    induction n with
    | zero =>
      intro f14 v14_2 lv14_2 uv14_2 v14_3 lv14_3 uv14_3 hmu
      exact absurd hmu (Nat.not_lt_zero _)
    | succ n ih14 =>
      intro f14 v14_2 lv14_2 uv14_2 v14_3 lv14_3 uv14_3 hmu H locs hB ls hl
      have J139 : ∀ (f139 : Nat → va_E) (v139_2 : Int) (lv139_2 : (-2147483648) ≤ v139_2) (uv139_2 : v139_2 ≤ 2147483647) (buv14_3 : v14_3 ≤ 999999) (H : Heap) (locs : List Loc) (hB : q_B g K L (fun q => q ∈ L) [(0, 6, 6), (3, 2, 4), (4, 0, 7), (5, 1, 1), (5, 3, 4), (5, 6, 9), (7, 2, 3), (10, 5, 5), (10, 11, 15)] f f139 s H locs) (ls : Array Slot) (hl : lv_has ls 5 [(0, .ref v), (1, .ref p0), (2, .int (q_i v139_2)), (3, .int (q_i v14_3))]), W p l e { frames := 6, cells := 0, slots := 0, locals := 146 } s m ([.ref v, .ref p0] : List Value).toArray below meth c H locs 0 0 (MQ below (q_Q g K L [(0, 6, 6), (3, 2, 4), (4, 0, 7), (5, 1, 1), (5, 3, 4), (5, 6, 9), (7, 2, 3), (10, 5, 5), (10, 11, 15)] f (q_Pi (fun (z : Int) (f1 : Nat → va_E) => True))) ([.ref v, .ref p0] : List Value).toArray s 0 0 (fun q => q ∈ L)) (F0 m 139 ls []) := by
        intro f139 v139_2 lv139_2 uv139_2 buv14_3 H locs hB ls hl
        refine q_iinc (lv' := [(3, .int (q_i (v14_3 + 1))), (0, .ref v), (1, .ref p0), (2, .int (q_i v139_2))]) cx dX7_runOn_139 hl (k := 3) rfl (by decide) rfl (fun ls hl => ?_)
        refine lv_goto (tgt := 14) cx.1 cx.2.1 dX7_runOn_142 (by decide) ?_
        exact ih14 f139 v139_2 (by omega) (by omega) (v14_3 + 1) (by omega) (by omega) (by omega) H locs hB ls (lv_sub hl [1, 2, 3, 0] rfl)
      have J68 : ∀ (f68 : Nat → va_E) (v68_4 : Nat) (hv68_4 : v68_4 ∈ L) (kv68_4 : K v68_4 = 0) (buv14_3 : v14_3 ≤ 999999) (H : Heap) (locs : List Loc) (hB : q_B g K L (fun q => q ∈ L) [(0, 6, 6), (3, 2, 4), (4, 0, 7), (5, 1, 1), (5, 3, 4), (5, 6, 9), (7, 2, 3), (10, 5, 5), (10, 11, 15)] f f68 s H locs) (ls : Array Slot) (hl : lv_has ls 5 [(0, .ref v), (1, .ref p0), (2, .int (q_i v14_2)), (3, .int (q_i v14_3)), (4, .ref v68_4)]), W p l e { frames := 6, cells := 0, slots := 0, locals := 146 } s m ([.ref v, .ref p0] : List Value).toArray below meth c H locs 0 0 (MQ below (q_Q g K L [(0, 6, 6), (3, 2, 4), (4, 0, 7), (5, 1, 1), (5, 3, 4), (5, 6, 9), (7, 2, 3), (10, 5, 5), (10, 11, 15)] f (q_Pi (fun (z : Int) (f1 : Nat → va_E) => True))) ([.ref v, .ref p0] : List Value).toArray s 0 0 (fun q => q ∈ L)) (F0 m 68 ls []) := by
        intro f68 v68_4 hv68_4 kv68_4 buv14_3 H locs hB ls hl
        refine q_ild_n cx dX7_runOn_68 rfl (lv_at hl 2 rfl) ?_
        refine q_ald_n cx dX7_runOn_69 rfl (lv_at hl 0 rfl) ?_
        obtain ⟨x1539, ex1539⟩ : ∃ zz, q_is (q_z f68 v 1) zz := ⟨_, q_isr _⟩
        refine q_gX7_18 cx hB hv kv ex1539 dX7_runOn_70 (fun lb1540 ub1540 => ?_)
        refine q_iclt (tgt := 81) cx ⟨by omega, by omega⟩ ⟨by omega, by omega⟩ dX7_runOn_73 (by decide) (fun c1541 => ?_) (fun c1541 => ?_)
        · refine lv_aload cx.1 cx.2.1 dX7_runOn_81 (lv_at hl 4 rfl) ?_
          obtain ⟨x1542, ex1542⟩ : ∃ zz, q_is (q_z f68 v68_4 0) zz := ⟨_, q_isr _⟩
          refine q_gX7_78 cx hB hv68_4 kv68_4 ex1542 dX7_runOn_83 (fun lb1543 ub1543 => ?_)
          refine q_bipush cx dX7_runOn_86 rfl ?_
          refine q_icne (tgt := 112) cx ⟨by omega, by omega⟩ ⟨by decide, by decide⟩ dX7_runOn_88 (by decide) (fun c1544 => ?_) (fun c1544 => ?_)
          · refine lv_aload cx.1 cx.2.1 dX7_runOn_112 (lv_at hl 4 rfl) ?_
            refine q_ald_n cx dX7_runOn_114 rfl (lv_at hl 1 rfl) ?_
            refine q_cSi (As := [.ref v68_4, .ref p0]) (rest := []) cx hB (fun _ h => h) hN (g_X7_perform l g hN hB.2.1 v68_4 hv68_4 kv68_4 p0 hp0 kp0) q_cX7_135 q_dX7_perform (by decide) rfl rfl hl.1 rfl (Nat.le_of_ble_eq_true rfl) dX7_runOn_115 (fun y1546 H locs f1545 ry1546 h1547 hF hB => ?_)
            obtain ⟨ly1546, uy1546⟩ := h1547
            refine q_ifne (tgt := 126) cx ⟨by omega, by omega⟩ dX7_runOn_118 (by decide) (fun c1548 => ?_) (fun c1548 => ?_)
            · refine q_ald_n cx dX7_runOn_126 rfl (lv_at hl 0 rfl) ?_
              refine lv_dup cx.1 cx.2.1 dX7_runOn_127 rfl ?_
              obtain ⟨x1549, ex1549⟩ : ∃ zz, q_is (q_z f1545 v 2) zz := ⟨_, q_isr _⟩
              refine q_gX7_124 cx hB hv kv ex1549 dX7_runOn_128 (fun lb1550 ub1550 => ?_)
              refine q_iconst cx dX7_runOn_131 ?_
              refine q_iadd cx dX7_runOn_132 ?_
              refine q_any (fun y1551 ry1551 ey1551 => ?_)
              refine q_pX7_124 cx hB hv kv ⟨by omega, by omega⟩ (by omega) (by omega) rfl dX7_runOn_133 (fun H locs f1552 ef1552 z1553 hB => ?_)
              refine q_iinc (lv' := [(2, .int (q_i (v14_2 + 1))), (0, .ref v), (1, .ref p0), (3, .int (q_i v14_3)), (4, .ref v68_4)]) cx dX7_runOn_136 hl (k := 2) rfl (by decide) rfl (fun ls hl => ?_)
              exact J139 f1552 (v14_2 + 1) (by omega) (by omega) (by omega) H locs hB ls (lv_sub hl [1, 2, 0, 3] rfl)
            · refine q_ald_n cx dX7_runOn_121 rfl (lv_at hl 0 rfl) ?_
              obtain ⟨x1554, ex1554⟩ : ∃ zz, q_is (q_z f1545 v 2) zz := ⟨_, q_isr _⟩
              refine q_gX7_124 cx hB hv kv ex1554 dX7_runOn_122 (fun lb1555 ub1555 => ?_)
              refine q_iret cx hr hlk hB dX7_runOn_125 ⟨by omega, by omega⟩ ?_
              trivial
          · refine lv_aload cx.1 cx.2.1 dX7_runOn_91 (lv_at hl 4 rfl) ?_
            refine lv_aload cx.1 cx.2.1 dX7_runOn_93 (lv_at hl 4 rfl) ?_
            obtain ⟨x1556, ex1556⟩ : ∃ zz, q_is (q_z f68 v68_4 1) zz := ⟨_, q_isr _⟩
            refine q_gX7_102 cx hB hv68_4 kv68_4 ex1556 dX7_runOn_95 (fun lb1557 ub1557 => ?_)
            refine q_pX7_132 cx hB hv68_4 kv68_4 ⟨by omega, by omega⟩ (by omega) (by omega) rfl dX7_runOn_98 (fun H locs f1558 ef1558 z1559 hB => ?_)
            refine q_ald_n cx dX7_runOn_101 rfl (lv_at hl 0 rfl) ?_
            refine q_ild_n cx dX7_runOn_102 rfl (lv_at hl 2 rfl) ?_
            refine q_pX7_22 cx hB hv kv ⟨by omega, by omega⟩ (by omega) (by omega) rfl dX7_runOn_103 (fun H locs f1560 ef1560 z1561 hB => ?_)
            refine q_iinc (lv' := [(2, .int (q_i (v14_2 + 1))), (0, .ref v), (1, .ref p0), (3, .int (q_i v14_3)), (4, .ref v68_4)]) cx dX7_runOn_106 hl (k := 2) rfl (by decide) rfl (fun ls hl => ?_)
            refine lv_goto (tgt := 139) cx.1 cx.2.1 dX7_runOn_109 (by decide) ?_
            exact J139 f1560 (v14_2 + 1) (by omega) (by omega) (by omega) H locs hB ls (lv_sub hl [1, 2, 0, 3] rfl)
        · refine q_ald_n cx dX7_runOn_76 rfl (lv_at hl 0 rfl) ?_
          obtain ⟨x1562, ex1562⟩ : ∃ zz, q_is (q_z f68 v 2) zz := ⟨_, q_isr _⟩
          refine q_gX7_124 cx hB hv kv ex1562 dX7_runOn_77 (fun lb1563 ub1563 => ?_)
          refine q_iret cx hr hlk hB dX7_runOn_80 ⟨by omega, by omega⟩ ?_
          trivial
      refine q_ild_n cx dX7_runOn_14 rfl (lv_at hl 3 rfl) ?_
      refine lv_ldc (v := q_i 1000000) cx.1 cx.2.1 cx.2.2.2.1 (cx.2.2.2.2 _ q_h1143) dX7_runOn_15 ?_
      refine q_icge (tgt := 145) cx ⟨by omega, by omega⟩ ⟨by decide, by decide⟩ dX7_runOn_17 (by decide) (fun c1564 => ?_) (fun c1564 => ?_)
      · exact J145 f14 H locs hB ls (lv_sub hl [0] rfl)
      · refine q_ald_n cx dX7_runOn_20 rfl (lv_at hl 0 rfl) ?_
        obtain ⟨x1565, ex1565⟩ : ∃ zz, q_is (q_z f14 v 2) zz := ⟨_, q_isr _⟩
        refine q_gX7_124 cx hB hv kv ex1565 dX7_runOn_21 (fun lb1566 ub1566 => ?_)
        refine q_bipush cx dX7_runOn_24 rfl ?_
        refine q_icge (tgt := 145) cx ⟨by omega, by omega⟩ ⟨by decide, by decide⟩ dX7_runOn_26 (by decide) (fun c1567 => ?_) (fun c1567 => ?_)
        · exact J145 f14 H locs hB ls (lv_sub hl [0] rfl)
        · refine q_ald_n cx dX7_runOn_29 rfl (lv_at hl 0 rfl) ?_
          refine q_ild_n cx dX7_runOn_30 rfl (lv_at hl 2 rfl) ?_
          refine q_cVr (As := [.int (q_i v14_2)]) (rest := []) cx hB (fun _ h => h) hN hv kv (by decide) rfl (g_X7_commandAt l g hN hB.2.1 v hv kv v14_2 (by omega) (by omega)) q_cX7_74 q_dX7_commandAt (by decide) rfl rfl hl.1 rfl (Nat.le_of_ble_eq_true rfl) dX7_runOn_31 (fun y1569 H locs f1568 h1570 hF hB => ?_)
          obtain ⟨rfl, hy1569, ky1569⟩ := h1570
          refine lv_astore (lv' := [(4, .ref y1569), (0, .ref v), (1, .ref p0), (2, .int (q_i v14_2)), (3, .int (q_i v14_3))]) cx.1 cx.2.1 dX7_runOn_34 hl (by decide) rfl (fun ls hl => ?_)
          refine q_ald_n cx dX7_runOn_36 rfl (lv_at hl 1 rfl) ?_
          obtain ⟨x1571, ex1571⟩ : ∃ zz, q_is (q_z f14 v 3) zz := ⟨_, q_isr _⟩
          refine q_gX7_22 cx hB hv kv ex1571 dX7_runOn_37 (fun lb1572 ub1572 => ?_)
          refine q_iconst cx dX7_runOn_40 ?_
          refine q_iceq (tgt := 68) cx ⟨by omega, by omega⟩ ⟨by decide, by decide⟩ dX7_runOn_41 (by decide) (fun c1573 => ?_) (fun c1573 => ?_)
          · exact J68 f14 y1569 hy1569 ky1569 (by omega) H locs hB ls (lv_sub hl [1, 2, 3, 4, 0] rfl)
          · refine q_ild_n cx dX7_runOn_44 rfl (lv_at hl 3 rfl) ?_
            refine q_ald_n cx dX7_runOn_45 rfl (lv_at hl 1 rfl) ?_
            refine q_ald_n cx dX7_runOn_46 rfl (lv_at hl 1 rfl) ?_
            refine q_gX7_22 cx hB hv kv ex1571 dX7_runOn_47 (fun lb1574 ub1574 => ?_)
            refine q_cVr (As := [.int (q_i x1571)]) (rest := [.int (q_i v14_2)]) cx hB (fun _ h => h) hN hv kv (by decide) rfl (g_X7_commandAt l g hN hB.2.1 v hv kv x1571 (by omega) (by omega)) q_cX7_74 q_dX7_commandAt (by decide) rfl rfl hl.1 rfl (Nat.le_of_ble_eq_true rfl) dX7_runOn_50 (fun y1576 H locs f1575 h1577 hF hB => ?_)
            obtain ⟨rfl, hy1576, ky1576⟩ := h1577
            obtain ⟨x1578, ex1578⟩ : ∃ zz, q_is (q_z f14 y1576 4) zz := ⟨_, q_isr _⟩
            refine q_gX7_111 cx hB hy1576 ky1576 ex1578 dX7_runOn_53 (fun lb1579 ub1579 => ?_)
            refine q_icne (tgt := 68) cx ⟨by omega, by omega⟩ ⟨by omega, by omega⟩ dX7_runOn_56 (by decide) (fun c1580 => ?_) (fun c1580 => ?_)
            · exact J68 f14 y1569 hy1569 ky1569 (by omega) H locs hB ls (lv_sub hl [1, 2, 3, 4, 0] rfl)
            · refine q_ald_n cx dX7_runOn_59 rfl (lv_at hl 1 rfl) ?_
              refine q_ild_n cx dX7_runOn_60 rfl (lv_at hl 3 rfl) ?_
              refine q_cVi (As := [.int (q_i v14_2)]) (rest := []) cx hB (fun _ h => h) hN hv kv (by decide) rfl (g_X7_endRound l g hN hB.2.1 v hv kv v14_2 (by omega) (by omega)) q_cX7_128 q_dX7_endRound (by decide) rfl rfl hl.1 rfl (Nat.le_of_ble_eq_true rfl) dX7_runOn_61 (fun y1582 H locs f1581 ry1582 h1583 hF hB => ?_)
              refine lv_istore_n (lv' := [(2, .int (q_i y1582)), (4, .ref y1569), (0, .ref v), (1, .ref p0), (3, .int (q_i v14_3))]) cx.1 cx.2.1 dX7_runOn_64 rfl hl (by decide) rfl (fun ls hl => ?_)
              refine lv_goto (tgt := 139) cx.1 cx.2.1 dX7_runOn_65 (by decide) ?_
              exact J139 f1581 y1582 (by omega) (by omega) (by omega) H locs hB ls (lv_sub hl [2, 3, 0, 4] rfl)
  obtain ⟨H, hH⟩ : ∃ H : Heap, H = s.heap := ⟨_, rfl⟩
  obtain ⟨locs, hlocs⟩ : ∃ z : List Loc, z = [] := ⟨_, rfl⟩
  rw [← hH, ← hlocs] at hB
  rw [← hH, ← hlocs]
  refine q_ald_n cx dX7_runOn_0 rfl (lv_at hl 0 rfl) ?_
  refine q_iconst cx dX7_runOn_1 ?_
  refine q_pX7_124 cx hB hv kv ⟨by decide, by decide⟩ (by decide) (by decide) rfl dX7_runOn_2 (fun H locs f1584 ef1584 z1585 hB => ?_)
  refine q_ald_n cx dX7_runOn_5 rfl (lv_at hl 0 rfl) ?_
  refine q_iconst cx dX7_runOn_6 ?_
  refine q_pX7_22 cx hB hv kv ⟨by decide, by decide⟩ (by decide) (by decide) rfl dX7_runOn_7 (fun H locs f1586 ef1586 z1587 hB => ?_)
  refine q_iconst cx dX7_runOn_10 ?_
  refine lv_istore_n (lv' := [(2, .int (q_i 0)), (0, .ref v), (1, .ref p0)]) cx.1 cx.2.1 dX7_runOn_11 rfl hl (by decide) rfl (fun ls hl => ?_)
  refine q_iconst cx dX7_runOn_12 ?_
  refine lv_istore_n (lv' := [(3, .int (q_i 0)), (2, .int (q_i 0)), (0, .ref v), (1, .ref p0)]) cx.1 cx.2.1 dX7_runOn_13 rfl hl (by decide) rfl (fun ls hl => ?_)
  exact J14 ((Int.toNat (2147483647 - 0)) + 1) f1586 0 (by decide) (by decide) 0 (by decide) (by decide) (Nat.lt_succ_self _) H locs hB ls (lv_sub hl [2, 3, 1, 0] rfl)
set_option maxHeartbeats 4000000 in
set_option maxRecDepth 100000 in
theorem g_X10_makeEmpty (l : Launch) (g : q_G) {K : Nat → Nat} {L : List Nat} (hN : L.Nodup) {f : Nat → va_E} (hT : q_Ty g K L f) (v : Nat) (hv : v ∈ L) (kv : K v = 10) : q_Ct l g K L yX10_makeEmpty cX10_makeEmpty 1 none 0 0 [.ref v] f [(10, 3, 12)] (q_Pv (fun (f1 : Nat → va_E) => True)) := by
  refine q_ofb (by decide +kernel) hN hT (Nat.le_of_ble_eq_true rfl) ?_
  intro p e s m below meth c ls cx hr hlk hB hl
  have hl : lv_has ls 1 [(0, .ref v)] := hl
  obtain ⟨H, hH⟩ : ∃ H : Heap, H = s.heap := ⟨_, rfl⟩
  obtain ⟨locs, hlocs⟩ : ∃ z : List Loc, z = [] := ⟨_, rfl⟩
  rw [← hH, ← hlocs] at hB
  rw [← hH, ← hlocs]
  refine q_ald_n cx dX10_makeEmpty_0 rfl (lv_at hl 0 rfl) ?_
  refine q_iconst cx dX10_makeEmpty_1 ?_
  refine q_pX10_35 cx hB hv kv ⟨by decide, by decide⟩ (by decide) (by decide) rfl dX10_makeEmpty_2 (fun H locs f66 ef66 z67 hB => ?_)
  refine q_ald_n cx dX10_makeEmpty_5 rfl (lv_at hl 0 rfl) ?_
  refine q_iconst cx dX10_makeEmpty_6 ?_
  refine q_pX10_39 cx hB hv kv ⟨by decide, by decide⟩ (by decide) (by decide) rfl dX10_makeEmpty_7 (fun H locs f68 ef68 z69 hB => ?_)
  have z70 : q_is (q_z f68 v 3) 0 := by rw [ef68, q_setz (Or.inr (by decide))]; exact z67
  refine q_ald_n cx dX10_makeEmpty_10 rfl (lv_at hl 0 rfl) ?_
  refine q_iconst cx dX10_makeEmpty_11 ?_
  refine q_pX10_42 cx hB hv kv ⟨by decide, by decide⟩ (by decide) (by decide) rfl dX10_makeEmpty_12 (fun H locs f71 ef71 z72 hB => ?_)
  have z73 : q_is (q_z f71 v 3) 0 := by rw [ef71, q_setz (Or.inr (by decide))]; exact z70
  have z74 : q_is (q_z f71 v 4) 0 := by rw [ef71, q_setz (Or.inr (by decide))]; exact z69
  refine q_ald_n cx dX10_makeEmpty_15 rfl (lv_at hl 0 rfl) ?_
  refine q_bipush cx dX10_makeEmpty_16 rfl ?_
  refine q_pX10_45 cx hB hv kv ⟨by decide, by decide⟩ (by decide) (by decide) rfl dX10_makeEmpty_18 (fun H locs f75 ef75 z76 hB => ?_)
  have z77 : q_is (q_z f75 v 3) 0 := by rw [ef75, q_setz (Or.inr (by decide))]; exact z73
  have z78 : q_is (q_z f75 v 4) 0 := by rw [ef75, q_setz (Or.inr (by decide))]; exact z74
  have z79 : q_is (q_z f75 v 5) 0 := by rw [ef75, q_setz (Or.inr (by decide))]; exact z72
  refine q_ald_n cx dX10_makeEmpty_21 rfl (lv_at hl 0 rfl) ?_
  refine q_iconst cx dX10_makeEmpty_22 ?_
  refine q_pX10_48 cx hB hv kv ⟨by decide, by decide⟩ (by decide) (by decide) rfl dX10_makeEmpty_23 (fun H locs f80 ef80 z81 hB => ?_)
  have z82 : q_is (q_z f80 v 3) 0 := by rw [ef80, q_setz (Or.inr (by decide))]; exact z77
  have z83 : q_is (q_z f80 v 4) 0 := by rw [ef80, q_setz (Or.inr (by decide))]; exact z78
  have z84 : q_is (q_z f80 v 5) 0 := by rw [ef80, q_setz (Or.inr (by decide))]; exact z79
  have z85 : q_is (q_z f80 v 6) 12 := by rw [ef80, q_setz (Or.inr (by decide))]; exact z76
  refine q_ald_n cx dX10_makeEmpty_26 rfl (lv_at hl 0 rfl) ?_
  refine q_iconst cx dX10_makeEmpty_27 ?_
  refine q_pX10_51 cx hB hv kv ⟨by decide, by decide⟩ (by decide) (by decide) rfl dX10_makeEmpty_28 (fun H locs f86 ef86 z87 hB => ?_)
  have z88 : q_is (q_z f86 v 3) 0 := by rw [ef86, q_setz (Or.inr (by decide))]; exact z82
  have z89 : q_is (q_z f86 v 4) 0 := by rw [ef86, q_setz (Or.inr (by decide))]; exact z83
  have z90 : q_is (q_z f86 v 5) 0 := by rw [ef86, q_setz (Or.inr (by decide))]; exact z84
  have z91 : q_is (q_z f86 v 6) 12 := by rw [ef86, q_setz (Or.inr (by decide))]; exact z85
  have z92 : q_is (q_z f86 v 7) 1 := by rw [ef86, q_setz (Or.inr (by decide))]; exact z81
  refine q_ald_n cx dX10_makeEmpty_31 rfl (lv_at hl 0 rfl) ?_
  refine q_iconst cx dX10_makeEmpty_32 ?_
  refine q_pX10_54 cx hB hv kv ⟨by decide, by decide⟩ (by decide) (by decide) rfl dX10_makeEmpty_33 (fun H locs f93 ef93 z94 hB => ?_)
  have z95 : q_is (q_z f93 v 3) 0 := by rw [ef93, q_setz (Or.inr (by decide))]; exact z88
  have z96 : q_is (q_z f93 v 4) 0 := by rw [ef93, q_setz (Or.inr (by decide))]; exact z89
  have z97 : q_is (q_z f93 v 5) 0 := by rw [ef93, q_setz (Or.inr (by decide))]; exact z90
  have z98 : q_is (q_z f93 v 6) 12 := by rw [ef93, q_setz (Or.inr (by decide))]; exact z91
  have z99 : q_is (q_z f93 v 7) 1 := by rw [ef93, q_setz (Or.inr (by decide))]; exact z92
  have z100 : q_is (q_z f93 v 8) 2 := by rw [ef93, q_setz (Or.inr (by decide))]; exact z87
  refine q_ald_n cx dX10_makeEmpty_36 rfl (lv_at hl 0 rfl) ?_
  refine q_iconst cx dX10_makeEmpty_37 ?_
  refine q_pX10_57 cx hB hv kv ⟨by decide, by decide⟩ (by decide) (by decide) rfl dX10_makeEmpty_38 (fun H locs f101 ef101 z102 hB => ?_)
  have z103 : q_is (q_z f101 v 3) 0 := by rw [ef101, q_setz (Or.inr (by decide))]; exact z95
  have z104 : q_is (q_z f101 v 4) 0 := by rw [ef101, q_setz (Or.inr (by decide))]; exact z96
  have z105 : q_is (q_z f101 v 5) 0 := by rw [ef101, q_setz (Or.inr (by decide))]; exact z97
  have z106 : q_is (q_z f101 v 6) 12 := by rw [ef101, q_setz (Or.inr (by decide))]; exact z98
  have z107 : q_is (q_z f101 v 7) 1 := by rw [ef101, q_setz (Or.inr (by decide))]; exact z99
  have z108 : q_is (q_z f101 v 8) 2 := by rw [ef101, q_setz (Or.inr (by decide))]; exact z100
  have z109 : q_is (q_z f101 v 9) 5 := by rw [ef101, q_setz (Or.inr (by decide))]; exact z94
  refine q_ald_n cx dX10_makeEmpty_41 rfl (lv_at hl 0 rfl) ?_
  refine q_iconst cx dX10_makeEmpty_42 ?_
  refine q_pX10_60 cx hB hv kv ⟨by decide, by decide⟩ (by decide) (by decide) rfl dX10_makeEmpty_43 (fun H locs f110 ef110 z111 hB => ?_)
  have z112 : q_is (q_z f110 v 3) 0 := by rw [ef110, q_setz (Or.inr (by decide))]; exact z103
  have z113 : q_is (q_z f110 v 4) 0 := by rw [ef110, q_setz (Or.inr (by decide))]; exact z104
  have z114 : q_is (q_z f110 v 5) 0 := by rw [ef110, q_setz (Or.inr (by decide))]; exact z105
  have z115 : q_is (q_z f110 v 6) 12 := by rw [ef110, q_setz (Or.inr (by decide))]; exact z106
  have z116 : q_is (q_z f110 v 7) 1 := by rw [ef110, q_setz (Or.inr (by decide))]; exact z107
  have z117 : q_is (q_z f110 v 8) 2 := by rw [ef110, q_setz (Or.inr (by decide))]; exact z108
  have z118 : q_is (q_z f110 v 9) 5 := by rw [ef110, q_setz (Or.inr (by decide))]; exact z109
  have z119 : q_is (q_z f110 v 10) 3 := by rw [ef110, q_setz (Or.inr (by decide))]; exact z102
  refine q_ald_n cx dX10_makeEmpty_46 rfl (lv_at hl 0 rfl) ?_
  refine q_iconst cx dX10_makeEmpty_47 ?_
  refine q_pX10_63 cx hB hv kv ⟨by decide, by decide⟩ (by decide) (by decide) rfl dX10_makeEmpty_48 (fun H locs f120 ef120 z121 hB => ?_)
  have z122 : q_is (q_z f120 v 3) 0 := by rw [ef120, q_setz (Or.inr (by decide))]; exact z112
  have z123 : q_is (q_z f120 v 4) 0 := by rw [ef120, q_setz (Or.inr (by decide))]; exact z113
  have z124 : q_is (q_z f120 v 5) 0 := by rw [ef120, q_setz (Or.inr (by decide))]; exact z114
  have z125 : q_is (q_z f120 v 6) 12 := by rw [ef120, q_setz (Or.inr (by decide))]; exact z115
  have z126 : q_is (q_z f120 v 7) 1 := by rw [ef120, q_setz (Or.inr (by decide))]; exact z116
  have z127 : q_is (q_z f120 v 8) 2 := by rw [ef120, q_setz (Or.inr (by decide))]; exact z117
  have z128 : q_is (q_z f120 v 9) 5 := by rw [ef120, q_setz (Or.inr (by decide))]; exact z118
  have z129 : q_is (q_z f120 v 10) 3 := by rw [ef120, q_setz (Or.inr (by decide))]; exact z119
  have z130 : q_is (q_z f120 v 11) 0 := by rw [ef120, q_setz (Or.inr (by decide))]; exact z111
  refine q_vret cx hr hlk hB dX10_makeEmpty_51 ?_
  trivial
set_option maxHeartbeats 4000000 in
set_option maxRecDepth 100000 in
theorem g_X10_makeEmpty_1 (l : Launch) (g : q_G) {K : Nat → Nat} {L : List Nat} (hN : L.Nodup) {f : Nat → va_E} (hT : q_Ty g K L f) (v : Nat) (hv : v ∈ L) (kv : K v = 13) : q_Ct l g K L yX10_makeEmpty cX10_makeEmpty 1 none 0 0 [.ref v] f [(13, 3, 12)] (q_Pv (fun (f1 : Nat → va_E) => True)) := by
  refine q_ofb (by decide +kernel) hN hT (Nat.le_of_ble_eq_true rfl) ?_
  intro p e s m below meth c ls cx hr hlk hB hl
  have hl : lv_has ls 1 [(0, .ref v)] := hl
  obtain ⟨H, hH⟩ : ∃ H : Heap, H = s.heap := ⟨_, rfl⟩
  obtain ⟨locs, hlocs⟩ : ∃ z : List Loc, z = [] := ⟨_, rfl⟩
  rw [← hH, ← hlocs] at hB
  rw [← hH, ← hlocs]
  refine q_ald_n cx dX10_makeEmpty_0 rfl (lv_at hl 0 rfl) ?_
  refine q_iconst cx dX10_makeEmpty_1 ?_
  refine q_pX10_35_13 cx hB hv kv ⟨by decide, by decide⟩ (by decide) (by decide) rfl dX10_makeEmpty_2 (fun H locs f66 ef66 z67 hB => ?_)
  refine q_ald_n cx dX10_makeEmpty_5 rfl (lv_at hl 0 rfl) ?_
  refine q_iconst cx dX10_makeEmpty_6 ?_
  refine q_pX10_39_13 cx hB hv kv ⟨by decide, by decide⟩ (by decide) (by decide) rfl dX10_makeEmpty_7 (fun H locs f68 ef68 z69 hB => ?_)
  have z70 : q_is (q_z f68 v 3) 0 := by rw [ef68, q_setz (Or.inr (by decide))]; exact z67
  refine q_ald_n cx dX10_makeEmpty_10 rfl (lv_at hl 0 rfl) ?_
  refine q_iconst cx dX10_makeEmpty_11 ?_
  refine q_pX10_42_13 cx hB hv kv ⟨by decide, by decide⟩ (by decide) (by decide) rfl dX10_makeEmpty_12 (fun H locs f71 ef71 z72 hB => ?_)
  have z73 : q_is (q_z f71 v 3) 0 := by rw [ef71, q_setz (Or.inr (by decide))]; exact z70
  have z74 : q_is (q_z f71 v 4) 0 := by rw [ef71, q_setz (Or.inr (by decide))]; exact z69
  refine q_ald_n cx dX10_makeEmpty_15 rfl (lv_at hl 0 rfl) ?_
  refine q_bipush cx dX10_makeEmpty_16 rfl ?_
  refine q_pX10_45_13 cx hB hv kv ⟨by decide, by decide⟩ (by decide) (by decide) rfl dX10_makeEmpty_18 (fun H locs f75 ef75 z76 hB => ?_)
  have z77 : q_is (q_z f75 v 3) 0 := by rw [ef75, q_setz (Or.inr (by decide))]; exact z73
  have z78 : q_is (q_z f75 v 4) 0 := by rw [ef75, q_setz (Or.inr (by decide))]; exact z74
  have z79 : q_is (q_z f75 v 5) 0 := by rw [ef75, q_setz (Or.inr (by decide))]; exact z72
  refine q_ald_n cx dX10_makeEmpty_21 rfl (lv_at hl 0 rfl) ?_
  refine q_iconst cx dX10_makeEmpty_22 ?_
  refine q_pX10_48_13 cx hB hv kv ⟨by decide, by decide⟩ (by decide) (by decide) rfl dX10_makeEmpty_23 (fun H locs f80 ef80 z81 hB => ?_)
  have z82 : q_is (q_z f80 v 3) 0 := by rw [ef80, q_setz (Or.inr (by decide))]; exact z77
  have z83 : q_is (q_z f80 v 4) 0 := by rw [ef80, q_setz (Or.inr (by decide))]; exact z78
  have z84 : q_is (q_z f80 v 5) 0 := by rw [ef80, q_setz (Or.inr (by decide))]; exact z79
  have z85 : q_is (q_z f80 v 6) 12 := by rw [ef80, q_setz (Or.inr (by decide))]; exact z76
  refine q_ald_n cx dX10_makeEmpty_26 rfl (lv_at hl 0 rfl) ?_
  refine q_iconst cx dX10_makeEmpty_27 ?_
  refine q_pX10_51_13 cx hB hv kv ⟨by decide, by decide⟩ (by decide) (by decide) rfl dX10_makeEmpty_28 (fun H locs f86 ef86 z87 hB => ?_)
  have z88 : q_is (q_z f86 v 3) 0 := by rw [ef86, q_setz (Or.inr (by decide))]; exact z82
  have z89 : q_is (q_z f86 v 4) 0 := by rw [ef86, q_setz (Or.inr (by decide))]; exact z83
  have z90 : q_is (q_z f86 v 5) 0 := by rw [ef86, q_setz (Or.inr (by decide))]; exact z84
  have z91 : q_is (q_z f86 v 6) 12 := by rw [ef86, q_setz (Or.inr (by decide))]; exact z85
  have z92 : q_is (q_z f86 v 7) 1 := by rw [ef86, q_setz (Or.inr (by decide))]; exact z81
  refine q_ald_n cx dX10_makeEmpty_31 rfl (lv_at hl 0 rfl) ?_
  refine q_iconst cx dX10_makeEmpty_32 ?_
  refine q_pX10_54_13 cx hB hv kv ⟨by decide, by decide⟩ (by decide) (by decide) rfl dX10_makeEmpty_33 (fun H locs f93 ef93 z94 hB => ?_)
  have z95 : q_is (q_z f93 v 3) 0 := by rw [ef93, q_setz (Or.inr (by decide))]; exact z88
  have z96 : q_is (q_z f93 v 4) 0 := by rw [ef93, q_setz (Or.inr (by decide))]; exact z89
  have z97 : q_is (q_z f93 v 5) 0 := by rw [ef93, q_setz (Or.inr (by decide))]; exact z90
  have z98 : q_is (q_z f93 v 6) 12 := by rw [ef93, q_setz (Or.inr (by decide))]; exact z91
  have z99 : q_is (q_z f93 v 7) 1 := by rw [ef93, q_setz (Or.inr (by decide))]; exact z92
  have z100 : q_is (q_z f93 v 8) 2 := by rw [ef93, q_setz (Or.inr (by decide))]; exact z87
  refine q_ald_n cx dX10_makeEmpty_36 rfl (lv_at hl 0 rfl) ?_
  refine q_iconst cx dX10_makeEmpty_37 ?_
  refine q_pX10_57_13 cx hB hv kv ⟨by decide, by decide⟩ (by decide) (by decide) rfl dX10_makeEmpty_38 (fun H locs f101 ef101 z102 hB => ?_)
  have z103 : q_is (q_z f101 v 3) 0 := by rw [ef101, q_setz (Or.inr (by decide))]; exact z95
  have z104 : q_is (q_z f101 v 4) 0 := by rw [ef101, q_setz (Or.inr (by decide))]; exact z96
  have z105 : q_is (q_z f101 v 5) 0 := by rw [ef101, q_setz (Or.inr (by decide))]; exact z97
  have z106 : q_is (q_z f101 v 6) 12 := by rw [ef101, q_setz (Or.inr (by decide))]; exact z98
  have z107 : q_is (q_z f101 v 7) 1 := by rw [ef101, q_setz (Or.inr (by decide))]; exact z99
  have z108 : q_is (q_z f101 v 8) 2 := by rw [ef101, q_setz (Or.inr (by decide))]; exact z100
  have z109 : q_is (q_z f101 v 9) 5 := by rw [ef101, q_setz (Or.inr (by decide))]; exact z94
  refine q_ald_n cx dX10_makeEmpty_41 rfl (lv_at hl 0 rfl) ?_
  refine q_iconst cx dX10_makeEmpty_42 ?_
  refine q_pX10_60_13 cx hB hv kv ⟨by decide, by decide⟩ (by decide) (by decide) rfl dX10_makeEmpty_43 (fun H locs f110 ef110 z111 hB => ?_)
  have z112 : q_is (q_z f110 v 3) 0 := by rw [ef110, q_setz (Or.inr (by decide))]; exact z103
  have z113 : q_is (q_z f110 v 4) 0 := by rw [ef110, q_setz (Or.inr (by decide))]; exact z104
  have z114 : q_is (q_z f110 v 5) 0 := by rw [ef110, q_setz (Or.inr (by decide))]; exact z105
  have z115 : q_is (q_z f110 v 6) 12 := by rw [ef110, q_setz (Or.inr (by decide))]; exact z106
  have z116 : q_is (q_z f110 v 7) 1 := by rw [ef110, q_setz (Or.inr (by decide))]; exact z107
  have z117 : q_is (q_z f110 v 8) 2 := by rw [ef110, q_setz (Or.inr (by decide))]; exact z108
  have z118 : q_is (q_z f110 v 9) 5 := by rw [ef110, q_setz (Or.inr (by decide))]; exact z109
  have z119 : q_is (q_z f110 v 10) 3 := by rw [ef110, q_setz (Or.inr (by decide))]; exact z102
  refine q_ald_n cx dX10_makeEmpty_46 rfl (lv_at hl 0 rfl) ?_
  refine q_iconst cx dX10_makeEmpty_47 ?_
  refine q_pX10_63_13 cx hB hv kv ⟨by decide, by decide⟩ (by decide) (by decide) rfl dX10_makeEmpty_48 (fun H locs f120 ef120 z121 hB => ?_)
  have z122 : q_is (q_z f120 v 3) 0 := by rw [ef120, q_setz (Or.inr (by decide))]; exact z112
  have z123 : q_is (q_z f120 v 4) 0 := by rw [ef120, q_setz (Or.inr (by decide))]; exact z113
  have z124 : q_is (q_z f120 v 5) 0 := by rw [ef120, q_setz (Or.inr (by decide))]; exact z114
  have z125 : q_is (q_z f120 v 6) 12 := by rw [ef120, q_setz (Or.inr (by decide))]; exact z115
  have z126 : q_is (q_z f120 v 7) 1 := by rw [ef120, q_setz (Or.inr (by decide))]; exact z116
  have z127 : q_is (q_z f120 v 8) 2 := by rw [ef120, q_setz (Or.inr (by decide))]; exact z117
  have z128 : q_is (q_z f120 v 9) 5 := by rw [ef120, q_setz (Or.inr (by decide))]; exact z118
  have z129 : q_is (q_z f120 v 10) 3 := by rw [ef120, q_setz (Or.inr (by decide))]; exact z119
  have z130 : q_is (q_z f120 v 11) 0 := by rw [ef120, q_setz (Or.inr (by decide))]; exact z111
  refine q_vret cx hr hlk hB dX10_makeEmpty_51 ?_
  trivial
set_option maxHeartbeats 4000000 in
set_option maxRecDepth 100000 in
theorem g_X10_makeEmpty_2 (l : Launch) (g : q_G) {K : Nat → Nat} {L : List Nat} (hN : L.Nodup) {f : Nat → va_E} (hT : q_Ty g K L f) (v : Nat) (hv : v ∈ L) (kv : K v = 14) : q_Ct l g K L yX10_makeEmpty cX10_makeEmpty 1 none 0 0 [.ref v] f [(14, 3, 12)] (q_Pv (fun (f1 : Nat → va_E) => True)) := by
  refine q_ofb (by decide +kernel) hN hT (Nat.le_of_ble_eq_true rfl) ?_
  intro p e s m below meth c ls cx hr hlk hB hl
  have hl : lv_has ls 1 [(0, .ref v)] := hl
  obtain ⟨H, hH⟩ : ∃ H : Heap, H = s.heap := ⟨_, rfl⟩
  obtain ⟨locs, hlocs⟩ : ∃ z : List Loc, z = [] := ⟨_, rfl⟩
  rw [← hH, ← hlocs] at hB
  rw [← hH, ← hlocs]
  refine q_ald_n cx dX10_makeEmpty_0 rfl (lv_at hl 0 rfl) ?_
  refine q_iconst cx dX10_makeEmpty_1 ?_
  refine q_pX10_35_14 cx hB hv kv ⟨by decide, by decide⟩ (by decide) (by decide) rfl dX10_makeEmpty_2 (fun H locs f66 ef66 z67 hB => ?_)
  refine q_ald_n cx dX10_makeEmpty_5 rfl (lv_at hl 0 rfl) ?_
  refine q_iconst cx dX10_makeEmpty_6 ?_
  refine q_pX10_39_14 cx hB hv kv ⟨by decide, by decide⟩ (by decide) (by decide) rfl dX10_makeEmpty_7 (fun H locs f68 ef68 z69 hB => ?_)
  have z70 : q_is (q_z f68 v 3) 0 := by rw [ef68, q_setz (Or.inr (by decide))]; exact z67
  refine q_ald_n cx dX10_makeEmpty_10 rfl (lv_at hl 0 rfl) ?_
  refine q_iconst cx dX10_makeEmpty_11 ?_
  refine q_pX10_42_14 cx hB hv kv ⟨by decide, by decide⟩ (by decide) (by decide) rfl dX10_makeEmpty_12 (fun H locs f71 ef71 z72 hB => ?_)
  have z73 : q_is (q_z f71 v 3) 0 := by rw [ef71, q_setz (Or.inr (by decide))]; exact z70
  have z74 : q_is (q_z f71 v 4) 0 := by rw [ef71, q_setz (Or.inr (by decide))]; exact z69
  refine q_ald_n cx dX10_makeEmpty_15 rfl (lv_at hl 0 rfl) ?_
  refine q_bipush cx dX10_makeEmpty_16 rfl ?_
  refine q_pX10_45_14 cx hB hv kv ⟨by decide, by decide⟩ (by decide) (by decide) rfl dX10_makeEmpty_18 (fun H locs f75 ef75 z76 hB => ?_)
  have z77 : q_is (q_z f75 v 3) 0 := by rw [ef75, q_setz (Or.inr (by decide))]; exact z73
  have z78 : q_is (q_z f75 v 4) 0 := by rw [ef75, q_setz (Or.inr (by decide))]; exact z74
  have z79 : q_is (q_z f75 v 5) 0 := by rw [ef75, q_setz (Or.inr (by decide))]; exact z72
  refine q_ald_n cx dX10_makeEmpty_21 rfl (lv_at hl 0 rfl) ?_
  refine q_iconst cx dX10_makeEmpty_22 ?_
  refine q_pX10_48_14 cx hB hv kv ⟨by decide, by decide⟩ (by decide) (by decide) rfl dX10_makeEmpty_23 (fun H locs f80 ef80 z81 hB => ?_)
  have z82 : q_is (q_z f80 v 3) 0 := by rw [ef80, q_setz (Or.inr (by decide))]; exact z77
  have z83 : q_is (q_z f80 v 4) 0 := by rw [ef80, q_setz (Or.inr (by decide))]; exact z78
  have z84 : q_is (q_z f80 v 5) 0 := by rw [ef80, q_setz (Or.inr (by decide))]; exact z79
  have z85 : q_is (q_z f80 v 6) 12 := by rw [ef80, q_setz (Or.inr (by decide))]; exact z76
  refine q_ald_n cx dX10_makeEmpty_26 rfl (lv_at hl 0 rfl) ?_
  refine q_iconst cx dX10_makeEmpty_27 ?_
  refine q_pX10_51_14 cx hB hv kv ⟨by decide, by decide⟩ (by decide) (by decide) rfl dX10_makeEmpty_28 (fun H locs f86 ef86 z87 hB => ?_)
  have z88 : q_is (q_z f86 v 3) 0 := by rw [ef86, q_setz (Or.inr (by decide))]; exact z82
  have z89 : q_is (q_z f86 v 4) 0 := by rw [ef86, q_setz (Or.inr (by decide))]; exact z83
  have z90 : q_is (q_z f86 v 5) 0 := by rw [ef86, q_setz (Or.inr (by decide))]; exact z84
  have z91 : q_is (q_z f86 v 6) 12 := by rw [ef86, q_setz (Or.inr (by decide))]; exact z85
  have z92 : q_is (q_z f86 v 7) 1 := by rw [ef86, q_setz (Or.inr (by decide))]; exact z81
  refine q_ald_n cx dX10_makeEmpty_31 rfl (lv_at hl 0 rfl) ?_
  refine q_iconst cx dX10_makeEmpty_32 ?_
  refine q_pX10_54_14 cx hB hv kv ⟨by decide, by decide⟩ (by decide) (by decide) rfl dX10_makeEmpty_33 (fun H locs f93 ef93 z94 hB => ?_)
  have z95 : q_is (q_z f93 v 3) 0 := by rw [ef93, q_setz (Or.inr (by decide))]; exact z88
  have z96 : q_is (q_z f93 v 4) 0 := by rw [ef93, q_setz (Or.inr (by decide))]; exact z89
  have z97 : q_is (q_z f93 v 5) 0 := by rw [ef93, q_setz (Or.inr (by decide))]; exact z90
  have z98 : q_is (q_z f93 v 6) 12 := by rw [ef93, q_setz (Or.inr (by decide))]; exact z91
  have z99 : q_is (q_z f93 v 7) 1 := by rw [ef93, q_setz (Or.inr (by decide))]; exact z92
  have z100 : q_is (q_z f93 v 8) 2 := by rw [ef93, q_setz (Or.inr (by decide))]; exact z87
  refine q_ald_n cx dX10_makeEmpty_36 rfl (lv_at hl 0 rfl) ?_
  refine q_iconst cx dX10_makeEmpty_37 ?_
  refine q_pX10_57_14 cx hB hv kv ⟨by decide, by decide⟩ (by decide) (by decide) rfl dX10_makeEmpty_38 (fun H locs f101 ef101 z102 hB => ?_)
  have z103 : q_is (q_z f101 v 3) 0 := by rw [ef101, q_setz (Or.inr (by decide))]; exact z95
  have z104 : q_is (q_z f101 v 4) 0 := by rw [ef101, q_setz (Or.inr (by decide))]; exact z96
  have z105 : q_is (q_z f101 v 5) 0 := by rw [ef101, q_setz (Or.inr (by decide))]; exact z97
  have z106 : q_is (q_z f101 v 6) 12 := by rw [ef101, q_setz (Or.inr (by decide))]; exact z98
  have z107 : q_is (q_z f101 v 7) 1 := by rw [ef101, q_setz (Or.inr (by decide))]; exact z99
  have z108 : q_is (q_z f101 v 8) 2 := by rw [ef101, q_setz (Or.inr (by decide))]; exact z100
  have z109 : q_is (q_z f101 v 9) 5 := by rw [ef101, q_setz (Or.inr (by decide))]; exact z94
  refine q_ald_n cx dX10_makeEmpty_41 rfl (lv_at hl 0 rfl) ?_
  refine q_iconst cx dX10_makeEmpty_42 ?_
  refine q_pX10_60_14 cx hB hv kv ⟨by decide, by decide⟩ (by decide) (by decide) rfl dX10_makeEmpty_43 (fun H locs f110 ef110 z111 hB => ?_)
  have z112 : q_is (q_z f110 v 3) 0 := by rw [ef110, q_setz (Or.inr (by decide))]; exact z103
  have z113 : q_is (q_z f110 v 4) 0 := by rw [ef110, q_setz (Or.inr (by decide))]; exact z104
  have z114 : q_is (q_z f110 v 5) 0 := by rw [ef110, q_setz (Or.inr (by decide))]; exact z105
  have z115 : q_is (q_z f110 v 6) 12 := by rw [ef110, q_setz (Or.inr (by decide))]; exact z106
  have z116 : q_is (q_z f110 v 7) 1 := by rw [ef110, q_setz (Or.inr (by decide))]; exact z107
  have z117 : q_is (q_z f110 v 8) 2 := by rw [ef110, q_setz (Or.inr (by decide))]; exact z108
  have z118 : q_is (q_z f110 v 9) 5 := by rw [ef110, q_setz (Or.inr (by decide))]; exact z109
  have z119 : q_is (q_z f110 v 10) 3 := by rw [ef110, q_setz (Or.inr (by decide))]; exact z102
  refine q_ald_n cx dX10_makeEmpty_46 rfl (lv_at hl 0 rfl) ?_
  refine q_iconst cx dX10_makeEmpty_47 ?_
  refine q_pX10_63_14 cx hB hv kv ⟨by decide, by decide⟩ (by decide) (by decide) rfl dX10_makeEmpty_48 (fun H locs f120 ef120 z121 hB => ?_)
  have z122 : q_is (q_z f120 v 3) 0 := by rw [ef120, q_setz (Or.inr (by decide))]; exact z112
  have z123 : q_is (q_z f120 v 4) 0 := by rw [ef120, q_setz (Or.inr (by decide))]; exact z113
  have z124 : q_is (q_z f120 v 5) 0 := by rw [ef120, q_setz (Or.inr (by decide))]; exact z114
  have z125 : q_is (q_z f120 v 6) 12 := by rw [ef120, q_setz (Or.inr (by decide))]; exact z115
  have z126 : q_is (q_z f120 v 7) 1 := by rw [ef120, q_setz (Or.inr (by decide))]; exact z116
  have z127 : q_is (q_z f120 v 8) 2 := by rw [ef120, q_setz (Or.inr (by decide))]; exact z117
  have z128 : q_is (q_z f120 v 9) 5 := by rw [ef120, q_setz (Or.inr (by decide))]; exact z118
  have z129 : q_is (q_z f120 v 10) 3 := by rw [ef120, q_setz (Or.inr (by decide))]; exact z119
  have z130 : q_is (q_z f120 v 11) 0 := by rw [ef120, q_setz (Or.inr (by decide))]; exact z111
  refine q_vret cx hr hlk hB dX10_makeEmpty_51 ?_
  trivial
set_option maxHeartbeats 4000000 in
set_option maxRecDepth 100000 in
theorem g_X10_makeEmpty_3 (l : Launch) (g : q_G) {K : Nat → Nat} {L : List Nat} (hN : L.Nodup) {f : Nat → va_E} (hT : q_Ty g K L f) (v : Nat) (hv : v ∈ L) (kv : K v = 15) : q_Ct l g K L yX10_makeEmpty cX10_makeEmpty 1 none 0 0 [.ref v] f [(15, 3, 12)] (q_Pv (fun (f1 : Nat → va_E) => True)) := by
  refine q_ofb (by decide +kernel) hN hT (Nat.le_of_ble_eq_true rfl) ?_
  intro p e s m below meth c ls cx hr hlk hB hl
  have hl : lv_has ls 1 [(0, .ref v)] := hl
  obtain ⟨H, hH⟩ : ∃ H : Heap, H = s.heap := ⟨_, rfl⟩
  obtain ⟨locs, hlocs⟩ : ∃ z : List Loc, z = [] := ⟨_, rfl⟩
  rw [← hH, ← hlocs] at hB
  rw [← hH, ← hlocs]
  refine q_ald_n cx dX10_makeEmpty_0 rfl (lv_at hl 0 rfl) ?_
  refine q_iconst cx dX10_makeEmpty_1 ?_
  refine q_pX10_35_15 cx hB hv kv ⟨by decide, by decide⟩ (by decide) (by decide) rfl dX10_makeEmpty_2 (fun H locs f66 ef66 z67 hB => ?_)
  refine q_ald_n cx dX10_makeEmpty_5 rfl (lv_at hl 0 rfl) ?_
  refine q_iconst cx dX10_makeEmpty_6 ?_
  refine q_pX10_39_15 cx hB hv kv ⟨by decide, by decide⟩ (by decide) (by decide) rfl dX10_makeEmpty_7 (fun H locs f68 ef68 z69 hB => ?_)
  have z70 : q_is (q_z f68 v 3) 0 := by rw [ef68, q_setz (Or.inr (by decide))]; exact z67
  refine q_ald_n cx dX10_makeEmpty_10 rfl (lv_at hl 0 rfl) ?_
  refine q_iconst cx dX10_makeEmpty_11 ?_
  refine q_pX10_42_15 cx hB hv kv ⟨by decide, by decide⟩ (by decide) (by decide) rfl dX10_makeEmpty_12 (fun H locs f71 ef71 z72 hB => ?_)
  have z73 : q_is (q_z f71 v 3) 0 := by rw [ef71, q_setz (Or.inr (by decide))]; exact z70
  have z74 : q_is (q_z f71 v 4) 0 := by rw [ef71, q_setz (Or.inr (by decide))]; exact z69
  refine q_ald_n cx dX10_makeEmpty_15 rfl (lv_at hl 0 rfl) ?_
  refine q_bipush cx dX10_makeEmpty_16 rfl ?_
  refine q_pX10_45_15 cx hB hv kv ⟨by decide, by decide⟩ (by decide) (by decide) rfl dX10_makeEmpty_18 (fun H locs f75 ef75 z76 hB => ?_)
  have z77 : q_is (q_z f75 v 3) 0 := by rw [ef75, q_setz (Or.inr (by decide))]; exact z73
  have z78 : q_is (q_z f75 v 4) 0 := by rw [ef75, q_setz (Or.inr (by decide))]; exact z74
  have z79 : q_is (q_z f75 v 5) 0 := by rw [ef75, q_setz (Or.inr (by decide))]; exact z72
  refine q_ald_n cx dX10_makeEmpty_21 rfl (lv_at hl 0 rfl) ?_
  refine q_iconst cx dX10_makeEmpty_22 ?_
  refine q_pX10_48_15 cx hB hv kv ⟨by decide, by decide⟩ (by decide) (by decide) rfl dX10_makeEmpty_23 (fun H locs f80 ef80 z81 hB => ?_)
  have z82 : q_is (q_z f80 v 3) 0 := by rw [ef80, q_setz (Or.inr (by decide))]; exact z77
  have z83 : q_is (q_z f80 v 4) 0 := by rw [ef80, q_setz (Or.inr (by decide))]; exact z78
  have z84 : q_is (q_z f80 v 5) 0 := by rw [ef80, q_setz (Or.inr (by decide))]; exact z79
  have z85 : q_is (q_z f80 v 6) 12 := by rw [ef80, q_setz (Or.inr (by decide))]; exact z76
  refine q_ald_n cx dX10_makeEmpty_26 rfl (lv_at hl 0 rfl) ?_
  refine q_iconst cx dX10_makeEmpty_27 ?_
  refine q_pX10_51_15 cx hB hv kv ⟨by decide, by decide⟩ (by decide) (by decide) rfl dX10_makeEmpty_28 (fun H locs f86 ef86 z87 hB => ?_)
  have z88 : q_is (q_z f86 v 3) 0 := by rw [ef86, q_setz (Or.inr (by decide))]; exact z82
  have z89 : q_is (q_z f86 v 4) 0 := by rw [ef86, q_setz (Or.inr (by decide))]; exact z83
  have z90 : q_is (q_z f86 v 5) 0 := by rw [ef86, q_setz (Or.inr (by decide))]; exact z84
  have z91 : q_is (q_z f86 v 6) 12 := by rw [ef86, q_setz (Or.inr (by decide))]; exact z85
  have z92 : q_is (q_z f86 v 7) 1 := by rw [ef86, q_setz (Or.inr (by decide))]; exact z81
  refine q_ald_n cx dX10_makeEmpty_31 rfl (lv_at hl 0 rfl) ?_
  refine q_iconst cx dX10_makeEmpty_32 ?_
  refine q_pX10_54_15 cx hB hv kv ⟨by decide, by decide⟩ (by decide) (by decide) rfl dX10_makeEmpty_33 (fun H locs f93 ef93 z94 hB => ?_)
  have z95 : q_is (q_z f93 v 3) 0 := by rw [ef93, q_setz (Or.inr (by decide))]; exact z88
  have z96 : q_is (q_z f93 v 4) 0 := by rw [ef93, q_setz (Or.inr (by decide))]; exact z89
  have z97 : q_is (q_z f93 v 5) 0 := by rw [ef93, q_setz (Or.inr (by decide))]; exact z90
  have z98 : q_is (q_z f93 v 6) 12 := by rw [ef93, q_setz (Or.inr (by decide))]; exact z91
  have z99 : q_is (q_z f93 v 7) 1 := by rw [ef93, q_setz (Or.inr (by decide))]; exact z92
  have z100 : q_is (q_z f93 v 8) 2 := by rw [ef93, q_setz (Or.inr (by decide))]; exact z87
  refine q_ald_n cx dX10_makeEmpty_36 rfl (lv_at hl 0 rfl) ?_
  refine q_iconst cx dX10_makeEmpty_37 ?_
  refine q_pX10_57_15 cx hB hv kv ⟨by decide, by decide⟩ (by decide) (by decide) rfl dX10_makeEmpty_38 (fun H locs f101 ef101 z102 hB => ?_)
  have z103 : q_is (q_z f101 v 3) 0 := by rw [ef101, q_setz (Or.inr (by decide))]; exact z95
  have z104 : q_is (q_z f101 v 4) 0 := by rw [ef101, q_setz (Or.inr (by decide))]; exact z96
  have z105 : q_is (q_z f101 v 5) 0 := by rw [ef101, q_setz (Or.inr (by decide))]; exact z97
  have z106 : q_is (q_z f101 v 6) 12 := by rw [ef101, q_setz (Or.inr (by decide))]; exact z98
  have z107 : q_is (q_z f101 v 7) 1 := by rw [ef101, q_setz (Or.inr (by decide))]; exact z99
  have z108 : q_is (q_z f101 v 8) 2 := by rw [ef101, q_setz (Or.inr (by decide))]; exact z100
  have z109 : q_is (q_z f101 v 9) 5 := by rw [ef101, q_setz (Or.inr (by decide))]; exact z94
  refine q_ald_n cx dX10_makeEmpty_41 rfl (lv_at hl 0 rfl) ?_
  refine q_iconst cx dX10_makeEmpty_42 ?_
  refine q_pX10_60_15 cx hB hv kv ⟨by decide, by decide⟩ (by decide) (by decide) rfl dX10_makeEmpty_43 (fun H locs f110 ef110 z111 hB => ?_)
  have z112 : q_is (q_z f110 v 3) 0 := by rw [ef110, q_setz (Or.inr (by decide))]; exact z103
  have z113 : q_is (q_z f110 v 4) 0 := by rw [ef110, q_setz (Or.inr (by decide))]; exact z104
  have z114 : q_is (q_z f110 v 5) 0 := by rw [ef110, q_setz (Or.inr (by decide))]; exact z105
  have z115 : q_is (q_z f110 v 6) 12 := by rw [ef110, q_setz (Or.inr (by decide))]; exact z106
  have z116 : q_is (q_z f110 v 7) 1 := by rw [ef110, q_setz (Or.inr (by decide))]; exact z107
  have z117 : q_is (q_z f110 v 8) 2 := by rw [ef110, q_setz (Or.inr (by decide))]; exact z108
  have z118 : q_is (q_z f110 v 9) 5 := by rw [ef110, q_setz (Or.inr (by decide))]; exact z109
  have z119 : q_is (q_z f110 v 10) 3 := by rw [ef110, q_setz (Or.inr (by decide))]; exact z102
  refine q_ald_n cx dX10_makeEmpty_46 rfl (lv_at hl 0 rfl) ?_
  refine q_iconst cx dX10_makeEmpty_47 ?_
  refine q_pX10_63_15 cx hB hv kv ⟨by decide, by decide⟩ (by decide) (by decide) rfl dX10_makeEmpty_48 (fun H locs f120 ef120 z121 hB => ?_)
  have z122 : q_is (q_z f120 v 3) 0 := by rw [ef120, q_setz (Or.inr (by decide))]; exact z112
  have z123 : q_is (q_z f120 v 4) 0 := by rw [ef120, q_setz (Or.inr (by decide))]; exact z113
  have z124 : q_is (q_z f120 v 5) 0 := by rw [ef120, q_setz (Or.inr (by decide))]; exact z114
  have z125 : q_is (q_z f120 v 6) 12 := by rw [ef120, q_setz (Or.inr (by decide))]; exact z115
  have z126 : q_is (q_z f120 v 7) 1 := by rw [ef120, q_setz (Or.inr (by decide))]; exact z116
  have z127 : q_is (q_z f120 v 8) 2 := by rw [ef120, q_setz (Or.inr (by decide))]; exact z117
  have z128 : q_is (q_z f120 v 9) 5 := by rw [ef120, q_setz (Or.inr (by decide))]; exact z118
  have z129 : q_is (q_z f120 v 10) 3 := by rw [ef120, q_setz (Or.inr (by decide))]; exact z119
  have z130 : q_is (q_z f120 v 11) 0 := by rw [ef120, q_setz (Or.inr (by decide))]; exact z111
  refine q_vret cx hr hlk hB dX10_makeEmpty_51 ?_
  trivial
set_option maxHeartbeats 4000000 in
set_option maxRecDepth 100000 in
theorem g_X10_makeEmpty_4 (l : Launch) (g : q_G) {K : Nat → Nat} {L : List Nat} (hN : L.Nodup) {f : Nat → va_E} (hT : q_Ty g K L f) (v : Nat) (hv : v ∈ L) (kv : K v = 16) : q_Ct l g K L yX10_makeEmpty cX10_makeEmpty 1 none 0 0 [.ref v] f [(16, 3, 12)] (q_Pv (fun (f1 : Nat → va_E) => True)) := by
  refine q_ofb (by decide +kernel) hN hT (Nat.le_of_ble_eq_true rfl) ?_
  intro p e s m below meth c ls cx hr hlk hB hl
  have hl : lv_has ls 1 [(0, .ref v)] := hl
  obtain ⟨H, hH⟩ : ∃ H : Heap, H = s.heap := ⟨_, rfl⟩
  obtain ⟨locs, hlocs⟩ : ∃ z : List Loc, z = [] := ⟨_, rfl⟩
  rw [← hH, ← hlocs] at hB
  rw [← hH, ← hlocs]
  refine q_ald_n cx dX10_makeEmpty_0 rfl (lv_at hl 0 rfl) ?_
  refine q_iconst cx dX10_makeEmpty_1 ?_
  refine q_pX10_35_16 cx hB hv kv ⟨by decide, by decide⟩ (by decide) (by decide) rfl dX10_makeEmpty_2 (fun H locs f66 ef66 z67 hB => ?_)
  refine q_ald_n cx dX10_makeEmpty_5 rfl (lv_at hl 0 rfl) ?_
  refine q_iconst cx dX10_makeEmpty_6 ?_
  refine q_pX10_39_16 cx hB hv kv ⟨by decide, by decide⟩ (by decide) (by decide) rfl dX10_makeEmpty_7 (fun H locs f68 ef68 z69 hB => ?_)
  have z70 : q_is (q_z f68 v 3) 0 := by rw [ef68, q_setz (Or.inr (by decide))]; exact z67
  refine q_ald_n cx dX10_makeEmpty_10 rfl (lv_at hl 0 rfl) ?_
  refine q_iconst cx dX10_makeEmpty_11 ?_
  refine q_pX10_42_16 cx hB hv kv ⟨by decide, by decide⟩ (by decide) (by decide) rfl dX10_makeEmpty_12 (fun H locs f71 ef71 z72 hB => ?_)
  have z73 : q_is (q_z f71 v 3) 0 := by rw [ef71, q_setz (Or.inr (by decide))]; exact z70
  have z74 : q_is (q_z f71 v 4) 0 := by rw [ef71, q_setz (Or.inr (by decide))]; exact z69
  refine q_ald_n cx dX10_makeEmpty_15 rfl (lv_at hl 0 rfl) ?_
  refine q_bipush cx dX10_makeEmpty_16 rfl ?_
  refine q_pX10_45_16 cx hB hv kv ⟨by decide, by decide⟩ (by decide) (by decide) rfl dX10_makeEmpty_18 (fun H locs f75 ef75 z76 hB => ?_)
  have z77 : q_is (q_z f75 v 3) 0 := by rw [ef75, q_setz (Or.inr (by decide))]; exact z73
  have z78 : q_is (q_z f75 v 4) 0 := by rw [ef75, q_setz (Or.inr (by decide))]; exact z74
  have z79 : q_is (q_z f75 v 5) 0 := by rw [ef75, q_setz (Or.inr (by decide))]; exact z72
  refine q_ald_n cx dX10_makeEmpty_21 rfl (lv_at hl 0 rfl) ?_
  refine q_iconst cx dX10_makeEmpty_22 ?_
  refine q_pX10_48_16 cx hB hv kv ⟨by decide, by decide⟩ (by decide) (by decide) rfl dX10_makeEmpty_23 (fun H locs f80 ef80 z81 hB => ?_)
  have z82 : q_is (q_z f80 v 3) 0 := by rw [ef80, q_setz (Or.inr (by decide))]; exact z77
  have z83 : q_is (q_z f80 v 4) 0 := by rw [ef80, q_setz (Or.inr (by decide))]; exact z78
  have z84 : q_is (q_z f80 v 5) 0 := by rw [ef80, q_setz (Or.inr (by decide))]; exact z79
  have z85 : q_is (q_z f80 v 6) 12 := by rw [ef80, q_setz (Or.inr (by decide))]; exact z76
  refine q_ald_n cx dX10_makeEmpty_26 rfl (lv_at hl 0 rfl) ?_
  refine q_iconst cx dX10_makeEmpty_27 ?_
  refine q_pX10_51_16 cx hB hv kv ⟨by decide, by decide⟩ (by decide) (by decide) rfl dX10_makeEmpty_28 (fun H locs f86 ef86 z87 hB => ?_)
  have z88 : q_is (q_z f86 v 3) 0 := by rw [ef86, q_setz (Or.inr (by decide))]; exact z82
  have z89 : q_is (q_z f86 v 4) 0 := by rw [ef86, q_setz (Or.inr (by decide))]; exact z83
  have z90 : q_is (q_z f86 v 5) 0 := by rw [ef86, q_setz (Or.inr (by decide))]; exact z84
  have z91 : q_is (q_z f86 v 6) 12 := by rw [ef86, q_setz (Or.inr (by decide))]; exact z85
  have z92 : q_is (q_z f86 v 7) 1 := by rw [ef86, q_setz (Or.inr (by decide))]; exact z81
  refine q_ald_n cx dX10_makeEmpty_31 rfl (lv_at hl 0 rfl) ?_
  refine q_iconst cx dX10_makeEmpty_32 ?_
  refine q_pX10_54_16 cx hB hv kv ⟨by decide, by decide⟩ (by decide) (by decide) rfl dX10_makeEmpty_33 (fun H locs f93 ef93 z94 hB => ?_)
  have z95 : q_is (q_z f93 v 3) 0 := by rw [ef93, q_setz (Or.inr (by decide))]; exact z88
  have z96 : q_is (q_z f93 v 4) 0 := by rw [ef93, q_setz (Or.inr (by decide))]; exact z89
  have z97 : q_is (q_z f93 v 5) 0 := by rw [ef93, q_setz (Or.inr (by decide))]; exact z90
  have z98 : q_is (q_z f93 v 6) 12 := by rw [ef93, q_setz (Or.inr (by decide))]; exact z91
  have z99 : q_is (q_z f93 v 7) 1 := by rw [ef93, q_setz (Or.inr (by decide))]; exact z92
  have z100 : q_is (q_z f93 v 8) 2 := by rw [ef93, q_setz (Or.inr (by decide))]; exact z87
  refine q_ald_n cx dX10_makeEmpty_36 rfl (lv_at hl 0 rfl) ?_
  refine q_iconst cx dX10_makeEmpty_37 ?_
  refine q_pX10_57_16 cx hB hv kv ⟨by decide, by decide⟩ (by decide) (by decide) rfl dX10_makeEmpty_38 (fun H locs f101 ef101 z102 hB => ?_)
  have z103 : q_is (q_z f101 v 3) 0 := by rw [ef101, q_setz (Or.inr (by decide))]; exact z95
  have z104 : q_is (q_z f101 v 4) 0 := by rw [ef101, q_setz (Or.inr (by decide))]; exact z96
  have z105 : q_is (q_z f101 v 5) 0 := by rw [ef101, q_setz (Or.inr (by decide))]; exact z97
  have z106 : q_is (q_z f101 v 6) 12 := by rw [ef101, q_setz (Or.inr (by decide))]; exact z98
  have z107 : q_is (q_z f101 v 7) 1 := by rw [ef101, q_setz (Or.inr (by decide))]; exact z99
  have z108 : q_is (q_z f101 v 8) 2 := by rw [ef101, q_setz (Or.inr (by decide))]; exact z100
  have z109 : q_is (q_z f101 v 9) 5 := by rw [ef101, q_setz (Or.inr (by decide))]; exact z94
  refine q_ald_n cx dX10_makeEmpty_41 rfl (lv_at hl 0 rfl) ?_
  refine q_iconst cx dX10_makeEmpty_42 ?_
  refine q_pX10_60_16 cx hB hv kv ⟨by decide, by decide⟩ (by decide) (by decide) rfl dX10_makeEmpty_43 (fun H locs f110 ef110 z111 hB => ?_)
  have z112 : q_is (q_z f110 v 3) 0 := by rw [ef110, q_setz (Or.inr (by decide))]; exact z103
  have z113 : q_is (q_z f110 v 4) 0 := by rw [ef110, q_setz (Or.inr (by decide))]; exact z104
  have z114 : q_is (q_z f110 v 5) 0 := by rw [ef110, q_setz (Or.inr (by decide))]; exact z105
  have z115 : q_is (q_z f110 v 6) 12 := by rw [ef110, q_setz (Or.inr (by decide))]; exact z106
  have z116 : q_is (q_z f110 v 7) 1 := by rw [ef110, q_setz (Or.inr (by decide))]; exact z107
  have z117 : q_is (q_z f110 v 8) 2 := by rw [ef110, q_setz (Or.inr (by decide))]; exact z108
  have z118 : q_is (q_z f110 v 9) 5 := by rw [ef110, q_setz (Or.inr (by decide))]; exact z109
  have z119 : q_is (q_z f110 v 10) 3 := by rw [ef110, q_setz (Or.inr (by decide))]; exact z102
  refine q_ald_n cx dX10_makeEmpty_46 rfl (lv_at hl 0 rfl) ?_
  refine q_iconst cx dX10_makeEmpty_47 ?_
  refine q_pX10_63_16 cx hB hv kv ⟨by decide, by decide⟩ (by decide) (by decide) rfl dX10_makeEmpty_48 (fun H locs f120 ef120 z121 hB => ?_)
  have z122 : q_is (q_z f120 v 3) 0 := by rw [ef120, q_setz (Or.inr (by decide))]; exact z112
  have z123 : q_is (q_z f120 v 4) 0 := by rw [ef120, q_setz (Or.inr (by decide))]; exact z113
  have z124 : q_is (q_z f120 v 5) 0 := by rw [ef120, q_setz (Or.inr (by decide))]; exact z114
  have z125 : q_is (q_z f120 v 6) 12 := by rw [ef120, q_setz (Or.inr (by decide))]; exact z115
  have z126 : q_is (q_z f120 v 7) 1 := by rw [ef120, q_setz (Or.inr (by decide))]; exact z116
  have z127 : q_is (q_z f120 v 8) 2 := by rw [ef120, q_setz (Or.inr (by decide))]; exact z117
  have z128 : q_is (q_z f120 v 9) 5 := by rw [ef120, q_setz (Or.inr (by decide))]; exact z118
  have z129 : q_is (q_z f120 v 10) 3 := by rw [ef120, q_setz (Or.inr (by decide))]; exact z119
  have z130 : q_is (q_z f120 v 11) 0 := by rw [ef120, q_setz (Or.inr (by decide))]; exact z111
  refine q_vret cx hr hlk hB dX10_makeEmpty_51 ?_
  trivial
set_option maxHeartbeats 4000000 in
set_option maxRecDepth 100000 in
theorem g_X9_readYear (l : Launch) (g : q_G) {K : Nat → Nat} {L : List Nat} (hN : L.Nodup) {f : Nat → va_E} (hT : q_Ty g K L f) (v : Nat) (hv : v ∈ L) (kv : K v = 9) (p0 : Nat) (hp0 : p0 ∈ L) (kp0 : K p0 = 8) (p1 : Nat) (hp1 : p1 ∈ L) (kp1 : K p1 = 13) : q_Ct l g K L yX9_readYear cX9_readYear 3 (some .boolean) 4 84 [.ref v, .ref p0, .ref p1] f [(8, 2, 9), (9, 0, 0), (13, 6, 6)] (q_Pi (fun (z : Int) (f1 : Nat → va_E) => 0 ≤ z ∧ z ≤ 1)) := by
  refine q_ofb (by decide +kernel) hN hT (Nat.le_of_ble_eq_true rfl) ?_
  intro p e s m below meth c ls cx hr hlk hB hl
  have hl : lv_has ls 3 [(0, .ref v), (1, .ref p0), (2, .ref p1)] := hl
  obtain ⟨H, hH⟩ : ∃ H : Heap, H = s.heap := ⟨_, rfl⟩
  obtain ⟨locs, hlocs⟩ : ∃ z : List Loc, z = [] := ⟨_, rfl⟩
  rw [← hH, ← hlocs] at hB
  rw [← hH, ← hlocs]
  refine q_ald_n cx dX9_readYear_0 rfl (lv_at hl 0 rfl) ?_
  obtain ⟨x26, ex26⟩ : ∃ zz, q_is (q_z f v 0) zz := ⟨_, q_isr _⟩
  refine q_gX9_9 cx hB hv kv ex26 dX9_readYear_1 (fun lb27 ub27 => ?_)
  refine q_ifeq (tgt := 13) cx ⟨by omega, by omega⟩ dX9_readYear_4 (by decide) (fun c28 => ?_) (fun c28 => ?_)
  · refine q_ald_n cx dX9_readYear_13 rfl (lv_at hl 0 rfl) ?_
    refine q_iconst cx dX9_readYear_14 ?_
    refine q_pX9_9 cx hB hv kv ⟨by decide, by decide⟩ (by decide) (by decide) rfl dX9_readYear_15 (fun H locs f29 ef29 z30 hB => ?_)
    refine q_ald_n cx dX9_readYear_18 rfl (lv_at hl 1 rfl) ?_
    refine q_cVv (As := []) (rest := []) cx hB (fun _ h => h) hN hp0 kp0 (by decide) rfl (g_X8_advance l g hN hB.2.1 p0 hp0 kp0) q_cX9_78 q_dX8_advance (by decide) rfl rfl hl.1 rfl (Nat.le_of_ble_eq_true rfl) dX9_readYear_19 (fun H locs f31 h33 hF hB => ?_)
    have z34 : q_is (q_z f31 v 0) 1 := Eq.trans (hF.z hv (by rw [kv]; rfl)) z30
    refine q_ald_n cx dX9_readYear_22 rfl (lv_at hl 1 rfl) ?_
    refine q_iconst cx dX9_readYear_23 ?_
    refine q_bipush cx dX9_readYear_24 rfl ?_
    refine q_cVi (As := [.int (q_i 4), .int (q_i 60)]) (rest := []) cx hB (fun _ h => h) hN hp0 kp0 (by decide) rfl (g_X8_takeNumber l g hN hB.2.1 p0 hp0 kp0 4 (by decide) (by decide) 60 (by decide) (by decide)) q_cX9_81 q_dX8_takeNumber (by decide) rfl rfl hl.1 rfl (Nat.le_of_ble_eq_true rfl) dX9_readYear_26 (fun y36 H locs f35 ry36 h37 hF hB => ?_)
    obtain ⟨ly36, uy36, t38⟩ := h37
    have z39 : q_is (q_z f35 v 0) 1 := Eq.trans (hF.z hv (by rw [kv]; rfl)) z34
    refine q_ifne (tgt := 34) cx ⟨by omega, by omega⟩ dX9_readYear_29 (by decide) (fun c40 => ?_) (fun c40 => ?_)
    · refine q_ald_n cx dX9_readYear_34 rfl (lv_at hl 2 rfl) ?_
      refine q_ald_n cx dX9_readYear_35 rfl (lv_at hl 1 rfl) ?_
      obtain ⟨x41, ex41⟩ : ∃ zz, q_is (q_z f35 p0 5) zz := ⟨_, q_isr _⟩
      have lx41 : 4 ≤ x41 := by have h7 : _ = _ := ex41; omega
      have ux41 : x41 ≤ 60 := by have h7 : _ = _ := ex41; omega
      refine q_gX9_85 cx hB hp0 kp0 ex41 dX9_readYear_36 (fun lb42 ub42 => ?_)
      refine q_pX9_89_13 cx hB hp1 kp1 ⟨by omega, by omega⟩ (by omega) (by omega) rfl dX9_readYear_39 (fun H locs f43 ef43 z44 hB => ?_)
      have z45 : q_is (q_z f43 v 0) 1 := by rw [ef43, q_setz (Or.inr (by decide))]; exact z39
      have z46 : q_is (q_z f43 p0 5) x41 := by rw [ef43, q_setz (Or.inr (by decide))]; exact ex41
      refine q_iconst cx dX9_readYear_42 ?_
      refine q_zret cx hr hlk hB dX9_readYear_43 (by decide) (by decide) ?_
      exact ⟨(by decide), (by decide)⟩
    · refine q_iconst cx dX9_readYear_32 ?_
      refine q_zret cx hr hlk hB dX9_readYear_33 (by decide) (by decide) ?_
      exact ⟨(by decide), (by decide)⟩
  · refine q_ald_n cx dX9_readYear_7 rfl (lv_at hl 1 rfl) ?_
    refine q_iconst cx dX9_readYear_8 ?_
    refine q_cVi (As := [.int (q_i 3)]) (rest := []) cx hB (fun _ h => h) hN hp0 kp0 (by decide) rfl (g_X8_fail l g hN hB.2.1 p0 hp0 kp0 3 (by decide) (by decide)) q_cX9_75 q_dX8_fail (by decide) rfl rfl hl.1 rfl (Nat.le_of_ble_eq_true rfl) dX9_readYear_9 (fun y48 H locs f47 ry48 h49 hF hB => ?_)
    obtain ⟨ly48, uy48⟩ := h49
    have z50 : q_is (q_z f47 v 0) x26 := Eq.trans (hF.z hv (by rw [kv]; rfl)) ex26
    refine q_zret cx hr hlk hB dX9_readYear_12 (by omega) (by omega) ?_
    exact ⟨(by omega), (by omega)⟩
