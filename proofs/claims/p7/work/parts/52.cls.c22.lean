set_option maxHeartbeats 4000000 in
set_option maxRecDepth 100000 in
theorem g_X9_readCosts (l : Launch) (g : q_G) {K : Nat → Nat} {L : List Nat} (hN : L.Nodup) {f : Nat → va_E} (hT : q_Ty g K L f) (v : Nat) (hv : v ∈ L) (kv : K v = 9) (p0 : Nat) (hp0 : p0 ∈ L) (kp0 : K p0 = 8) (p1 : Nat) (hp1 : p1 ∈ L) (kp1 : K p1 = 13) : q_Ct l g K L yX9_readCosts cX9_readCosts 3 (some .boolean) 4 84 [.ref v, .ref p0, .ref p1] f [(8, 2, 9), (9, 1, 1), (13, 7, 9)] (q_Pi (fun (z : Int) (f1 : Nat → va_E) => 0 ≤ z ∧ z ≤ 1)) := by
  refine q_ofb (by decide +kernel) hN hT (Nat.le_of_ble_eq_true rfl) ?_
  intro p e s m below meth c ls cx hr hlk hB hl
  have hl : lv_has ls 3 [(0, .ref v), (1, .ref p0), (2, .ref p1)] := hl
  obtain ⟨H, hH⟩ : ∃ H : Heap, H = s.heap := ⟨_, rfl⟩
  obtain ⟨locs, hlocs⟩ : ∃ z : List Loc, z = [] := ⟨_, rfl⟩
  rw [← hH, ← hlocs] at hB
  rw [← hH, ← hlocs]
  refine q_ald_n cx dX9_readCosts_0 rfl (lv_at hl 0 rfl) ?_
  obtain ⟨x56, ex56⟩ : ∃ zz, q_is (q_z f v 1) zz := ⟨_, q_isr _⟩
  refine q_gX9_15 cx hB hv kv ex56 dX9_readCosts_1 (fun lb57 ub57 => ?_)
  refine q_ifeq (tgt := 13) cx ⟨by omega, by omega⟩ dX9_readCosts_4 (by decide) (fun c58 => ?_) (fun c58 => ?_)
  · refine q_ald_n cx dX9_readCosts_13 rfl (lv_at hl 0 rfl) ?_
    refine q_iconst cx dX9_readCosts_14 ?_
    refine q_pX9_15 cx hB hv kv ⟨by decide, by decide⟩ (by decide) (by decide) rfl dX9_readCosts_15 (fun H locs f59 ef59 z60 hB => ?_)
    refine q_ald_n cx dX9_readCosts_18 rfl (lv_at hl 1 rfl) ?_
    refine q_cVv (As := []) (rest := []) cx hB (fun _ h => h) hN hp0 kp0 (by decide) rfl (g_X8_advance l g hN hB.2.1 p0 hp0 kp0) q_cX9_78 q_dX8_advance (by decide) rfl rfl hl.1 rfl (Nat.le_of_ble_eq_true rfl) dX9_readCosts_19 (fun H locs f61 h63 hF hB => ?_)
    have z64 : q_is (q_z f61 v 1) 1 := Eq.trans (hF.z hv (by rw [kv]; rfl)) z60
    refine q_ald_n cx dX9_readCosts_22 rfl (lv_at hl 1 rfl) ?_
    refine q_iconst cx dX9_readCosts_23 ?_
    refine q_bipush cx dX9_readCosts_24 rfl ?_
    refine q_cVi (As := [.int (q_i 0), .int (q_i 99)]) (rest := []) cx hB (fun _ h => h) hN hp0 kp0 (by decide) rfl (g_X8_takeNumber l g hN hB.2.1 p0 hp0 kp0 0 (by decide) (by decide) 99 (by decide) (by decide)) q_cX9_81 q_dX8_takeNumber (by decide) rfl rfl hl.1 rfl (Nat.le_of_ble_eq_true rfl) dX9_readCosts_26 (fun y66 H locs f65 ry66 h67 hF hB => ?_)
    obtain ⟨ly66, uy66, t68⟩ := h67
    have z69 : q_is (q_z f65 v 1) 1 := Eq.trans (hF.z hv (by rw [kv]; rfl)) z64
    refine q_ifne (tgt := 34) cx ⟨by omega, by omega⟩ dX9_readCosts_29 (by decide) (fun c70 => ?_) (fun c70 => ?_)
    · refine q_ald_n cx dX9_readCosts_34 rfl (lv_at hl 2 rfl) ?_
      refine q_ald_n cx dX9_readCosts_35 rfl (lv_at hl 1 rfl) ?_
      obtain ⟨x71, ex71⟩ : ∃ zz, q_is (q_z f65 p0 5) zz := ⟨_, q_isr _⟩
      refine q_gX9_85 cx hB hp0 kp0 ex71 dX9_readCosts_36 (fun lb72 ub72 => ?_)
      refine q_pX9_91_13 cx hB hp1 kp1 ⟨by omega, by omega⟩ (by omega) (by omega) rfl dX9_readCosts_39 (fun H locs f73 ef73 z74 hB => ?_)
      have z75 : q_is (q_z f73 v 1) 1 := by rw [ef73, q_setz (Or.inr (by decide))]; exact z69
      have z76 : q_is (q_z f73 p0 5) x71 := by rw [ef73, q_setz (Or.inr (by decide))]; exact ex71
      refine q_ald_n cx dX9_readCosts_42 rfl (lv_at hl 1 rfl) ?_
      refine q_iconst cx dX9_readCosts_43 ?_
      refine q_bipush cx dX9_readCosts_44 rfl ?_
      refine q_cVi (As := [.int (q_i 0), .int (q_i 99)]) (rest := []) cx hB (fun _ h => h) hN hp0 kp0 (by decide) rfl (g_X8_takeNumber l g hN hB.2.1 p0 hp0 kp0 0 (by decide) (by decide) 99 (by decide) (by decide)) q_cX9_81 q_dX8_takeNumber (by decide) rfl rfl hl.1 rfl (Nat.le_of_ble_eq_true rfl) dX9_readCosts_46 (fun y78 H locs f77 ry78 h79 hF hB => ?_)
      obtain ⟨ly78, uy78, t80⟩ := h79
      have z81 : q_is (q_z f77 v 1) 1 := Eq.trans (hF.z hv (by rw [kv]; rfl)) z75
      have z82 : q_is (q_z f77 p1 7) x71 := Eq.trans (hF.z hp1 (by rw [kp1]; rfl)) z74
      refine q_ifne (tgt := 54) cx ⟨by omega, by omega⟩ dX9_readCosts_49 (by decide) (fun c83 => ?_) (fun c83 => ?_)
      · refine q_ald_n cx dX9_readCosts_54 rfl (lv_at hl 2 rfl) ?_
        refine q_ald_n cx dX9_readCosts_55 rfl (lv_at hl 1 rfl) ?_
        obtain ⟨x84, ex84⟩ : ∃ zz, q_is (q_z f77 p0 5) zz := ⟨_, q_isr _⟩
        refine q_gX9_85 cx hB hp0 kp0 ex84 dX9_readCosts_56 (fun lb85 ub85 => ?_)
        refine q_pX9_94_13 cx hB hp1 kp1 ⟨by omega, by omega⟩ (by omega) (by omega) rfl dX9_readCosts_59 (fun H locs f86 ef86 z87 hB => ?_)
        have z88 : q_is (q_z f86 v 1) 1 := by rw [ef86, q_setz (Or.inr (by decide))]; exact z81
        have z89 : q_is (q_z f86 p1 7) x71 := by rw [ef86, q_setz (Or.inr (by decide))]; exact z82
        have z90 : q_is (q_z f86 p0 5) x84 := by rw [ef86, q_setz (Or.inr (by decide))]; exact ex84
        refine q_ald_n cx dX9_readCosts_62 rfl (lv_at hl 1 rfl) ?_
        refine q_iconst cx dX9_readCosts_63 ?_
        refine q_bipush cx dX9_readCosts_64 rfl ?_
        refine q_cVi (As := [.int (q_i 0), .int (q_i 99)]) (rest := []) cx hB (fun _ h => h) hN hp0 kp0 (by decide) rfl (g_X8_takeNumber l g hN hB.2.1 p0 hp0 kp0 0 (by decide) (by decide) 99 (by decide) (by decide)) q_cX9_81 q_dX8_takeNumber (by decide) rfl rfl hl.1 rfl (Nat.le_of_ble_eq_true rfl) dX9_readCosts_66 (fun y92 H locs f91 ry92 h93 hF hB => ?_)
        obtain ⟨ly92, uy92, t94⟩ := h93
        have z95 : q_is (q_z f91 v 1) 1 := Eq.trans (hF.z hv (by rw [kv]; rfl)) z88
        have z96 : q_is (q_z f91 p1 7) x71 := Eq.trans (hF.z hp1 (by rw [kp1]; rfl)) z89
        have z97 : q_is (q_z f91 p1 8) x84 := Eq.trans (hF.z hp1 (by rw [kp1]; rfl)) z87
        refine q_ifne (tgt := 74) cx ⟨by omega, by omega⟩ dX9_readCosts_69 (by decide) (fun c98 => ?_) (fun c98 => ?_)
        · refine q_ald_n cx dX9_readCosts_74 rfl (lv_at hl 2 rfl) ?_
          refine q_ald_n cx dX9_readCosts_75 rfl (lv_at hl 1 rfl) ?_
          obtain ⟨x99, ex99⟩ : ∃ zz, q_is (q_z f91 p0 5) zz := ⟨_, q_isr _⟩
          refine q_gX9_85 cx hB hp0 kp0 ex99 dX9_readCosts_76 (fun lb100 ub100 => ?_)
          refine q_pX9_97_13 cx hB hp1 kp1 ⟨by omega, by omega⟩ (by omega) (by omega) rfl dX9_readCosts_79 (fun H locs f101 ef101 z102 hB => ?_)
          have z103 : q_is (q_z f101 v 1) 1 := by rw [ef101, q_setz (Or.inr (by decide))]; exact z95
          have z104 : q_is (q_z f101 p1 7) x71 := by rw [ef101, q_setz (Or.inr (by decide))]; exact z96
          have z105 : q_is (q_z f101 p1 8) x84 := by rw [ef101, q_setz (Or.inr (by decide))]; exact z97
          have z106 : q_is (q_z f101 p0 5) x99 := by rw [ef101, q_setz (Or.inr (by decide))]; exact ex99
          refine q_iconst cx dX9_readCosts_82 ?_
          refine q_zret cx hr hlk hB dX9_readCosts_83 (by decide) (by decide) ?_
          exact ⟨(by decide), (by decide)⟩
        · refine q_iconst cx dX9_readCosts_72 ?_
          refine q_zret cx hr hlk hB dX9_readCosts_73 (by decide) (by decide) ?_
          exact ⟨(by decide), (by decide)⟩
      · refine q_iconst cx dX9_readCosts_52 ?_
        refine q_zret cx hr hlk hB dX9_readCosts_53 (by decide) (by decide) ?_
        exact ⟨(by decide), (by decide)⟩
    · refine q_iconst cx dX9_readCosts_32 ?_
      refine q_zret cx hr hlk hB dX9_readCosts_33 (by decide) (by decide) ?_
      exact ⟨(by decide), (by decide)⟩
  · refine q_ald_n cx dX9_readCosts_7 rfl (lv_at hl 1 rfl) ?_
    refine q_iconst cx dX9_readCosts_8 ?_
    refine q_cVi (As := [.int (q_i 3)]) (rest := []) cx hB (fun _ h => h) hN hp0 kp0 (by decide) rfl (g_X8_fail l g hN hB.2.1 p0 hp0 kp0 3 (by decide) (by decide)) q_cX9_75 q_dX8_fail (by decide) rfl rfl hl.1 rfl (Nat.le_of_ble_eq_true rfl) dX9_readCosts_9 (fun y108 H locs f107 ry108 h109 hF hB => ?_)
    obtain ⟨ly108, uy108⟩ := h109
    have z110 : q_is (q_z f107 v 1) x56 := Eq.trans (hF.z hv (by rw [kv]; rfl)) ex56
    refine q_zret cx hr hlk hB dX9_readCosts_12 (by omega) (by omega) ?_
    exact ⟨(by omega), (by omega)⟩
set_option maxHeartbeats 4000000 in
set_option maxRecDepth 100000 in
theorem g_X9_readMiss (l : Launch) (g : q_G) {K : Nat → Nat} {L : List Nat} (hN : L.Nodup) {f : Nat → va_E} (hT : q_Ty g K L f) (v : Nat) (hv : v ∈ L) (kv : K v = 9) (p0 : Nat) (hp0 : p0 ∈ L) (kp0 : K p0 = 8) (p1 : Nat) (hp1 : p1 ∈ L) (kp1 : K p1 = 13) : q_Ct l g K L yX9_readMiss cX9_readMiss 3 (some .boolean) 4 84 [.ref v, .ref p0, .ref p1] f [(8, 2, 9), (9, 2, 2), (13, 10, 10)] (q_Pi (fun (z : Int) (f1 : Nat → va_E) => 0 ≤ z ∧ z ≤ 1)) := by
  refine q_ofb (by decide +kernel) hN hT (Nat.le_of_ble_eq_true rfl) ?_
  intro p e s m below meth c ls cx hr hlk hB hl
  have hl : lv_has ls 3 [(0, .ref v), (1, .ref p0), (2, .ref p1)] := hl
  obtain ⟨H, hH⟩ : ∃ H : Heap, H = s.heap := ⟨_, rfl⟩
  obtain ⟨locs, hlocs⟩ : ∃ z : List Loc, z = [] := ⟨_, rfl⟩
  rw [← hH, ← hlocs] at hB
  rw [← hH, ← hlocs]
  refine q_ald_n cx dX9_readMiss_0 rfl (lv_at hl 0 rfl) ?_
  obtain ⟨x26, ex26⟩ : ∃ zz, q_is (q_z f v 2) zz := ⟨_, q_isr _⟩
  refine q_gX9_18 cx hB hv kv ex26 dX9_readMiss_1 (fun lb27 ub27 => ?_)
  refine q_ifeq (tgt := 13) cx ⟨by omega, by omega⟩ dX9_readMiss_4 (by decide) (fun c28 => ?_) (fun c28 => ?_)
  · refine q_ald_n cx dX9_readMiss_13 rfl (lv_at hl 0 rfl) ?_
    refine q_iconst cx dX9_readMiss_14 ?_
    refine q_pX9_18 cx hB hv kv ⟨by decide, by decide⟩ (by decide) (by decide) rfl dX9_readMiss_15 (fun H locs f29 ef29 z30 hB => ?_)
    refine q_ald_n cx dX9_readMiss_18 rfl (lv_at hl 1 rfl) ?_
    refine q_cVv (As := []) (rest := []) cx hB (fun _ h => h) hN hp0 kp0 (by decide) rfl (g_X8_advance l g hN hB.2.1 p0 hp0 kp0) q_cX9_78 q_dX8_advance (by decide) rfl rfl hl.1 rfl (Nat.le_of_ble_eq_true rfl) dX9_readMiss_19 (fun H locs f31 h33 hF hB => ?_)
    have z34 : q_is (q_z f31 v 2) 1 := Eq.trans (hF.z hv (by rw [kv]; rfl)) z30
    refine q_ald_n cx dX9_readMiss_22 rfl (lv_at hl 1 rfl) ?_
    refine q_iconst cx dX9_readMiss_23 ?_
    refine q_bipush cx dX9_readMiss_24 rfl ?_
    refine q_cVi (As := [.int (q_i 1), .int (q_i 9)]) (rest := []) cx hB (fun _ h => h) hN hp0 kp0 (by decide) rfl (g_X8_takeNumber l g hN hB.2.1 p0 hp0 kp0 1 (by decide) (by decide) 9 (by decide) (by decide)) q_cX9_81 q_dX8_takeNumber (by decide) rfl rfl hl.1 rfl (Nat.le_of_ble_eq_true rfl) dX9_readMiss_26 (fun y36 H locs f35 ry36 h37 hF hB => ?_)
    obtain ⟨ly36, uy36, t38⟩ := h37
    have z39 : q_is (q_z f35 v 2) 1 := Eq.trans (hF.z hv (by rw [kv]; rfl)) z34
    refine q_ifne (tgt := 34) cx ⟨by omega, by omega⟩ dX9_readMiss_29 (by decide) (fun c40 => ?_) (fun c40 => ?_)
    · refine q_ald_n cx dX9_readMiss_34 rfl (lv_at hl 2 rfl) ?_
      refine q_ald_n cx dX9_readMiss_35 rfl (lv_at hl 1 rfl) ?_
      obtain ⟨x41, ex41⟩ : ∃ zz, q_is (q_z f35 p0 5) zz := ⟨_, q_isr _⟩
      refine q_gX9_85 cx hB hp0 kp0 ex41 dX9_readMiss_36 (fun lb42 ub42 => ?_)
      refine q_pX9_100_13 cx hB hp1 kp1 ⟨by omega, by omega⟩ (by omega) (by omega) rfl dX9_readMiss_39 (fun H locs f43 ef43 z44 hB => ?_)
      have z45 : q_is (q_z f43 v 2) 1 := by rw [ef43, q_setz (Or.inr (by decide))]; exact z39
      have z46 : q_is (q_z f43 p0 5) x41 := by rw [ef43, q_setz (Or.inr (by decide))]; exact ex41
      refine q_iconst cx dX9_readMiss_42 ?_
      refine q_zret cx hr hlk hB dX9_readMiss_43 (by decide) (by decide) ?_
      exact ⟨(by decide), (by decide)⟩
    · refine q_iconst cx dX9_readMiss_32 ?_
      refine q_zret cx hr hlk hB dX9_readMiss_33 (by decide) (by decide) ?_
      exact ⟨(by decide), (by decide)⟩
  · refine q_ald_n cx dX9_readMiss_7 rfl (lv_at hl 1 rfl) ?_
    refine q_iconst cx dX9_readMiss_8 ?_
    refine q_cVi (As := [.int (q_i 3)]) (rest := []) cx hB (fun _ h => h) hN hp0 kp0 (by decide) rfl (g_X8_fail l g hN hB.2.1 p0 hp0 kp0 3 (by decide) (by decide)) q_cX9_75 q_dX8_fail (by decide) rfl rfl hl.1 rfl (Nat.le_of_ble_eq_true rfl) dX9_readMiss_9 (fun y48 H locs f47 ry48 h49 hF hB => ?_)
    obtain ⟨ly48, uy48⟩ := h49
    have z50 : q_is (q_z f47 v 2) x26 := Eq.trans (hF.z hv (by rw [kv]; rfl)) ex26
    refine q_zret cx hr hlk hB dX9_readMiss_12 (by omega) (by omega) ?_
    exact ⟨(by omega), (by omega)⟩
set_option maxHeartbeats 4000000 in
set_option maxRecDepth 100000 in
theorem g_X10_addNode (l : Launch) (g : q_G) {K : Nat → Nat} {L : List Nat} (hN : L.Nodup) {f : Nat → va_E} (hT : q_Ty g K L f) (v : Nat) (hv : v ∈ L) (kv : K v = 10) (p0 : Int64) (p1 : Int) (lp1 : (-2147483648) ≤ p1) (up1 : p1 ≤ 2147483647) (p2 : Int) (lp2 : (-2147483648) ≤ p2) (up2 : p2 ≤ 2147483647) (p3 : Int) (lp3 : (-2147483648) ≤ p3) (up3 : p3 ≤ 2147483647) : q_Ct l g K L yX10_addNode cX10_addNode 7 none 1 21 [.ref v, .long p0, .int (q_i p1), .int (q_i p2), .int (q_i p3)] f [(5, 0, 8), (10, 3, 3)] (q_Pv (fun (f1 : Nat → va_E) => True)) := by
  refine q_ofb (by decide +kernel) hN hT (Nat.le_of_ble_eq_true rfl) ?_
  intro p e s m below meth c ls cx hr hlk hB hl
  have hl : lv_has ls 7 [(0, .ref v), (1, .long p0), (3, .int (q_i p1)), (4, .int (q_i p2)), (5, .int (q_i p3))] := hl
  obtain ⟨H, hH⟩ : ∃ H : Heap, H = s.heap := ⟨_, rfl⟩
  obtain ⟨locs, hlocs⟩ : ∃ z : List Loc, z = [] := ⟨_, rfl⟩
  rw [← hH, ← hlocs] at hB
  rw [← hH, ← hlocs]
  refine q_ald_n cx dX10_addNode_0 rfl (lv_at hl 0 rfl) ?_
  obtain ⟨x78, ex78⟩ : ∃ zz, q_is (q_z f v 3) zz := ⟨_, q_isr _⟩
  refine q_gX10_35 cx hB hv kv ex78 dX10_addNode_1 (fun lb79 ub79 => ?_)
  refine q_ald_n cx dX10_addNode_4 rfl (lv_at hl 0 rfl) ?_
  obtain ⟨p80, ep80⟩ : ∃ zz, q_ir (q_r f v 0) zz := ⟨_, q_irr _⟩
  refine q_gX10_13 cx hB hv kv ep80 dX10_addNode_5 (fun hb81 kb81 => ?_)
  refine q_alen (n := 10) cx hB hb81 kb81 (by decide) rfl 7 rfl rfl dX10_addNode_8 ?_
  refine q_iclt (tgt := 13) cx ⟨by omega, by omega⟩ ⟨by decide, by decide⟩ dX10_addNode_9 (by decide) (fun c82 => ?_) (fun c82 => ?_)
  · refine q_ald_n cx dX10_addNode_13 rfl (lv_at hl 0 rfl) ?_
    refine q_ald_n cx dX10_addNode_14 rfl (lv_at hl 0 rfl) ?_
    refine q_gX10_35 cx hB hv kv ex78 dX10_addNode_15 (fun lb83 ub83 => ?_)
    refine q_cVr (As := [.int (q_i x78)]) (rest := []) cx hB (fun _ h => h) hN hv kv (by decide) rfl (g_X10_nodeAt l g hN hB.2.1 v hv kv x78 (by omega) (by omega)) q_cX10_66 q_dX10_nodeAt (by decide) rfl rfl hl.1 rfl (Nat.le_of_ble_eq_true rfl) dX10_addNode_18 (fun y85 H locs f84 h86 hF hB => ?_)
    obtain ⟨rfl, hy85, ky85⟩ := h86
    refine lv_astore (lv' := [(6, .ref y85), (0, .ref v), (1, .long p0), (3, .int (q_i p1)), (4, .int (q_i p2)), (5, .int (q_i p3))]) cx.1 cx.2.1 dX10_addNode_21 hl (by decide) rfl (fun ls hl => ?_)
    refine lv_aload cx.1 cx.2.1 dX10_addNode_23 (lv_at hl 0 rfl) ?_
    refine q_lld_n cx dX10_addNode_25 rfl (lv_at hl 2 rfl) ?_
    refine q_pX10_88 cx hB hy85 ky85 rfl dX10_addNode_26 (fun H locs f87 ef87 z88 hB => ?_)
    have z89 : q_is (q_z f87 v 3) x78 := by rw [ef87, q_setz (Or.inr (by decide))]; exact ex78
    have z90 : q_ir (q_r f87 v 0) p80 := by rw [ef87, q_setr (Or.inl (fun q => by rw [q, ky85] at kv; exact absurd kv (by decide)))]; exact ep80
    refine lv_aload cx.1 cx.2.1 dX10_addNode_29 (lv_at hl 0 rfl) ?_
    refine q_lconst (z := 0) cx (by decide) dX10_addNode_31 ?_
    refine q_pX10_92 cx hB hy85 ky85 rfl dX10_addNode_32 (fun H locs f91 ef91 z92 hB => ?_)
    have z93 : q_is (q_z f91 v 3) x78 := by rw [ef91, q_setz (Or.inr (by decide))]; exact z89
    have z94 : q_ir (q_r f91 v 0) p80 := by rw [ef91, q_setr (Or.inr (by decide))]; exact z90
    refine lv_aload cx.1 cx.2.1 dX10_addNode_35 (lv_at hl 0 rfl) ?_
    refine q_ild_n cx dX10_addNode_37 rfl (lv_at hl 3 rfl) ?_
    refine q_pX10_95 cx hB hy85 ky85 ⟨by omega, by omega⟩ (by omega) (by omega) rfl dX10_addNode_38 (fun H locs f95 ef95 z96 hB => ?_)
    have z97 : q_is (q_z f95 v 3) x78 := by rw [ef95, q_setz (Or.inr (by decide))]; exact z93
    have z98 : q_ir (q_r f95 v 0) p80 := by rw [ef95, q_setr (Or.inr (by decide))]; exact z94
    refine lv_aload cx.1 cx.2.1 dX10_addNode_41 (lv_at hl 0 rfl) ?_
    refine lv_iload cx.1 cx.2.1 dX10_addNode_43 (lv_at hl 4 rfl) ?_
    refine q_pX10_98 cx hB hy85 ky85 ⟨by omega, by omega⟩ (by omega) (by omega) rfl dX10_addNode_45 (fun H locs f99 ef99 z100 hB => ?_)
    have z101 : q_is (q_z f99 v 3) x78 := by rw [ef99, q_setz (Or.inl (fun q => by rw [q, ky85] at kv; exact absurd kv (by decide)))]; exact z97
    have z102 : q_is (q_z f99 y85 2) p1 := by rw [ef99, q_setz (Or.inr (by decide))]; exact z96
    have z103 : q_ir (q_r f99 v 0) p80 := by rw [ef99, q_setr (Or.inr (by decide))]; exact z98
    refine lv_aload cx.1 cx.2.1 dX10_addNode_48 (lv_at hl 0 rfl) ?_
    refine lv_iload cx.1 cx.2.1 dX10_addNode_50 (lv_at hl 5 rfl) ?_
    refine q_pX10_101 cx hB hy85 ky85 ⟨by omega, by omega⟩ (by omega) (by omega) rfl dX10_addNode_52 (fun H locs f104 ef104 z105 hB => ?_)
    have z106 : q_is (q_z f104 v 3) x78 := by rw [ef104, q_setz (Or.inr (by decide))]; exact z101
    have z107 : q_is (q_z f104 y85 2) p1 := by rw [ef104, q_setz (Or.inr (by decide))]; exact z102
    have z108 : q_is (q_z f104 y85 3) p2 := by rw [ef104, q_setz (Or.inr (by decide))]; exact z100
    have z109 : q_ir (q_r f104 v 0) p80 := by rw [ef104, q_setr (Or.inr (by decide))]; exact z103
    refine lv_aload cx.1 cx.2.1 dX10_addNode_55 (lv_at hl 0 rfl) ?_
    refine q_iconst cx dX10_addNode_57 ?_
    refine q_pX10_104 cx hB hy85 ky85 ⟨by decide, by decide⟩ (by decide) (by decide) rfl dX10_addNode_58 (fun H locs f110 ef110 z111 hB => ?_)
    have z112 : q_is (q_z f110 v 3) x78 := by rw [ef110, q_setz (Or.inr (by decide))]; exact z106
    have z113 : q_is (q_z f110 y85 2) p1 := by rw [ef110, q_setz (Or.inr (by decide))]; exact z107
    have z114 : q_is (q_z f110 y85 3) p2 := by rw [ef110, q_setz (Or.inr (by decide))]; exact z108
    have z115 : q_is (q_z f110 y85 4) p3 := by rw [ef110, q_setz (Or.inr (by decide))]; exact z105
    have z116 : q_ir (q_r f110 v 0) p80 := by rw [ef110, q_setr (Or.inr (by decide))]; exact z109
    refine lv_aload cx.1 cx.2.1 dX10_addNode_61 (lv_at hl 0 rfl) ?_
    refine q_iconst cx dX10_addNode_63 ?_
    refine q_pX10_107 cx hB hy85 ky85 ⟨by decide, by decide⟩ (by decide) (by decide) rfl dX10_addNode_64 (fun H locs f117 ef117 z118 hB => ?_)
    have z119 : q_is (q_z f117 v 3) x78 := by rw [ef117, q_setz (Or.inr (by decide))]; exact z112
    have z120 : q_is (q_z f117 y85 2) p1 := by rw [ef117, q_setz (Or.inr (by decide))]; exact z113
    have z121 : q_is (q_z f117 y85 3) p2 := by rw [ef117, q_setz (Or.inr (by decide))]; exact z114
    have z122 : q_is (q_z f117 y85 4) p3 := by rw [ef117, q_setz (Or.inr (by decide))]; exact z115
    have z123 : q_is (q_z f117 y85 5) 0 := by rw [ef117, q_setz (Or.inr (by decide))]; exact z111
    have z124 : q_ir (q_r f117 v 0) p80 := by rw [ef117, q_setr (Or.inr (by decide))]; exact z116
    refine lv_aload cx.1 cx.2.1 dX10_addNode_67 (lv_at hl 0 rfl) ?_
    refine q_iconst cx dX10_addNode_69 ?_
    refine q_pX10_110 cx hB hy85 ky85 ⟨by decide, by decide⟩ (by decide) (by decide) rfl dX10_addNode_70 (fun H locs f125 ef125 z126 hB => ?_)
    have z127 : q_is (q_z f125 v 3) x78 := by rw [ef125, q_setz (Or.inr (by decide))]; exact z119
    have z128 : q_is (q_z f125 y85 2) p1 := by rw [ef125, q_setz (Or.inr (by decide))]; exact z120
    have z129 : q_is (q_z f125 y85 3) p2 := by rw [ef125, q_setz (Or.inr (by decide))]; exact z121
    have z130 : q_is (q_z f125 y85 4) p3 := by rw [ef125, q_setz (Or.inr (by decide))]; exact z122
    have z131 : q_is (q_z f125 y85 5) 0 := by rw [ef125, q_setz (Or.inr (by decide))]; exact z123
    have z132 : q_is (q_z f125 y85 6) 0 := by rw [ef125, q_setz (Or.inr (by decide))]; exact z118
    have z133 : q_ir (q_r f125 v 0) p80 := by rw [ef125, q_setr (Or.inr (by decide))]; exact z124
    refine lv_aload cx.1 cx.2.1 dX10_addNode_73 (lv_at hl 0 rfl) ?_
    refine q_iconst cx dX10_addNode_75 ?_
    refine q_pX10_113 cx hB hy85 ky85 ⟨by decide, by decide⟩ (by decide) (by decide) rfl dX10_addNode_76 (fun H locs f134 ef134 z135 hB => ?_)
    have z136 : q_is (q_z f134 v 3) x78 := by rw [ef134, q_setz (Or.inr (by decide))]; exact z127
    have z137 : q_is (q_z f134 y85 2) p1 := by rw [ef134, q_setz (Or.inr (by decide))]; exact z128
    have z138 : q_is (q_z f134 y85 3) p2 := by rw [ef134, q_setz (Or.inr (by decide))]; exact z129
    have z139 : q_is (q_z f134 y85 4) p3 := by rw [ef134, q_setz (Or.inr (by decide))]; exact z130
    have z140 : q_is (q_z f134 y85 5) 0 := by rw [ef134, q_setz (Or.inr (by decide))]; exact z131
    have z141 : q_is (q_z f134 y85 6) 0 := by rw [ef134, q_setz (Or.inr (by decide))]; exact z132
    have z142 : q_is (q_z f134 y85 7) 0 := by rw [ef134, q_setz (Or.inr (by decide))]; exact z126
    have z143 : q_ir (q_r f134 v 0) p80 := by rw [ef134, q_setr (Or.inr (by decide))]; exact z133
    refine q_ald_n cx dX10_addNode_79 rfl (lv_at hl 1 rfl) ?_
    refine lv_dup cx.1 cx.2.1 dX10_addNode_80 rfl ?_
    refine q_gX10_35 cx hB hv kv z136 dX10_addNode_81 (fun lb144 ub144 => ?_)
    refine q_iconst cx dX10_addNode_84 ?_
    refine q_iadd cx dX10_addNode_85 ?_
    refine q_pX10_35 cx hB hv kv ⟨by omega, by omega⟩ (by omega) (by omega) rfl dX10_addNode_86 (fun H locs f145 ef145 z146 hB => ?_)
    have z147 : q_is (q_z f145 y85 2) p1 := by rw [ef145, q_setz (Or.inr (by decide))]; exact z137
    have z148 : q_is (q_z f145 y85 3) p2 := by rw [ef145, q_setz (Or.inl (fun q => by rw [q, kv] at ky85; exact absurd ky85 (by decide)))]; exact z138
    have z149 : q_is (q_z f145 y85 4) p3 := by rw [ef145, q_setz (Or.inr (by decide))]; exact z139
    have z150 : q_is (q_z f145 y85 5) 0 := by rw [ef145, q_setz (Or.inr (by decide))]; exact z140
    have z151 : q_is (q_z f145 y85 6) 0 := by rw [ef145, q_setz (Or.inr (by decide))]; exact z141
    have z152 : q_is (q_z f145 y85 7) 0 := by rw [ef145, q_setz (Or.inr (by decide))]; exact z142
    have z153 : q_is (q_z f145 y85 8) 0 := by rw [ef145, q_setz (Or.inr (by decide))]; exact z135
    have z154 : q_ir (q_r f145 v 0) p80 := by rw [ef145, q_setr (Or.inr (by decide))]; exact z143
    refine q_vret cx hr hlk hB dX10_addNode_89 ?_
    trivial
  · refine q_vret cx hr hlk hB dX10_addNode_12 ?_
    trivial
set_option maxHeartbeats 4000000 in
set_option maxRecDepth 100000 in
theorem g_X10_addNode_1 (l : Launch) (g : q_G) {K : Nat → Nat} {L : List Nat} (hN : L.Nodup) {f : Nat → va_E} (hT : q_Ty g K L f) (v : Nat) (hv : v ∈ L) (kv : K v = 13) (p0 : Int64) (p1 : Int) (lp1 : (-2147483648) ≤ p1) (up1 : p1 ≤ 2147483647) (p2 : Int) (lp2 : (-2147483648) ≤ p2) (up2 : p2 ≤ 2147483647) (p3 : Int) (lp3 : (-2147483648) ≤ p3) (up3 : p3 ≤ 2147483647) : q_Ct l g K L yX10_addNode cX10_addNode 7 none 1 21 [.ref v, .long p0, .int (q_i p1), .int (q_i p2), .int (q_i p3)] f [(13, 3, 3), (17, 0, 8)] (q_Pv (fun (f1 : Nat → va_E) => True)) := by
  refine q_ofb (by decide +kernel) hN hT (Nat.le_of_ble_eq_true rfl) ?_
  intro p e s m below meth c ls cx hr hlk hB hl
  have hl : lv_has ls 7 [(0, .ref v), (1, .long p0), (3, .int (q_i p1)), (4, .int (q_i p2)), (5, .int (q_i p3))] := hl
  obtain ⟨H, hH⟩ : ∃ H : Heap, H = s.heap := ⟨_, rfl⟩
  obtain ⟨locs, hlocs⟩ : ∃ z : List Loc, z = [] := ⟨_, rfl⟩
  rw [← hH, ← hlocs] at hB
  rw [← hH, ← hlocs]
  refine q_ald_n cx dX10_addNode_0 rfl (lv_at hl 0 rfl) ?_
  obtain ⟨x78, ex78⟩ : ∃ zz, q_is (q_z f v 3) zz := ⟨_, q_isr _⟩
  refine q_gX10_35_13 cx hB hv kv ex78 dX10_addNode_1 (fun lb79 ub79 => ?_)
  refine q_ald_n cx dX10_addNode_4 rfl (lv_at hl 0 rfl) ?_
  obtain ⟨p80, ep80⟩ : ∃ zz, q_ir (q_r f v 0) zz := ⟨_, q_irr _⟩
  refine q_gX10_13_13 cx hB hv kv ep80 dX10_addNode_5 (fun hb81 kb81 => ?_)
  refine q_alen (n := 10) cx hB hb81 kb81 (by decide) rfl 7 rfl rfl dX10_addNode_8 ?_
  refine q_iclt (tgt := 13) cx ⟨by omega, by omega⟩ ⟨by decide, by decide⟩ dX10_addNode_9 (by decide) (fun c82 => ?_) (fun c82 => ?_)
  · refine q_ald_n cx dX10_addNode_13 rfl (lv_at hl 0 rfl) ?_
    refine q_ald_n cx dX10_addNode_14 rfl (lv_at hl 0 rfl) ?_
    refine q_gX10_35_13 cx hB hv kv ex78 dX10_addNode_15 (fun lb83 ub83 => ?_)
    refine q_cVr (As := [.int (q_i x78)]) (rest := []) cx hB (fun _ h => h) hN hv kv (by decide) rfl (g_X10_nodeAt_1 l g hN hB.2.1 v hv kv x78 (by omega) (by omega)) q_cX10_66 q_dX10_nodeAt (by decide) rfl rfl hl.1 rfl (Nat.le_of_ble_eq_true rfl) dX10_addNode_18 (fun y85 H locs f84 h86 hF hB => ?_)
    obtain ⟨rfl, hy85, ky85⟩ := h86
    refine lv_astore (lv' := [(6, .ref y85), (0, .ref v), (1, .long p0), (3, .int (q_i p1)), (4, .int (q_i p2)), (5, .int (q_i p3))]) cx.1 cx.2.1 dX10_addNode_21 hl (by decide) rfl (fun ls hl => ?_)
    refine lv_aload cx.1 cx.2.1 dX10_addNode_23 (lv_at hl 0 rfl) ?_
    refine q_lld_n cx dX10_addNode_25 rfl (lv_at hl 2 rfl) ?_
    refine q_pX10_88_17 cx hB hy85 ky85 rfl dX10_addNode_26 (fun H locs f87 ef87 z88 hB => ?_)
    have z89 : q_is (q_z f87 v 3) x78 := by rw [ef87, q_setz (Or.inr (by decide))]; exact ex78
    have z90 : q_ir (q_r f87 v 0) p80 := by rw [ef87, q_setr (Or.inl (fun q => by rw [q, ky85] at kv; exact absurd kv (by decide)))]; exact ep80
    refine lv_aload cx.1 cx.2.1 dX10_addNode_29 (lv_at hl 0 rfl) ?_
    refine q_lconst (z := 0) cx (by decide) dX10_addNode_31 ?_
    refine q_pX10_92_17 cx hB hy85 ky85 rfl dX10_addNode_32 (fun H locs f91 ef91 z92 hB => ?_)
    have z93 : q_is (q_z f91 v 3) x78 := by rw [ef91, q_setz (Or.inr (by decide))]; exact z89
    have z94 : q_ir (q_r f91 v 0) p80 := by rw [ef91, q_setr (Or.inr (by decide))]; exact z90
    refine lv_aload cx.1 cx.2.1 dX10_addNode_35 (lv_at hl 0 rfl) ?_
    refine q_ild_n cx dX10_addNode_37 rfl (lv_at hl 3 rfl) ?_
    refine q_pX10_95_17 cx hB hy85 ky85 ⟨by omega, by omega⟩ (by omega) (by omega) rfl dX10_addNode_38 (fun H locs f95 ef95 z96 hB => ?_)
    have z97 : q_is (q_z f95 v 3) x78 := by rw [ef95, q_setz (Or.inr (by decide))]; exact z93
    have z98 : q_ir (q_r f95 v 0) p80 := by rw [ef95, q_setr (Or.inr (by decide))]; exact z94
    refine lv_aload cx.1 cx.2.1 dX10_addNode_41 (lv_at hl 0 rfl) ?_
    refine lv_iload cx.1 cx.2.1 dX10_addNode_43 (lv_at hl 4 rfl) ?_
    refine q_pX10_98_17 cx hB hy85 ky85 ⟨by omega, by omega⟩ (by omega) (by omega) rfl dX10_addNode_45 (fun H locs f99 ef99 z100 hB => ?_)
    have z101 : q_is (q_z f99 v 3) x78 := by rw [ef99, q_setz (Or.inl (fun q => by rw [q, ky85] at kv; exact absurd kv (by decide)))]; exact z97
    have z102 : q_is (q_z f99 y85 2) p1 := by rw [ef99, q_setz (Or.inr (by decide))]; exact z96
    have z103 : q_ir (q_r f99 v 0) p80 := by rw [ef99, q_setr (Or.inr (by decide))]; exact z98
    refine lv_aload cx.1 cx.2.1 dX10_addNode_48 (lv_at hl 0 rfl) ?_
    refine lv_iload cx.1 cx.2.1 dX10_addNode_50 (lv_at hl 5 rfl) ?_
    refine q_pX10_101_17 cx hB hy85 ky85 ⟨by omega, by omega⟩ (by omega) (by omega) rfl dX10_addNode_52 (fun H locs f104 ef104 z105 hB => ?_)
    have z106 : q_is (q_z f104 v 3) x78 := by rw [ef104, q_setz (Or.inr (by decide))]; exact z101
    have z107 : q_is (q_z f104 y85 2) p1 := by rw [ef104, q_setz (Or.inr (by decide))]; exact z102
    have z108 : q_is (q_z f104 y85 3) p2 := by rw [ef104, q_setz (Or.inr (by decide))]; exact z100
    have z109 : q_ir (q_r f104 v 0) p80 := by rw [ef104, q_setr (Or.inr (by decide))]; exact z103
    refine lv_aload cx.1 cx.2.1 dX10_addNode_55 (lv_at hl 0 rfl) ?_
    refine q_iconst cx dX10_addNode_57 ?_
    refine q_pX10_104_17 cx hB hy85 ky85 ⟨by decide, by decide⟩ (by decide) (by decide) rfl dX10_addNode_58 (fun H locs f110 ef110 z111 hB => ?_)
    have z112 : q_is (q_z f110 v 3) x78 := by rw [ef110, q_setz (Or.inr (by decide))]; exact z106
    have z113 : q_is (q_z f110 y85 2) p1 := by rw [ef110, q_setz (Or.inr (by decide))]; exact z107
    have z114 : q_is (q_z f110 y85 3) p2 := by rw [ef110, q_setz (Or.inr (by decide))]; exact z108
    have z115 : q_is (q_z f110 y85 4) p3 := by rw [ef110, q_setz (Or.inr (by decide))]; exact z105
    have z116 : q_ir (q_r f110 v 0) p80 := by rw [ef110, q_setr (Or.inr (by decide))]; exact z109
    refine lv_aload cx.1 cx.2.1 dX10_addNode_61 (lv_at hl 0 rfl) ?_
    refine q_iconst cx dX10_addNode_63 ?_
    refine q_pX10_107_17 cx hB hy85 ky85 ⟨by decide, by decide⟩ (by decide) (by decide) rfl dX10_addNode_64 (fun H locs f117 ef117 z118 hB => ?_)
    have z119 : q_is (q_z f117 v 3) x78 := by rw [ef117, q_setz (Or.inr (by decide))]; exact z112
    have z120 : q_is (q_z f117 y85 2) p1 := by rw [ef117, q_setz (Or.inr (by decide))]; exact z113
    have z121 : q_is (q_z f117 y85 3) p2 := by rw [ef117, q_setz (Or.inr (by decide))]; exact z114
    have z122 : q_is (q_z f117 y85 4) p3 := by rw [ef117, q_setz (Or.inr (by decide))]; exact z115
    have z123 : q_is (q_z f117 y85 5) 0 := by rw [ef117, q_setz (Or.inr (by decide))]; exact z111
    have z124 : q_ir (q_r f117 v 0) p80 := by rw [ef117, q_setr (Or.inr (by decide))]; exact z116
    refine lv_aload cx.1 cx.2.1 dX10_addNode_67 (lv_at hl 0 rfl) ?_
    refine q_iconst cx dX10_addNode_69 ?_
    refine q_pX10_110_17 cx hB hy85 ky85 ⟨by decide, by decide⟩ (by decide) (by decide) rfl dX10_addNode_70 (fun H locs f125 ef125 z126 hB => ?_)
    have z127 : q_is (q_z f125 v 3) x78 := by rw [ef125, q_setz (Or.inr (by decide))]; exact z119
    have z128 : q_is (q_z f125 y85 2) p1 := by rw [ef125, q_setz (Or.inr (by decide))]; exact z120
    have z129 : q_is (q_z f125 y85 3) p2 := by rw [ef125, q_setz (Or.inr (by decide))]; exact z121
    have z130 : q_is (q_z f125 y85 4) p3 := by rw [ef125, q_setz (Or.inr (by decide))]; exact z122
    have z131 : q_is (q_z f125 y85 5) 0 := by rw [ef125, q_setz (Or.inr (by decide))]; exact z123
    have z132 : q_is (q_z f125 y85 6) 0 := by rw [ef125, q_setz (Or.inr (by decide))]; exact z118
    have z133 : q_ir (q_r f125 v 0) p80 := by rw [ef125, q_setr (Or.inr (by decide))]; exact z124
    refine lv_aload cx.1 cx.2.1 dX10_addNode_73 (lv_at hl 0 rfl) ?_
    refine q_iconst cx dX10_addNode_75 ?_
    refine q_pX10_113_17 cx hB hy85 ky85 ⟨by decide, by decide⟩ (by decide) (by decide) rfl dX10_addNode_76 (fun H locs f134 ef134 z135 hB => ?_)
    have z136 : q_is (q_z f134 v 3) x78 := by rw [ef134, q_setz (Or.inr (by decide))]; exact z127
    have z137 : q_is (q_z f134 y85 2) p1 := by rw [ef134, q_setz (Or.inr (by decide))]; exact z128
    have z138 : q_is (q_z f134 y85 3) p2 := by rw [ef134, q_setz (Or.inr (by decide))]; exact z129
    have z139 : q_is (q_z f134 y85 4) p3 := by rw [ef134, q_setz (Or.inr (by decide))]; exact z130
    have z140 : q_is (q_z f134 y85 5) 0 := by rw [ef134, q_setz (Or.inr (by decide))]; exact z131
    have z141 : q_is (q_z f134 y85 6) 0 := by rw [ef134, q_setz (Or.inr (by decide))]; exact z132
    have z142 : q_is (q_z f134 y85 7) 0 := by rw [ef134, q_setz (Or.inr (by decide))]; exact z126
    have z143 : q_ir (q_r f134 v 0) p80 := by rw [ef134, q_setr (Or.inr (by decide))]; exact z133
    refine q_ald_n cx dX10_addNode_79 rfl (lv_at hl 1 rfl) ?_
    refine lv_dup cx.1 cx.2.1 dX10_addNode_80 rfl ?_
    refine q_gX10_35_13 cx hB hv kv z136 dX10_addNode_81 (fun lb144 ub144 => ?_)
    refine q_iconst cx dX10_addNode_84 ?_
    refine q_iadd cx dX10_addNode_85 ?_
    refine q_pX10_35_13 cx hB hv kv ⟨by omega, by omega⟩ (by omega) (by omega) rfl dX10_addNode_86 (fun H locs f145 ef145 z146 hB => ?_)
    have z147 : q_is (q_z f145 y85 2) p1 := by rw [ef145, q_setz (Or.inr (by decide))]; exact z137
    have z148 : q_is (q_z f145 y85 3) p2 := by rw [ef145, q_setz (Or.inl (fun q => by rw [q, kv] at ky85; exact absurd ky85 (by decide)))]; exact z138
    have z149 : q_is (q_z f145 y85 4) p3 := by rw [ef145, q_setz (Or.inr (by decide))]; exact z139
    have z150 : q_is (q_z f145 y85 5) 0 := by rw [ef145, q_setz (Or.inr (by decide))]; exact z140
    have z151 : q_is (q_z f145 y85 6) 0 := by rw [ef145, q_setz (Or.inr (by decide))]; exact z141
    have z152 : q_is (q_z f145 y85 7) 0 := by rw [ef145, q_setz (Or.inr (by decide))]; exact z142
    have z153 : q_is (q_z f145 y85 8) 0 := by rw [ef145, q_setz (Or.inr (by decide))]; exact z135
    have z154 : q_ir (q_r f145 v 0) p80 := by rw [ef145, q_setr (Or.inr (by decide))]; exact z143
    refine q_vret cx hr hlk hB dX10_addNode_89 ?_
    trivial
  · refine q_vret cx hr hlk hB dX10_addNode_12 ?_
    trivial
set_option maxHeartbeats 4000000 in
set_option maxRecDepth 100000 in
theorem g_X10_addNode_2 (l : Launch) (g : q_G) {K : Nat → Nat} {L : List Nat} (hN : L.Nodup) {f : Nat → va_E} (hT : q_Ty g K L f) (v : Nat) (hv : v ∈ L) (kv : K v = 14) (p0 : Int64) (p1 : Int) (lp1 : (-2147483648) ≤ p1) (up1 : p1 ≤ 2147483647) (p2 : Int) (lp2 : (-2147483648) ≤ p2) (up2 : p2 ≤ 2147483647) (p3 : Int) (lp3 : (-2147483648) ≤ p3) (up3 : p3 ≤ 2147483647) : q_Ct l g K L yX10_addNode cX10_addNode 7 none 1 21 [.ref v, .long p0, .int (q_i p1), .int (q_i p2), .int (q_i p3)] f [(14, 3, 3), (18, 0, 8)] (q_Pv (fun (f1 : Nat → va_E) => True)) := by
  refine q_ofb (by decide +kernel) hN hT (Nat.le_of_ble_eq_true rfl) ?_
  intro p e s m below meth c ls cx hr hlk hB hl
  have hl : lv_has ls 7 [(0, .ref v), (1, .long p0), (3, .int (q_i p1)), (4, .int (q_i p2)), (5, .int (q_i p3))] := hl
  obtain ⟨H, hH⟩ : ∃ H : Heap, H = s.heap := ⟨_, rfl⟩
  obtain ⟨locs, hlocs⟩ : ∃ z : List Loc, z = [] := ⟨_, rfl⟩
  rw [← hH, ← hlocs] at hB
  rw [← hH, ← hlocs]
  refine q_ald_n cx dX10_addNode_0 rfl (lv_at hl 0 rfl) ?_
  obtain ⟨x78, ex78⟩ : ∃ zz, q_is (q_z f v 3) zz := ⟨_, q_isr _⟩
  refine q_gX10_35_14 cx hB hv kv ex78 dX10_addNode_1 (fun lb79 ub79 => ?_)
  refine q_ald_n cx dX10_addNode_4 rfl (lv_at hl 0 rfl) ?_
  obtain ⟨p80, ep80⟩ : ∃ zz, q_ir (q_r f v 0) zz := ⟨_, q_irr _⟩
  refine q_gX10_13_14 cx hB hv kv ep80 dX10_addNode_5 (fun hb81 kb81 => ?_)
  refine q_alen (n := 10) cx hB hb81 kb81 (by decide) rfl 7 rfl rfl dX10_addNode_8 ?_
  refine q_iclt (tgt := 13) cx ⟨by omega, by omega⟩ ⟨by decide, by decide⟩ dX10_addNode_9 (by decide) (fun c82 => ?_) (fun c82 => ?_)
  · refine q_ald_n cx dX10_addNode_13 rfl (lv_at hl 0 rfl) ?_
    refine q_ald_n cx dX10_addNode_14 rfl (lv_at hl 0 rfl) ?_
    refine q_gX10_35_14 cx hB hv kv ex78 dX10_addNode_15 (fun lb83 ub83 => ?_)
    refine q_cVr (As := [.int (q_i x78)]) (rest := []) cx hB (fun _ h => h) hN hv kv (by decide) rfl (g_X10_nodeAt_2 l g hN hB.2.1 v hv kv x78 (by omega) (by omega)) q_cX10_66 q_dX10_nodeAt (by decide) rfl rfl hl.1 rfl (Nat.le_of_ble_eq_true rfl) dX10_addNode_18 (fun y85 H locs f84 h86 hF hB => ?_)
    obtain ⟨rfl, hy85, ky85⟩ := h86
    refine lv_astore (lv' := [(6, .ref y85), (0, .ref v), (1, .long p0), (3, .int (q_i p1)), (4, .int (q_i p2)), (5, .int (q_i p3))]) cx.1 cx.2.1 dX10_addNode_21 hl (by decide) rfl (fun ls hl => ?_)
    refine lv_aload cx.1 cx.2.1 dX10_addNode_23 (lv_at hl 0 rfl) ?_
    refine q_lld_n cx dX10_addNode_25 rfl (lv_at hl 2 rfl) ?_
    refine q_pX10_88_18 cx hB hy85 ky85 rfl dX10_addNode_26 (fun H locs f87 ef87 z88 hB => ?_)
    have z89 : q_is (q_z f87 v 3) x78 := by rw [ef87, q_setz (Or.inr (by decide))]; exact ex78
    have z90 : q_ir (q_r f87 v 0) p80 := by rw [ef87, q_setr (Or.inl (fun q => by rw [q, ky85] at kv; exact absurd kv (by decide)))]; exact ep80
    refine lv_aload cx.1 cx.2.1 dX10_addNode_29 (lv_at hl 0 rfl) ?_
    refine q_lconst (z := 0) cx (by decide) dX10_addNode_31 ?_
    refine q_pX10_92_18 cx hB hy85 ky85 rfl dX10_addNode_32 (fun H locs f91 ef91 z92 hB => ?_)
    have z93 : q_is (q_z f91 v 3) x78 := by rw [ef91, q_setz (Or.inr (by decide))]; exact z89
    have z94 : q_ir (q_r f91 v 0) p80 := by rw [ef91, q_setr (Or.inr (by decide))]; exact z90
    refine lv_aload cx.1 cx.2.1 dX10_addNode_35 (lv_at hl 0 rfl) ?_
    refine q_ild_n cx dX10_addNode_37 rfl (lv_at hl 3 rfl) ?_
    refine q_pX10_95_18 cx hB hy85 ky85 ⟨by omega, by omega⟩ (by omega) (by omega) rfl dX10_addNode_38 (fun H locs f95 ef95 z96 hB => ?_)
    have z97 : q_is (q_z f95 v 3) x78 := by rw [ef95, q_setz (Or.inr (by decide))]; exact z93
    have z98 : q_ir (q_r f95 v 0) p80 := by rw [ef95, q_setr (Or.inr (by decide))]; exact z94
    refine lv_aload cx.1 cx.2.1 dX10_addNode_41 (lv_at hl 0 rfl) ?_
    refine lv_iload cx.1 cx.2.1 dX10_addNode_43 (lv_at hl 4 rfl) ?_
    refine q_pX10_98_18 cx hB hy85 ky85 ⟨by omega, by omega⟩ (by omega) (by omega) rfl dX10_addNode_45 (fun H locs f99 ef99 z100 hB => ?_)
    have z101 : q_is (q_z f99 v 3) x78 := by rw [ef99, q_setz (Or.inl (fun q => by rw [q, ky85] at kv; exact absurd kv (by decide)))]; exact z97
    have z102 : q_is (q_z f99 y85 2) p1 := by rw [ef99, q_setz (Or.inr (by decide))]; exact z96
    have z103 : q_ir (q_r f99 v 0) p80 := by rw [ef99, q_setr (Or.inr (by decide))]; exact z98
    refine lv_aload cx.1 cx.2.1 dX10_addNode_48 (lv_at hl 0 rfl) ?_
    refine lv_iload cx.1 cx.2.1 dX10_addNode_50 (lv_at hl 5 rfl) ?_
    refine q_pX10_101_18 cx hB hy85 ky85 ⟨by omega, by omega⟩ (by omega) (by omega) rfl dX10_addNode_52 (fun H locs f104 ef104 z105 hB => ?_)
    have z106 : q_is (q_z f104 v 3) x78 := by rw [ef104, q_setz (Or.inr (by decide))]; exact z101
    have z107 : q_is (q_z f104 y85 2) p1 := by rw [ef104, q_setz (Or.inr (by decide))]; exact z102
    have z108 : q_is (q_z f104 y85 3) p2 := by rw [ef104, q_setz (Or.inr (by decide))]; exact z100
    have z109 : q_ir (q_r f104 v 0) p80 := by rw [ef104, q_setr (Or.inr (by decide))]; exact z103
    refine lv_aload cx.1 cx.2.1 dX10_addNode_55 (lv_at hl 0 rfl) ?_
    refine q_iconst cx dX10_addNode_57 ?_
    refine q_pX10_104_18 cx hB hy85 ky85 ⟨by decide, by decide⟩ (by decide) (by decide) rfl dX10_addNode_58 (fun H locs f110 ef110 z111 hB => ?_)
    have z112 : q_is (q_z f110 v 3) x78 := by rw [ef110, q_setz (Or.inr (by decide))]; exact z106
    have z113 : q_is (q_z f110 y85 2) p1 := by rw [ef110, q_setz (Or.inr (by decide))]; exact z107
    have z114 : q_is (q_z f110 y85 3) p2 := by rw [ef110, q_setz (Or.inr (by decide))]; exact z108
    have z115 : q_is (q_z f110 y85 4) p3 := by rw [ef110, q_setz (Or.inr (by decide))]; exact z105
    have z116 : q_ir (q_r f110 v 0) p80 := by rw [ef110, q_setr (Or.inr (by decide))]; exact z109
    refine lv_aload cx.1 cx.2.1 dX10_addNode_61 (lv_at hl 0 rfl) ?_
    refine q_iconst cx dX10_addNode_63 ?_
    refine q_pX10_107_18 cx hB hy85 ky85 ⟨by decide, by decide⟩ (by decide) (by decide) rfl dX10_addNode_64 (fun H locs f117 ef117 z118 hB => ?_)
    have z119 : q_is (q_z f117 v 3) x78 := by rw [ef117, q_setz (Or.inr (by decide))]; exact z112
    have z120 : q_is (q_z f117 y85 2) p1 := by rw [ef117, q_setz (Or.inr (by decide))]; exact z113
    have z121 : q_is (q_z f117 y85 3) p2 := by rw [ef117, q_setz (Or.inr (by decide))]; exact z114
    have z122 : q_is (q_z f117 y85 4) p3 := by rw [ef117, q_setz (Or.inr (by decide))]; exact z115
    have z123 : q_is (q_z f117 y85 5) 0 := by rw [ef117, q_setz (Or.inr (by decide))]; exact z111
    have z124 : q_ir (q_r f117 v 0) p80 := by rw [ef117, q_setr (Or.inr (by decide))]; exact z116
    refine lv_aload cx.1 cx.2.1 dX10_addNode_67 (lv_at hl 0 rfl) ?_
    refine q_iconst cx dX10_addNode_69 ?_
    refine q_pX10_110_18 cx hB hy85 ky85 ⟨by decide, by decide⟩ (by decide) (by decide) rfl dX10_addNode_70 (fun H locs f125 ef125 z126 hB => ?_)
    have z127 : q_is (q_z f125 v 3) x78 := by rw [ef125, q_setz (Or.inr (by decide))]; exact z119
    have z128 : q_is (q_z f125 y85 2) p1 := by rw [ef125, q_setz (Or.inr (by decide))]; exact z120
    have z129 : q_is (q_z f125 y85 3) p2 := by rw [ef125, q_setz (Or.inr (by decide))]; exact z121
    have z130 : q_is (q_z f125 y85 4) p3 := by rw [ef125, q_setz (Or.inr (by decide))]; exact z122
    have z131 : q_is (q_z f125 y85 5) 0 := by rw [ef125, q_setz (Or.inr (by decide))]; exact z123
    have z132 : q_is (q_z f125 y85 6) 0 := by rw [ef125, q_setz (Or.inr (by decide))]; exact z118
    have z133 : q_ir (q_r f125 v 0) p80 := by rw [ef125, q_setr (Or.inr (by decide))]; exact z124
    refine lv_aload cx.1 cx.2.1 dX10_addNode_73 (lv_at hl 0 rfl) ?_
    refine q_iconst cx dX10_addNode_75 ?_
    refine q_pX10_113_18 cx hB hy85 ky85 ⟨by decide, by decide⟩ (by decide) (by decide) rfl dX10_addNode_76 (fun H locs f134 ef134 z135 hB => ?_)
    have z136 : q_is (q_z f134 v 3) x78 := by rw [ef134, q_setz (Or.inr (by decide))]; exact z127
    have z137 : q_is (q_z f134 y85 2) p1 := by rw [ef134, q_setz (Or.inr (by decide))]; exact z128
    have z138 : q_is (q_z f134 y85 3) p2 := by rw [ef134, q_setz (Or.inr (by decide))]; exact z129
    have z139 : q_is (q_z f134 y85 4) p3 := by rw [ef134, q_setz (Or.inr (by decide))]; exact z130
    have z140 : q_is (q_z f134 y85 5) 0 := by rw [ef134, q_setz (Or.inr (by decide))]; exact z131
    have z141 : q_is (q_z f134 y85 6) 0 := by rw [ef134, q_setz (Or.inr (by decide))]; exact z132
    have z142 : q_is (q_z f134 y85 7) 0 := by rw [ef134, q_setz (Or.inr (by decide))]; exact z126
    have z143 : q_ir (q_r f134 v 0) p80 := by rw [ef134, q_setr (Or.inr (by decide))]; exact z133
    refine q_ald_n cx dX10_addNode_79 rfl (lv_at hl 1 rfl) ?_
    refine lv_dup cx.1 cx.2.1 dX10_addNode_80 rfl ?_
    refine q_gX10_35_14 cx hB hv kv z136 dX10_addNode_81 (fun lb144 ub144 => ?_)
    refine q_iconst cx dX10_addNode_84 ?_
    refine q_iadd cx dX10_addNode_85 ?_
    refine q_pX10_35_14 cx hB hv kv ⟨by omega, by omega⟩ (by omega) (by omega) rfl dX10_addNode_86 (fun H locs f145 ef145 z146 hB => ?_)
    have z147 : q_is (q_z f145 y85 2) p1 := by rw [ef145, q_setz (Or.inr (by decide))]; exact z137
    have z148 : q_is (q_z f145 y85 3) p2 := by rw [ef145, q_setz (Or.inl (fun q => by rw [q, kv] at ky85; exact absurd ky85 (by decide)))]; exact z138
    have z149 : q_is (q_z f145 y85 4) p3 := by rw [ef145, q_setz (Or.inr (by decide))]; exact z139
    have z150 : q_is (q_z f145 y85 5) 0 := by rw [ef145, q_setz (Or.inr (by decide))]; exact z140
    have z151 : q_is (q_z f145 y85 6) 0 := by rw [ef145, q_setz (Or.inr (by decide))]; exact z141
    have z152 : q_is (q_z f145 y85 7) 0 := by rw [ef145, q_setz (Or.inr (by decide))]; exact z142
    have z153 : q_is (q_z f145 y85 8) 0 := by rw [ef145, q_setz (Or.inr (by decide))]; exact z135
    have z154 : q_ir (q_r f145 v 0) p80 := by rw [ef145, q_setr (Or.inr (by decide))]; exact z143
    refine q_vret cx hr hlk hB dX10_addNode_89 ?_
    trivial
  · refine q_vret cx hr hlk hB dX10_addNode_12 ?_
    trivial
set_option maxHeartbeats 4000000 in
set_option maxRecDepth 100000 in
theorem g_X10_addNode_3 (l : Launch) (g : q_G) {K : Nat → Nat} {L : List Nat} (hN : L.Nodup) {f : Nat → va_E} (hT : q_Ty g K L f) (v : Nat) (hv : v ∈ L) (kv : K v = 15) (p0 : Int64) (p1 : Int) (lp1 : (-2147483648) ≤ p1) (up1 : p1 ≤ 2147483647) (p2 : Int) (lp2 : (-2147483648) ≤ p2) (up2 : p2 ≤ 2147483647) (p3 : Int) (lp3 : (-2147483648) ≤ p3) (up3 : p3 ≤ 2147483647) : q_Ct l g K L yX10_addNode cX10_addNode 7 none 1 21 [.ref v, .long p0, .int (q_i p1), .int (q_i p2), .int (q_i p3)] f [(15, 3, 3), (19, 0, 8)] (q_Pv (fun (f1 : Nat → va_E) => True)) := by
  refine q_ofb (by decide +kernel) hN hT (Nat.le_of_ble_eq_true rfl) ?_
  intro p e s m below meth c ls cx hr hlk hB hl
  have hl : lv_has ls 7 [(0, .ref v), (1, .long p0), (3, .int (q_i p1)), (4, .int (q_i p2)), (5, .int (q_i p3))] := hl
  obtain ⟨H, hH⟩ : ∃ H : Heap, H = s.heap := ⟨_, rfl⟩
  obtain ⟨locs, hlocs⟩ : ∃ z : List Loc, z = [] := ⟨_, rfl⟩
  rw [← hH, ← hlocs] at hB
  rw [← hH, ← hlocs]
  refine q_ald_n cx dX10_addNode_0 rfl (lv_at hl 0 rfl) ?_
  obtain ⟨x78, ex78⟩ : ∃ zz, q_is (q_z f v 3) zz := ⟨_, q_isr _⟩
  refine q_gX10_35_15 cx hB hv kv ex78 dX10_addNode_1 (fun lb79 ub79 => ?_)
  refine q_ald_n cx dX10_addNode_4 rfl (lv_at hl 0 rfl) ?_
  obtain ⟨p80, ep80⟩ : ∃ zz, q_ir (q_r f v 0) zz := ⟨_, q_irr _⟩
  refine q_gX10_13_15 cx hB hv kv ep80 dX10_addNode_5 (fun hb81 kb81 => ?_)
  refine q_alen (n := 10) cx hB hb81 kb81 (by decide) rfl 7 rfl rfl dX10_addNode_8 ?_
  refine q_iclt (tgt := 13) cx ⟨by omega, by omega⟩ ⟨by decide, by decide⟩ dX10_addNode_9 (by decide) (fun c82 => ?_) (fun c82 => ?_)
  · refine q_ald_n cx dX10_addNode_13 rfl (lv_at hl 0 rfl) ?_
    refine q_ald_n cx dX10_addNode_14 rfl (lv_at hl 0 rfl) ?_
    refine q_gX10_35_15 cx hB hv kv ex78 dX10_addNode_15 (fun lb83 ub83 => ?_)
    refine q_cVr (As := [.int (q_i x78)]) (rest := []) cx hB (fun _ h => h) hN hv kv (by decide) rfl (g_X10_nodeAt_3 l g hN hB.2.1 v hv kv x78 (by omega) (by omega)) q_cX10_66 q_dX10_nodeAt (by decide) rfl rfl hl.1 rfl (Nat.le_of_ble_eq_true rfl) dX10_addNode_18 (fun y85 H locs f84 h86 hF hB => ?_)
    obtain ⟨rfl, hy85, ky85⟩ := h86
    refine lv_astore (lv' := [(6, .ref y85), (0, .ref v), (1, .long p0), (3, .int (q_i p1)), (4, .int (q_i p2)), (5, .int (q_i p3))]) cx.1 cx.2.1 dX10_addNode_21 hl (by decide) rfl (fun ls hl => ?_)
    refine lv_aload cx.1 cx.2.1 dX10_addNode_23 (lv_at hl 0 rfl) ?_
    refine q_lld_n cx dX10_addNode_25 rfl (lv_at hl 2 rfl) ?_
    refine q_pX10_88_19 cx hB hy85 ky85 rfl dX10_addNode_26 (fun H locs f87 ef87 z88 hB => ?_)
    have z89 : q_is (q_z f87 v 3) x78 := by rw [ef87, q_setz (Or.inr (by decide))]; exact ex78
    have z90 : q_ir (q_r f87 v 0) p80 := by rw [ef87, q_setr (Or.inl (fun q => by rw [q, ky85] at kv; exact absurd kv (by decide)))]; exact ep80
    refine lv_aload cx.1 cx.2.1 dX10_addNode_29 (lv_at hl 0 rfl) ?_
    refine q_lconst (z := 0) cx (by decide) dX10_addNode_31 ?_
    refine q_pX10_92_19 cx hB hy85 ky85 rfl dX10_addNode_32 (fun H locs f91 ef91 z92 hB => ?_)
    have z93 : q_is (q_z f91 v 3) x78 := by rw [ef91, q_setz (Or.inr (by decide))]; exact z89
    have z94 : q_ir (q_r f91 v 0) p80 := by rw [ef91, q_setr (Or.inr (by decide))]; exact z90
    refine lv_aload cx.1 cx.2.1 dX10_addNode_35 (lv_at hl 0 rfl) ?_
    refine q_ild_n cx dX10_addNode_37 rfl (lv_at hl 3 rfl) ?_
    refine q_pX10_95_19 cx hB hy85 ky85 ⟨by omega, by omega⟩ (by omega) (by omega) rfl dX10_addNode_38 (fun H locs f95 ef95 z96 hB => ?_)
    have z97 : q_is (q_z f95 v 3) x78 := by rw [ef95, q_setz (Or.inr (by decide))]; exact z93
    have z98 : q_ir (q_r f95 v 0) p80 := by rw [ef95, q_setr (Or.inr (by decide))]; exact z94
    refine lv_aload cx.1 cx.2.1 dX10_addNode_41 (lv_at hl 0 rfl) ?_
    refine lv_iload cx.1 cx.2.1 dX10_addNode_43 (lv_at hl 4 rfl) ?_
    refine q_pX10_98_19 cx hB hy85 ky85 ⟨by omega, by omega⟩ (by omega) (by omega) rfl dX10_addNode_45 (fun H locs f99 ef99 z100 hB => ?_)
    have z101 : q_is (q_z f99 v 3) x78 := by rw [ef99, q_setz (Or.inl (fun q => by rw [q, ky85] at kv; exact absurd kv (by decide)))]; exact z97
    have z102 : q_is (q_z f99 y85 2) p1 := by rw [ef99, q_setz (Or.inr (by decide))]; exact z96
    have z103 : q_ir (q_r f99 v 0) p80 := by rw [ef99, q_setr (Or.inr (by decide))]; exact z98
    refine lv_aload cx.1 cx.2.1 dX10_addNode_48 (lv_at hl 0 rfl) ?_
    refine lv_iload cx.1 cx.2.1 dX10_addNode_50 (lv_at hl 5 rfl) ?_
    refine q_pX10_101_19 cx hB hy85 ky85 ⟨by omega, by omega⟩ (by omega) (by omega) rfl dX10_addNode_52 (fun H locs f104 ef104 z105 hB => ?_)
    have z106 : q_is (q_z f104 v 3) x78 := by rw [ef104, q_setz (Or.inr (by decide))]; exact z101
    have z107 : q_is (q_z f104 y85 2) p1 := by rw [ef104, q_setz (Or.inr (by decide))]; exact z102
    have z108 : q_is (q_z f104 y85 3) p2 := by rw [ef104, q_setz (Or.inr (by decide))]; exact z100
    have z109 : q_ir (q_r f104 v 0) p80 := by rw [ef104, q_setr (Or.inr (by decide))]; exact z103
    refine lv_aload cx.1 cx.2.1 dX10_addNode_55 (lv_at hl 0 rfl) ?_
    refine q_iconst cx dX10_addNode_57 ?_
    refine q_pX10_104_19 cx hB hy85 ky85 ⟨by decide, by decide⟩ (by decide) (by decide) rfl dX10_addNode_58 (fun H locs f110 ef110 z111 hB => ?_)
    have z112 : q_is (q_z f110 v 3) x78 := by rw [ef110, q_setz (Or.inr (by decide))]; exact z106
    have z113 : q_is (q_z f110 y85 2) p1 := by rw [ef110, q_setz (Or.inr (by decide))]; exact z107
    have z114 : q_is (q_z f110 y85 3) p2 := by rw [ef110, q_setz (Or.inr (by decide))]; exact z108
    have z115 : q_is (q_z f110 y85 4) p3 := by rw [ef110, q_setz (Or.inr (by decide))]; exact z105
    have z116 : q_ir (q_r f110 v 0) p80 := by rw [ef110, q_setr (Or.inr (by decide))]; exact z109
    refine lv_aload cx.1 cx.2.1 dX10_addNode_61 (lv_at hl 0 rfl) ?_
    refine q_iconst cx dX10_addNode_63 ?_
    refine q_pX10_107_19 cx hB hy85 ky85 ⟨by decide, by decide⟩ (by decide) (by decide) rfl dX10_addNode_64 (fun H locs f117 ef117 z118 hB => ?_)
    have z119 : q_is (q_z f117 v 3) x78 := by rw [ef117, q_setz (Or.inr (by decide))]; exact z112
    have z120 : q_is (q_z f117 y85 2) p1 := by rw [ef117, q_setz (Or.inr (by decide))]; exact z113
    have z121 : q_is (q_z f117 y85 3) p2 := by rw [ef117, q_setz (Or.inr (by decide))]; exact z114
    have z122 : q_is (q_z f117 y85 4) p3 := by rw [ef117, q_setz (Or.inr (by decide))]; exact z115
    have z123 : q_is (q_z f117 y85 5) 0 := by rw [ef117, q_setz (Or.inr (by decide))]; exact z111
    have z124 : q_ir (q_r f117 v 0) p80 := by rw [ef117, q_setr (Or.inr (by decide))]; exact z116
    refine lv_aload cx.1 cx.2.1 dX10_addNode_67 (lv_at hl 0 rfl) ?_
    refine q_iconst cx dX10_addNode_69 ?_
    refine q_pX10_110_19 cx hB hy85 ky85 ⟨by decide, by decide⟩ (by decide) (by decide) rfl dX10_addNode_70 (fun H locs f125 ef125 z126 hB => ?_)
    have z127 : q_is (q_z f125 v 3) x78 := by rw [ef125, q_setz (Or.inr (by decide))]; exact z119
    have z128 : q_is (q_z f125 y85 2) p1 := by rw [ef125, q_setz (Or.inr (by decide))]; exact z120
    have z129 : q_is (q_z f125 y85 3) p2 := by rw [ef125, q_setz (Or.inr (by decide))]; exact z121
    have z130 : q_is (q_z f125 y85 4) p3 := by rw [ef125, q_setz (Or.inr (by decide))]; exact z122
    have z131 : q_is (q_z f125 y85 5) 0 := by rw [ef125, q_setz (Or.inr (by decide))]; exact z123
    have z132 : q_is (q_z f125 y85 6) 0 := by rw [ef125, q_setz (Or.inr (by decide))]; exact z118
    have z133 : q_ir (q_r f125 v 0) p80 := by rw [ef125, q_setr (Or.inr (by decide))]; exact z124
    refine lv_aload cx.1 cx.2.1 dX10_addNode_73 (lv_at hl 0 rfl) ?_
    refine q_iconst cx dX10_addNode_75 ?_
    refine q_pX10_113_19 cx hB hy85 ky85 ⟨by decide, by decide⟩ (by decide) (by decide) rfl dX10_addNode_76 (fun H locs f134 ef134 z135 hB => ?_)
    have z136 : q_is (q_z f134 v 3) x78 := by rw [ef134, q_setz (Or.inr (by decide))]; exact z127
    have z137 : q_is (q_z f134 y85 2) p1 := by rw [ef134, q_setz (Or.inr (by decide))]; exact z128
    have z138 : q_is (q_z f134 y85 3) p2 := by rw [ef134, q_setz (Or.inr (by decide))]; exact z129
    have z139 : q_is (q_z f134 y85 4) p3 := by rw [ef134, q_setz (Or.inr (by decide))]; exact z130
    have z140 : q_is (q_z f134 y85 5) 0 := by rw [ef134, q_setz (Or.inr (by decide))]; exact z131
    have z141 : q_is (q_z f134 y85 6) 0 := by rw [ef134, q_setz (Or.inr (by decide))]; exact z132
    have z142 : q_is (q_z f134 y85 7) 0 := by rw [ef134, q_setz (Or.inr (by decide))]; exact z126
    have z143 : q_ir (q_r f134 v 0) p80 := by rw [ef134, q_setr (Or.inr (by decide))]; exact z133
    refine q_ald_n cx dX10_addNode_79 rfl (lv_at hl 1 rfl) ?_
    refine lv_dup cx.1 cx.2.1 dX10_addNode_80 rfl ?_
    refine q_gX10_35_15 cx hB hv kv z136 dX10_addNode_81 (fun lb144 ub144 => ?_)
    refine q_iconst cx dX10_addNode_84 ?_
    refine q_iadd cx dX10_addNode_85 ?_
    refine q_pX10_35_15 cx hB hv kv ⟨by omega, by omega⟩ (by omega) (by omega) rfl dX10_addNode_86 (fun H locs f145 ef145 z146 hB => ?_)
    have z147 : q_is (q_z f145 y85 2) p1 := by rw [ef145, q_setz (Or.inr (by decide))]; exact z137
    have z148 : q_is (q_z f145 y85 3) p2 := by rw [ef145, q_setz (Or.inl (fun q => by rw [q, kv] at ky85; exact absurd ky85 (by decide)))]; exact z138
    have z149 : q_is (q_z f145 y85 4) p3 := by rw [ef145, q_setz (Or.inr (by decide))]; exact z139
    have z150 : q_is (q_z f145 y85 5) 0 := by rw [ef145, q_setz (Or.inr (by decide))]; exact z140
    have z151 : q_is (q_z f145 y85 6) 0 := by rw [ef145, q_setz (Or.inr (by decide))]; exact z141
    have z152 : q_is (q_z f145 y85 7) 0 := by rw [ef145, q_setz (Or.inr (by decide))]; exact z142
    have z153 : q_is (q_z f145 y85 8) 0 := by rw [ef145, q_setz (Or.inr (by decide))]; exact z135
    have z154 : q_ir (q_r f145 v 0) p80 := by rw [ef145, q_setr (Or.inr (by decide))]; exact z143
    refine q_vret cx hr hlk hB dX10_addNode_89 ?_
    trivial
  · refine q_vret cx hr hlk hB dX10_addNode_12 ?_
    trivial
set_option maxHeartbeats 4000000 in
set_option maxRecDepth 100000 in
theorem g_X10_addNode_4 (l : Launch) (g : q_G) {K : Nat → Nat} {L : List Nat} (hN : L.Nodup) {f : Nat → va_E} (hT : q_Ty g K L f) (v : Nat) (hv : v ∈ L) (kv : K v = 16) (p0 : Int64) (p1 : Int) (lp1 : (-2147483648) ≤ p1) (up1 : p1 ≤ 2147483647) (p2 : Int) (lp2 : (-2147483648) ≤ p2) (up2 : p2 ≤ 2147483647) (p3 : Int) (lp3 : (-2147483648) ≤ p3) (up3 : p3 ≤ 2147483647) : q_Ct l g K L yX10_addNode cX10_addNode 7 none 1 21 [.ref v, .long p0, .int (q_i p1), .int (q_i p2), .int (q_i p3)] f [(16, 3, 3), (20, 0, 8)] (q_Pv (fun (f1 : Nat → va_E) => True)) := by
  refine q_ofb (by decide +kernel) hN hT (Nat.le_of_ble_eq_true rfl) ?_
  intro p e s m below meth c ls cx hr hlk hB hl
  have hl : lv_has ls 7 [(0, .ref v), (1, .long p0), (3, .int (q_i p1)), (4, .int (q_i p2)), (5, .int (q_i p3))] := hl
  obtain ⟨H, hH⟩ : ∃ H : Heap, H = s.heap := ⟨_, rfl⟩
  obtain ⟨locs, hlocs⟩ : ∃ z : List Loc, z = [] := ⟨_, rfl⟩
  rw [← hH, ← hlocs] at hB
  rw [← hH, ← hlocs]
  refine q_ald_n cx dX10_addNode_0 rfl (lv_at hl 0 rfl) ?_
  obtain ⟨x78, ex78⟩ : ∃ zz, q_is (q_z f v 3) zz := ⟨_, q_isr _⟩
  refine q_gX10_35_16 cx hB hv kv ex78 dX10_addNode_1 (fun lb79 ub79 => ?_)
  refine q_ald_n cx dX10_addNode_4 rfl (lv_at hl 0 rfl) ?_
  obtain ⟨p80, ep80⟩ : ∃ zz, q_ir (q_r f v 0) zz := ⟨_, q_irr _⟩
  refine q_gX10_13_16 cx hB hv kv ep80 dX10_addNode_5 (fun hb81 kb81 => ?_)
  refine q_alen (n := 10) cx hB hb81 kb81 (by decide) rfl 7 rfl rfl dX10_addNode_8 ?_
  refine q_iclt (tgt := 13) cx ⟨by omega, by omega⟩ ⟨by decide, by decide⟩ dX10_addNode_9 (by decide) (fun c82 => ?_) (fun c82 => ?_)
  · refine q_ald_n cx dX10_addNode_13 rfl (lv_at hl 0 rfl) ?_
    refine q_ald_n cx dX10_addNode_14 rfl (lv_at hl 0 rfl) ?_
    refine q_gX10_35_16 cx hB hv kv ex78 dX10_addNode_15 (fun lb83 ub83 => ?_)
    refine q_cVr (As := [.int (q_i x78)]) (rest := []) cx hB (fun _ h => h) hN hv kv (by decide) rfl (g_X10_nodeAt_4 l g hN hB.2.1 v hv kv x78 (by omega) (by omega)) q_cX10_66 q_dX10_nodeAt (by decide) rfl rfl hl.1 rfl (Nat.le_of_ble_eq_true rfl) dX10_addNode_18 (fun y85 H locs f84 h86 hF hB => ?_)
    obtain ⟨rfl, hy85, ky85⟩ := h86
    refine lv_astore (lv' := [(6, .ref y85), (0, .ref v), (1, .long p0), (3, .int (q_i p1)), (4, .int (q_i p2)), (5, .int (q_i p3))]) cx.1 cx.2.1 dX10_addNode_21 hl (by decide) rfl (fun ls hl => ?_)
    refine lv_aload cx.1 cx.2.1 dX10_addNode_23 (lv_at hl 0 rfl) ?_
    refine q_lld_n cx dX10_addNode_25 rfl (lv_at hl 2 rfl) ?_
    refine q_pX10_88_20 cx hB hy85 ky85 rfl dX10_addNode_26 (fun H locs f87 ef87 z88 hB => ?_)
    have z89 : q_is (q_z f87 v 3) x78 := by rw [ef87, q_setz (Or.inr (by decide))]; exact ex78
    have z90 : q_ir (q_r f87 v 0) p80 := by rw [ef87, q_setr (Or.inl (fun q => by rw [q, ky85] at kv; exact absurd kv (by decide)))]; exact ep80
    refine lv_aload cx.1 cx.2.1 dX10_addNode_29 (lv_at hl 0 rfl) ?_
    refine q_lconst (z := 0) cx (by decide) dX10_addNode_31 ?_
    refine q_pX10_92_20 cx hB hy85 ky85 rfl dX10_addNode_32 (fun H locs f91 ef91 z92 hB => ?_)
    have z93 : q_is (q_z f91 v 3) x78 := by rw [ef91, q_setz (Or.inr (by decide))]; exact z89
    have z94 : q_ir (q_r f91 v 0) p80 := by rw [ef91, q_setr (Or.inr (by decide))]; exact z90
    refine lv_aload cx.1 cx.2.1 dX10_addNode_35 (lv_at hl 0 rfl) ?_
    refine q_ild_n cx dX10_addNode_37 rfl (lv_at hl 3 rfl) ?_
    refine q_pX10_95_20 cx hB hy85 ky85 ⟨by omega, by omega⟩ (by omega) (by omega) rfl dX10_addNode_38 (fun H locs f95 ef95 z96 hB => ?_)
    have z97 : q_is (q_z f95 v 3) x78 := by rw [ef95, q_setz (Or.inr (by decide))]; exact z93
    have z98 : q_ir (q_r f95 v 0) p80 := by rw [ef95, q_setr (Or.inr (by decide))]; exact z94
    refine lv_aload cx.1 cx.2.1 dX10_addNode_41 (lv_at hl 0 rfl) ?_
    refine lv_iload cx.1 cx.2.1 dX10_addNode_43 (lv_at hl 4 rfl) ?_
    refine q_pX10_98_20 cx hB hy85 ky85 ⟨by omega, by omega⟩ (by omega) (by omega) rfl dX10_addNode_45 (fun H locs f99 ef99 z100 hB => ?_)
    have z101 : q_is (q_z f99 v 3) x78 := by rw [ef99, q_setz (Or.inl (fun q => by rw [q, ky85] at kv; exact absurd kv (by decide)))]; exact z97
    have z102 : q_is (q_z f99 y85 2) p1 := by rw [ef99, q_setz (Or.inr (by decide))]; exact z96
    have z103 : q_ir (q_r f99 v 0) p80 := by rw [ef99, q_setr (Or.inr (by decide))]; exact z98
    refine lv_aload cx.1 cx.2.1 dX10_addNode_48 (lv_at hl 0 rfl) ?_
    refine lv_iload cx.1 cx.2.1 dX10_addNode_50 (lv_at hl 5 rfl) ?_
    refine q_pX10_101_20 cx hB hy85 ky85 ⟨by omega, by omega⟩ (by omega) (by omega) rfl dX10_addNode_52 (fun H locs f104 ef104 z105 hB => ?_)
    have z106 : q_is (q_z f104 v 3) x78 := by rw [ef104, q_setz (Or.inr (by decide))]; exact z101
    have z107 : q_is (q_z f104 y85 2) p1 := by rw [ef104, q_setz (Or.inr (by decide))]; exact z102
    have z108 : q_is (q_z f104 y85 3) p2 := by rw [ef104, q_setz (Or.inr (by decide))]; exact z100
    have z109 : q_ir (q_r f104 v 0) p80 := by rw [ef104, q_setr (Or.inr (by decide))]; exact z103
    refine lv_aload cx.1 cx.2.1 dX10_addNode_55 (lv_at hl 0 rfl) ?_
    refine q_iconst cx dX10_addNode_57 ?_
    refine q_pX10_104_20 cx hB hy85 ky85 ⟨by decide, by decide⟩ (by decide) (by decide) rfl dX10_addNode_58 (fun H locs f110 ef110 z111 hB => ?_)
    have z112 : q_is (q_z f110 v 3) x78 := by rw [ef110, q_setz (Or.inr (by decide))]; exact z106
    have z113 : q_is (q_z f110 y85 2) p1 := by rw [ef110, q_setz (Or.inr (by decide))]; exact z107
    have z114 : q_is (q_z f110 y85 3) p2 := by rw [ef110, q_setz (Or.inr (by decide))]; exact z108
    have z115 : q_is (q_z f110 y85 4) p3 := by rw [ef110, q_setz (Or.inr (by decide))]; exact z105
    have z116 : q_ir (q_r f110 v 0) p80 := by rw [ef110, q_setr (Or.inr (by decide))]; exact z109
    refine lv_aload cx.1 cx.2.1 dX10_addNode_61 (lv_at hl 0 rfl) ?_
    refine q_iconst cx dX10_addNode_63 ?_
    refine q_pX10_107_20 cx hB hy85 ky85 ⟨by decide, by decide⟩ (by decide) (by decide) rfl dX10_addNode_64 (fun H locs f117 ef117 z118 hB => ?_)
    have z119 : q_is (q_z f117 v 3) x78 := by rw [ef117, q_setz (Or.inr (by decide))]; exact z112
    have z120 : q_is (q_z f117 y85 2) p1 := by rw [ef117, q_setz (Or.inr (by decide))]; exact z113
    have z121 : q_is (q_z f117 y85 3) p2 := by rw [ef117, q_setz (Or.inr (by decide))]; exact z114
    have z122 : q_is (q_z f117 y85 4) p3 := by rw [ef117, q_setz (Or.inr (by decide))]; exact z115
    have z123 : q_is (q_z f117 y85 5) 0 := by rw [ef117, q_setz (Or.inr (by decide))]; exact z111
    have z124 : q_ir (q_r f117 v 0) p80 := by rw [ef117, q_setr (Or.inr (by decide))]; exact z116
    refine lv_aload cx.1 cx.2.1 dX10_addNode_67 (lv_at hl 0 rfl) ?_
    refine q_iconst cx dX10_addNode_69 ?_
    refine q_pX10_110_20 cx hB hy85 ky85 ⟨by decide, by decide⟩ (by decide) (by decide) rfl dX10_addNode_70 (fun H locs f125 ef125 z126 hB => ?_)
    have z127 : q_is (q_z f125 v 3) x78 := by rw [ef125, q_setz (Or.inr (by decide))]; exact z119
    have z128 : q_is (q_z f125 y85 2) p1 := by rw [ef125, q_setz (Or.inr (by decide))]; exact z120
    have z129 : q_is (q_z f125 y85 3) p2 := by rw [ef125, q_setz (Or.inr (by decide))]; exact z121
    have z130 : q_is (q_z f125 y85 4) p3 := by rw [ef125, q_setz (Or.inr (by decide))]; exact z122
    have z131 : q_is (q_z f125 y85 5) 0 := by rw [ef125, q_setz (Or.inr (by decide))]; exact z123
    have z132 : q_is (q_z f125 y85 6) 0 := by rw [ef125, q_setz (Or.inr (by decide))]; exact z118
    have z133 : q_ir (q_r f125 v 0) p80 := by rw [ef125, q_setr (Or.inr (by decide))]; exact z124
    refine lv_aload cx.1 cx.2.1 dX10_addNode_73 (lv_at hl 0 rfl) ?_
    refine q_iconst cx dX10_addNode_75 ?_
    refine q_pX10_113_20 cx hB hy85 ky85 ⟨by decide, by decide⟩ (by decide) (by decide) rfl dX10_addNode_76 (fun H locs f134 ef134 z135 hB => ?_)
    have z136 : q_is (q_z f134 v 3) x78 := by rw [ef134, q_setz (Or.inr (by decide))]; exact z127
    have z137 : q_is (q_z f134 y85 2) p1 := by rw [ef134, q_setz (Or.inr (by decide))]; exact z128
    have z138 : q_is (q_z f134 y85 3) p2 := by rw [ef134, q_setz (Or.inr (by decide))]; exact z129
    have z139 : q_is (q_z f134 y85 4) p3 := by rw [ef134, q_setz (Or.inr (by decide))]; exact z130
    have z140 : q_is (q_z f134 y85 5) 0 := by rw [ef134, q_setz (Or.inr (by decide))]; exact z131
    have z141 : q_is (q_z f134 y85 6) 0 := by rw [ef134, q_setz (Or.inr (by decide))]; exact z132
    have z142 : q_is (q_z f134 y85 7) 0 := by rw [ef134, q_setz (Or.inr (by decide))]; exact z126
    have z143 : q_ir (q_r f134 v 0) p80 := by rw [ef134, q_setr (Or.inr (by decide))]; exact z133
    refine q_ald_n cx dX10_addNode_79 rfl (lv_at hl 1 rfl) ?_
    refine lv_dup cx.1 cx.2.1 dX10_addNode_80 rfl ?_
    refine q_gX10_35_16 cx hB hv kv z136 dX10_addNode_81 (fun lb144 ub144 => ?_)
    refine q_iconst cx dX10_addNode_84 ?_
    refine q_iadd cx dX10_addNode_85 ?_
    refine q_pX10_35_16 cx hB hv kv ⟨by omega, by omega⟩ (by omega) (by omega) rfl dX10_addNode_86 (fun H locs f145 ef145 z146 hB => ?_)
    have z147 : q_is (q_z f145 y85 2) p1 := by rw [ef145, q_setz (Or.inr (by decide))]; exact z137
    have z148 : q_is (q_z f145 y85 3) p2 := by rw [ef145, q_setz (Or.inl (fun q => by rw [q, kv] at ky85; exact absurd ky85 (by decide)))]; exact z138
    have z149 : q_is (q_z f145 y85 4) p3 := by rw [ef145, q_setz (Or.inr (by decide))]; exact z139
    have z150 : q_is (q_z f145 y85 5) 0 := by rw [ef145, q_setz (Or.inr (by decide))]; exact z140
    have z151 : q_is (q_z f145 y85 6) 0 := by rw [ef145, q_setz (Or.inr (by decide))]; exact z141
    have z152 : q_is (q_z f145 y85 7) 0 := by rw [ef145, q_setz (Or.inr (by decide))]; exact z142
    have z153 : q_is (q_z f145 y85 8) 0 := by rw [ef145, q_setz (Or.inr (by decide))]; exact z135
    have z154 : q_ir (q_r f145 v 0) p80 := by rw [ef145, q_setr (Or.inr (by decide))]; exact z143
    refine q_vret cx hr hlk hB dX10_addNode_89 ?_
    trivial
  · refine q_vret cx hr hlk hB dX10_addNode_12 ?_
    trivial
