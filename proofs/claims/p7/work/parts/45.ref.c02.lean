set_option maxHeartbeats 4000000 in
set_option maxRecDepth 100000 in
theorem r_setting (l : Launch) (g : q_G) {K : Nat → Nat} {L : List Nat} (hN : L.Nodup) {f : Nat → va_E} (hT : q_Ty g K L f) (mo : Nat) (hmo : mo ∈ L) (kmo : K mo = 12) (a0 : Int) (la0 : (-2147483648) ≤ a0) (ua0 : a0 ≤ 2147483647) (sr : Nat) (hsr : sr ∈ L) (ksr : K sr = 151) (xt : Int) (lxt : 0 ≤ xt) (uxt : xt ≤ 9999) (xm : Int) (lxm : 0 ≤ xm) (uxm : xm ≤ 60) (xc : Int) (lxc : 0 ≤ xc) (uxc : xc ≤ 10) (hf0 : q_is (q_z f sr 3) xt) (hf1 : q_is (q_z f sr 4) xm) (hf2 : q_is (q_z f sr 0) xc) (hr0 : q_ir (q_r f mo 13) sr) (hgr : q_gr f sr) : q_Ct l g K L yX12_setting cX12_setting 2 (some .int) 4 86 [.ref mo, .int (q_i a0)] f [(12, 0, 0)] (q_Pi (fun (z : Int) (f1 : Nat → va_E) => True)) := by
  refine q_ofb (by decide +kernel) hN hT (Nat.le_of_ble_eq_true rfl) ?_
  intro p e s m below meth c ls cx hr hlk hB hl
  have hl : lv_has ls 2 [(0, .ref mo), (1, .int (q_i a0))] := hl
  obtain ⟨H, hH⟩ : ∃ H : Heap, H = s.heap := ⟨_, rfl⟩
  obtain ⟨locs, hlocs⟩ : ∃ z : List Loc, z = [] := ⟨_, rfl⟩
  rw [← hH, ← hlocs] at hB
  rw [← hH, ← hlocs]
  refine q_ald_n cx dX12_setting_0 rfl (lv_at hl 0 rfl) ?_
  refine q_ild_n cx dX12_setting_1 rfl (lv_at hl 1 rfl) ?_
  refine q_i2l cx ⟨by omega, by omega⟩ dX12_setting_2 ?_
  refine q_lconst (z := 0) cx (by decide) dX12_setting_3 ?_
  refine lv_ldc2 (v := q_l 10) cx.1 cx.2.1 cx.2.2.2.1 (cx.2.2.2.2 _ q_h1855) dX12_setting_4 ?_
  refine q_cSi (As := [.long (q_l a0), .long (q_l 0), .long (q_l 10)]) (rest := [.ref mo]) cx hB (fun _ h => h) hN (r_isIn l g hN hB.2.1 a0 (by omega) (by omega) 0 (by decide) (by decide) 10 (by decide) (by decide)) q_cX12_93 q_dX12_isIn (by decide) rfl rfl hl.1 rfl (Nat.le_of_ble_eq_true rfl) dX12_setting_7 (fun y57 H locs f56 ry57 h58 hF hB => ?_)
  rcases h58 with h59 | h60
  · obtain ⟨rfl, qy57, t61, t62⟩ := h59
    subst qy57
    refine q_cVi (As := [.int (q_i 1)]) (rest := []) cx hB (fun _ h => h) hN hmo kmo (by decide) rfl (r_goes1 l g hN hB.2.1 mo hmo kmo 1 (by decide) (by decide)) q_cX12_85 q_dX12_goes (by decide) rfl rfl hl.1 rfl (Nat.le_of_ble_eq_true rfl) dX12_setting_10 (fun y64 H locs f63 ry64 h65 hF hB => ?_)
    obtain ⟨qy64, z66⟩ := h65
    have z67 : q_is (q_z f63 sr 3) xt := Eq.trans (hF.z hsr (by rw [ksr]; rfl)) hf0
    have z68 : q_is (q_z f63 sr 4) xm := Eq.trans (hF.z hsr (by rw [ksr]; rfl)) hf1
    have z69 : q_is (q_z f63 sr 0) xc := Eq.trans (hF.z hsr (by rw [ksr]; rfl)) hf2
    have z70 : q_ir (q_r f63 mo 13) sr := Eq.trans (hF.r hmo (by rw [kmo]; rfl)) hr0
    have g71 : q_gr f63 sr := q_gr_fr hgr (fun i9 _ => hF.z hsr (by rw [ksr]; rfl))
    subst qy64
    refine q_ifne (tgt := 18) cx ⟨by decide, by decide⟩ dX12_setting_13 (by decide) (fun c72 => ?_) (fun c72 => ?_)
    · refine q_ild_n cx dX12_setting_18 rfl (lv_at hl 1 rfl) ?_
      by_cases c74 : a0 = 5
      · refine lv_tableIn (tgt := 56) cx.1 cx.2.1 dX12_setting_19 (by rw [q_toInt ⟨by omega, by omega⟩]; omega) (by rw [q_toInt ⟨by omega, by omega⟩]; omega) (off := 37) (by rw [q_toInt ⟨by omega, by omega⟩, c74]; rfl) (by decide) ?_
        refine q_ald_n cx dX12_setting_56 rfl (lv_at hl 0 rfl) ?_
        refine q_iconst cx dX12_setting_57 ?_
        refine q_cVi (As := [.int (q_i 1)]) (rest := []) cx hB (fun _ h => h) hN hmo kmo (by decide) rfl (r_inState l g hN hB.2.1 mo hmo kmo 1 (by decide) (by decide) sr hsr ksr z70 g71) q_cX12_343 q_dX12_inState (by decide) rfl rfl hl.1 rfl (Nat.le_of_ble_eq_true rfl) dX12_setting_58 (fun y76 H locs f75 ry76 h77 hF hB => ?_)
        obtain rfl := h77
        refine q_iret cx hr hlk hB dX12_setting_61 ⟨by omega, by omega⟩ ?_
        trivial
      by_cases c78 : a0 = 6
      · refine lv_tableIn (tgt := 62) cx.1 cx.2.1 dX12_setting_19 (by rw [q_toInt ⟨by omega, by omega⟩]; omega) (by rw [q_toInt ⟨by omega, by omega⟩]; omega) (off := 43) (by rw [q_toInt ⟨by omega, by omega⟩, c78]; rfl) (by decide) ?_
        refine q_ald_n cx dX12_setting_62 rfl (lv_at hl 0 rfl) ?_
        refine q_cVi (As := []) (rest := []) cx hB (fun _ h => h) hN hmo kmo (by decide) rfl (r_inTime l g hN hB.2.1 mo hmo kmo sr hsr ksr z70 g71) q_cX12_346 q_dX12_inTime (by decide) rfl rfl hl.1 rfl (Nat.le_of_ble_eq_true rfl) dX12_setting_63 (fun y80 H locs f79 ry80 h81 hF hB => ?_)
        obtain rfl := h81
        refine q_iret cx hr hlk hB dX12_setting_66 ⟨by omega, by omega⟩ ?_
        trivial
      by_cases c82 : a0 = 7
      · refine lv_tableIn (tgt := 67) cx.1 cx.2.1 dX12_setting_19 (by rw [q_toInt ⟨by omega, by omega⟩]; omega) (by rw [q_toInt ⟨by omega, by omega⟩]; omega) (off := 48) (by rw [q_toInt ⟨by omega, by omega⟩, c82]; rfl) (by decide) ?_
        refine q_ald_n cx dX12_setting_67 rfl (lv_at hl 0 rfl) ?_
        refine q_iconst cx dX12_setting_68 ?_
        refine q_cVi (As := [.int (q_i 2)]) (rest := []) cx hB (fun _ h => h) hN hmo kmo (by decide) rfl (r_inState l g hN hB.2.1 mo hmo kmo 2 (by decide) (by decide) sr hsr ksr z70 g71) q_cX12_343 q_dX12_inState (by decide) rfl rfl hl.1 rfl (Nat.le_of_ble_eq_true rfl) dX12_setting_69 (fun y84 H locs f83 ry84 h85 hF hB => ?_)
        obtain rfl := h85
        refine q_iret cx hr hlk hB dX12_setting_72 ⟨by omega, by omega⟩ ?_
        trivial
      by_cases c86 : a0 = 8
      · refine lv_tableIn (tgt := 73) cx.1 cx.2.1 dX12_setting_19 (by rw [q_toInt ⟨by omega, by omega⟩]; omega) (by rw [q_toInt ⟨by omega, by omega⟩]; omega) (off := 54) (by rw [q_toInt ⟨by omega, by omega⟩, c86]; rfl) (by decide) ?_
        refine q_ald_n cx dX12_setting_73 rfl (lv_at hl 0 rfl) ?_
        refine q_cVi (As := []) (rest := []) cx hB (fun _ h => h) hN hmo kmo (by decide) rfl (r_notOut l g hN hB.2.1 mo hmo kmo sr hsr ksr z70 g71) q_cX12_349 q_dX12_notOut (by decide) rfl rfl hl.1 rfl (Nat.le_of_ble_eq_true rfl) dX12_setting_74 (fun y88 H locs f87 ry88 h89 hF hB => ?_)
        obtain rfl := h89
        refine q_iret cx hr hlk hB dX12_setting_77 ⟨by omega, by omega⟩ ?_
        trivial
      by_cases c90 : a0 = 9
      · refine lv_tableIn (tgt := 78) cx.1 cx.2.1 dX12_setting_19 (by rw [q_toInt ⟨by omega, by omega⟩]; omega) (by rw [q_toInt ⟨by omega, by omega⟩]; omega) (off := 59) (by rw [q_toInt ⟨by omega, by omega⟩, c90]; rfl) (by decide) ?_
        refine q_ald_n cx dX12_setting_78 rfl (lv_at hl 0 rfl) ?_
        refine q_gX12_20 cx hB hmo kmo z70 dX12_setting_79 (fun hb91 kb91 => ?_)
        refine q_bipush cx dX12_setting_82 rfl ?_
        obtain ⟨x92, ex92⟩ : ∃ zz, q_is (q_z f63 sr (Int.toNat 9)) zz := ⟨_, q_isr _⟩
        refine q_sald cx hB hsr ksr (by decide) (by decide) ex92 dX12_setting_84 (fun rx92 => ?_)
        refine q_iret cx hr hlk hB dX12_setting_85 ⟨by omega, by omega⟩ ?_
        trivial
      by_cases c94 : a0 = 10
      · refine lv_tableIn (tgt := 86) cx.1 cx.2.1 dX12_setting_19 (by rw [q_toInt ⟨by omega, by omega⟩]; omega) (by rw [q_toInt ⟨by omega, by omega⟩]; omega) (off := 67) (by rw [q_toInt ⟨by omega, by omega⟩, c94]; rfl) (by decide) ?_
        refine q_ald_n cx dX12_setting_86 rfl (lv_at hl 0 rfl) ?_
        obtain ⟨x95, ex95⟩ : ∃ zz, q_is (q_z f63 mo 21) zz := ⟨_, q_isr _⟩
        refine q_gX12_158 cx hB hmo kmo ex95 dX12_setting_87 (fun lb96 ub96 => ?_)
        refine q_iret cx hr hlk hB dX12_setting_90 ⟨by omega, by omega⟩ ?_
        trivial
      refine lv_tableOut (tgt := 91) cx.1 cx.2.1 dX12_setting_19 (by rw [q_toInt ⟨by omega, by omega⟩]; omega) (by decide) ?_
      refine q_ald_n cx dX12_setting_91 rfl (lv_at hl 0 rfl) ?_
      refine q_gX12_20 cx hB hmo kmo z70 dX12_setting_92 (fun hb97 kb97 => ?_)
      refine q_ild_n cx dX12_setting_95 rfl (lv_at hl 1 rfl) ?_
      obtain ⟨x98, ex98⟩ : ∃ zz, q_is (q_z f63 sr (Int.toNat a0)) zz := ⟨_, q_isr _⟩
      refine q_sald cx hB hsr ksr (by omega) (by omega) ex98 dX12_setting_96 (fun rx98 => ?_)
      refine q_iret cx hr hlk hB dX12_setting_97 ⟨by omega, by omega⟩ ?_
      trivial
    · exact absurd c72 (by omega)
  · obtain ⟨rfl, qy57, t100⟩ := h60
    subst qy57
    refine q_cVi (As := [.int (q_i 0)]) (rest := []) cx hB (fun _ h => h) hN hmo kmo (by decide) rfl (r_goes0 l g hN hB.2.1 mo hmo kmo 0 (by decide) (by decide)) q_cX12_85 q_dX12_goes (by decide) rfl rfl hl.1 rfl (Nat.le_of_ble_eq_true rfl) dX12_setting_10 (fun y102 H locs f101 ry102 h103 hF hB => ?_)
    obtain ⟨qy102, z104⟩ := h103
    have z105 : q_is (q_z f101 sr 3) xt := Eq.trans (hF.z hsr (by rw [ksr]; rfl)) hf0
    have z106 : q_is (q_z f101 sr 4) xm := Eq.trans (hF.z hsr (by rw [ksr]; rfl)) hf1
    have z107 : q_is (q_z f101 sr 0) xc := Eq.trans (hF.z hsr (by rw [ksr]; rfl)) hf2
    have z108 : q_ir (q_r f101 mo 13) sr := Eq.trans (hF.r hmo (by rw [kmo]; rfl)) hr0
    have g109 : q_gr f101 sr := q_gr_fr hgr (fun i9 _ => hF.z hsr (by rw [ksr]; rfl))
    subst qy102
    refine q_ifne (tgt := 18) cx ⟨by decide, by decide⟩ dX12_setting_13 (by decide) (fun c110 => ?_) (fun c110 => ?_)
    · exact absurd c110 (by omega)
    · refine q_iconst cx dX12_setting_16 ?_
      refine q_iret cx hr hlk hB dX12_setting_17 ⟨by decide, by decide⟩ ?_
      trivial
set_option maxHeartbeats 4000000 in
set_option maxRecDepth 100000 in
theorem r_node (l : Launch) (g : q_G) {K : Nat → Nat} {L : List Nat} (hN : L.Nodup) {f : Nat → va_E} (hT : q_Ty g K L f) (mo : Nat) (hmo : mo ∈ L) (kmo : K mo = 12) (a0 : Int) (la0 : (-2147483648) ≤ a0) (ua0 : a0 ≤ 2147483647) (b0 : Int) (lb0 : (-2147483648) ≤ b0) (ub0 : b0 ≤ 2147483647) (sr : Nat) (hsr : sr ∈ L) (ksr : K sr = 151) (xt : Int) (lxt : 0 ≤ xt) (uxt : xt ≤ 9999) (xm : Int) (lxm : 0 ≤ xm) (uxm : xm ≤ 60) (xc : Int) (lxc : 0 ≤ xc) (uxc : xc ≤ 10) (hf0 : q_is (q_z f sr 3) xt) (hf1 : q_is (q_z f sr 4) xm) (hf2 : q_is (q_z f sr 0) xc) (hr0 : q_ir (q_r f mo 13) sr) (hgr : q_gr f sr) : q_Ct l g K L yX12_node cX12_node 3 (some .int) 6 133 [.ref mo, .int (q_i a0), .int (q_i b0)] f [(12, 0, 0)] (q_Pi (fun (z : Int) (f1 : Nat → va_E) => True)) := by
  refine q_ofb (by decide +kernel) hN hT (Nat.le_of_ble_eq_true rfl) ?_
  intro p e s m below meth c ls cx hr hlk hB hl
  have hl : lv_has ls 3 [(0, .ref mo), (1, .int (q_i a0)), (2, .int (q_i b0))] := hl
  obtain ⟨H, hH⟩ : ∃ H : Heap, H = s.heap := ⟨_, rfl⟩
  obtain ⟨locs, hlocs⟩ : ∃ z : List Loc, z = [] := ⟨_, rfl⟩
  rw [← hH, ← hlocs] at hB
  rw [← hH, ← hlocs]
  refine q_ald_n cx dX12_node_0 rfl (lv_at hl 0 rfl) ?_
  refine q_ald_n cx dX12_node_1 rfl (lv_at hl 0 rfl) ?_
  refine q_ild_n cx dX12_node_2 rfl (lv_at hl 1 rfl) ?_
  refine q_cVi (As := [.int (q_i a0)]) (rest := [.ref mo]) cx hB (fun _ h => h) hN hmo kmo (by decide) rfl (r_isNode l g hN hB.2.1 mo hmo kmo a0 (by omega) (by omega) sr hsr ksr hr0) q_cX12_355 q_dX12_isNode (by decide) rfl rfl hl.1 rfl (Nat.le_of_ble_eq_true rfl) dX12_node_3 (fun y108 H locs f107 ry108 h109 hF hB => ?_)
  rcases h109 with h110 | h111
  · obtain ⟨rfl, qy108, t112, t113⟩ := h110
    subst qy108
    refine q_ild_n cx dX12_node_6 rfl (lv_at hl 2 rfl) ?_
    refine q_i2l cx ⟨by omega, by omega⟩ dX12_node_7 ?_
    refine q_lconst (z := 0) cx (by decide) dX12_node_8 ?_
    refine lv_ldc2 (v := q_l 10) cx.1 cx.2.1 cx.2.2.2.1 (cx.2.2.2.2 _ q_h1855) dX12_node_9 ?_
    refine q_cSi (As := [.long (q_l b0), .long (q_l 0), .long (q_l 10)]) (rest := [.int (q_i 1), .ref mo]) cx hB (fun _ h => h) hN (r_isIn l g hN hB.2.1 b0 (by omega) (by omega) 0 (by decide) (by decide) 10 (by decide) (by decide)) q_cX12_93 q_dX12_isIn (by decide) rfl rfl hl.1 rfl (Nat.le_of_ble_eq_true rfl) dX12_node_12 (fun y115 H locs f114 ry115 h116 hF hB => ?_)
    rcases h116 with h117 | h118
    · obtain ⟨rfl, qy115, t119, t120⟩ := h117
      subst qy115
      refine q_cVi (As := [.int (q_i 1), .int (q_i 1)]) (rest := []) cx hB (fun _ h => h) hN hmo kmo (by decide) rfl (r_goesBoth2 l g hN hB.2.1 mo hmo kmo 1 (by decide) (by decide) 1 (by decide) (by decide)) q_cX12_358 q_dX12_goesBoth (by decide) rfl rfl hl.1 rfl (Nat.le_of_ble_eq_true rfl) dX12_node_15 (fun y122 H locs f121 ry122 h123 hF hB => ?_)
      obtain ⟨qy122, z124⟩ := h123
      have z125 : q_is (q_z f121 sr 3) xt := Eq.trans (hF.z hsr (by rw [ksr]; rfl)) hf0
      have z126 : q_is (q_z f121 sr 4) xm := Eq.trans (hF.z hsr (by rw [ksr]; rfl)) hf1
      have z127 : q_is (q_z f121 sr 0) xc := Eq.trans (hF.z hsr (by rw [ksr]; rfl)) hf2
      have z128 : q_ir (q_r f121 mo 13) sr := Eq.trans (hF.r hmo (by rw [kmo]; rfl)) hr0
      have g129 : q_gr f121 sr := q_gr_fr hgr (fun i9 _ => hF.z hsr (by rw [ksr]; rfl))
      subst qy122
      refine q_ifne (tgt := 23) cx ⟨by decide, by decide⟩ dX12_node_18 (by decide) (fun c130 => ?_) (fun c130 => ?_)
      · refine q_ild_n cx dX12_node_23 rfl (lv_at hl 2 rfl) ?_
        by_cases c132 : b0 = 3
        · refine lv_tableIn (tgt := 72) cx.1 cx.2.1 dX12_node_24 (by rw [q_toInt ⟨by omega, by omega⟩]; omega) (by rw [q_toInt ⟨by omega, by omega⟩]; omega) (off := 48) (by rw [q_toInt ⟨by omega, by omega⟩, c132]; rfl) (by decide) ?_
          refine q_ald_n cx dX12_node_72 rfl (lv_at hl 0 rfl) ?_
          refine q_ild_n cx dX12_node_73 rfl (lv_at hl 1 rfl) ?_
          refine q_cVi (As := [.int (q_i a0)]) (rest := []) cx hB (fun _ h => h) hN hmo kmo (by decide) rfl (r_dayOf l g hN hB.2.1 mo hmo kmo a0 (by omega) (by omega) sr hsr ksr z128 g129) q_cX12_289 q_dX12_dayOf (by decide) rfl rfl hl.1 rfl (Nat.le_of_ble_eq_true rfl) dX12_node_74 (fun y134 H locs f133 ry134 h135 hF hB => ?_)
          obtain ⟨rfl, ly134, uy134⟩ := h135
          refine q_iret cx hr hlk hB dX12_node_77 ⟨by omega, by omega⟩ ?_
          trivial
        by_cases c136 : b0 = 4
        · refine lv_tableIn (tgt := 78) cx.1 cx.2.1 dX12_node_24 (by rw [q_toInt ⟨by omega, by omega⟩]; omega) (by rw [q_toInt ⟨by omega, by omega⟩]; omega) (off := 54) (by rw [q_toInt ⟨by omega, by omega⟩, c136]; rfl) (by decide) ?_
          refine q_ald_n cx dX12_node_78 rfl (lv_at hl 0 rfl) ?_
          refine q_ild_n cx dX12_node_79 rfl (lv_at hl 1 rfl) ?_
          refine q_cVi (As := [.int (q_i a0)]) (rest := []) cx hB (fun _ h => h) hN hmo kmo (by decide) rfl (r_isAwakeNow l g hN hB.2.1 mo hmo kmo a0 (by omega) (by omega) sr hsr ksr z128 g129) q_cX12_362 q_dX12_isAwakeNow (by decide) rfl rfl hl.1 rfl (Nat.le_of_ble_eq_true rfl) dX12_node_80 (fun y138 H locs f137 ry138 h139 hF hB => ?_)
          obtain ⟨rfl, ly138, uy138⟩ := h139
          by_cases c140 : y138 ≤ 0
          · refine q_cSi (As := [.int (q_i y138)]) (rest := []) cx hB (fun _ h => h) hN (r_truth0 l g hN hB.2.1 y138 (by omega) (by omega)) q_cX12_78 q_dX12_truth (by decide) rfl rfl hl.1 rfl (Nat.le_of_ble_eq_true rfl) dX12_node_83 (fun y142 H locs f141 ry142 h143 hF hB => ?_)
            obtain ⟨rfl, qy142⟩ := h143
            subst qy142
            refine q_iret cx hr hlk hB dX12_node_86 ⟨by decide, by decide⟩ ?_
            trivial
          · refine q_cSi (As := [.int (q_i y138)]) (rest := []) cx hB (fun _ h => h) hN (r_truth1 l g hN hB.2.1 y138 (by omega) (by omega)) q_cX12_78 q_dX12_truth (by decide) rfl rfl hl.1 rfl (Nat.le_of_ble_eq_true rfl) dX12_node_83 (fun y145 H locs f144 ry145 h146 hF hB => ?_)
            obtain ⟨rfl, qy145⟩ := h146
            subst qy145
            refine q_iret cx hr hlk hB dX12_node_86 ⟨by decide, by decide⟩ ?_
            trivial
        by_cases c147 : b0 = 5
        · refine lv_tableIn (tgt := 87) cx.1 cx.2.1 dX12_node_24 (by rw [q_toInt ⟨by omega, by omega⟩]; omega) (by rw [q_toInt ⟨by omega, by omega⟩]; omega) (off := 63) (by rw [q_toInt ⟨by omega, by omega⟩, c147]; rfl) (by decide) ?_
          refine q_ald_n cx dX12_node_87 rfl (lv_at hl 0 rfl) ?_
          refine q_ild_n cx dX12_node_88 rfl (lv_at hl 1 rfl) ?_
          refine q_cVi (As := [.int (q_i a0)]) (rest := []) cx hB (fun _ h => h) hN hmo kmo (by decide) rfl (r_neighbours l g hN hB.2.1 mo hmo kmo a0 (by omega) (by omega) sr hsr ksr z128 g129) q_cX12_265 q_dX12_neighbours (by decide) rfl rfl hl.1 rfl (Nat.le_of_ble_eq_true rfl) dX12_node_89 (fun y149 H locs f148 ry149 h150 hF hB => ?_)
          obtain rfl := h150
          refine q_iret cx hr hlk hB dX12_node_92 ⟨by omega, by omega⟩ ?_
          trivial
        by_cases c151 : b0 = 6
        · refine lv_tableIn (tgt := 93) cx.1 cx.2.1 dX12_node_24 (by rw [q_toInt ⟨by omega, by omega⟩]; omega) (by rw [q_toInt ⟨by omega, by omega⟩]; omega) (off := 69) (by rw [q_toInt ⟨by omega, by omega⟩, c151]; rfl) (by decide) ?_
          refine q_ald_n cx dX12_node_93 rfl (lv_at hl 0 rfl) ?_
          refine q_ild_n cx dX12_node_94 rfl (lv_at hl 1 rfl) ?_
          refine q_iconst cx dX12_node_95 ?_
          refine q_cVi (As := [.int (q_i a0), .int (q_i 3)]) (rest := []) cx hB (fun _ h => h) hN hmo kmo (by decide) rfl (r_ofNode3 l g hN hB.2.1 mo hmo kmo a0 (by omega) (by omega) 3 (by decide) (by decide) sr hsr ksr z128 g129) q_cX12_256 q_dX12_ofNode (by decide) rfl rfl hl.1 rfl (Nat.le_of_ble_eq_true rfl) dX12_node_96 (fun y153 H locs f152 ry153 h154 hF hB => ?_)
          obtain rfl := h154
          refine q_iret cx hr hlk hB dX12_node_99 ⟨by omega, by omega⟩ ?_
          trivial
        by_cases c155 : b0 = 7
        · refine lv_tableIn (tgt := 100) cx.1 cx.2.1 dX12_node_24 (by rw [q_toInt ⟨by omega, by omega⟩]; omega) (by rw [q_toInt ⟨by omega, by omega⟩]; omega) (off := 76) (by rw [q_toInt ⟨by omega, by omega⟩, c155]; rfl) (by decide) ?_
          refine q_ald_n cx dX12_node_100 rfl (lv_at hl 0 rfl) ?_
          refine q_ild_n cx dX12_node_101 rfl (lv_at hl 1 rfl) ?_
          refine q_iconst cx dX12_node_102 ?_
          refine q_cVi (As := [.int (q_i a0), .int (q_i 4)]) (rest := []) cx hB (fun _ h => h) hN hmo kmo (by decide) rfl (r_ofNode4 l g hN hB.2.1 mo hmo kmo a0 (by omega) (by omega) 4 (by decide) (by decide) sr hsr ksr z128 g129) q_cX12_256 q_dX12_ofNode (by decide) rfl rfl hl.1 rfl (Nat.le_of_ble_eq_true rfl) dX12_node_103 (fun y157 H locs f156 ry157 h158 hF hB => ?_)
          obtain rfl := h158
          refine q_iret cx hr hlk hB dX12_node_106 ⟨by omega, by omega⟩ ?_
          trivial
        by_cases c159 : b0 = 8
        · refine lv_tableIn (tgt := 107) cx.1 cx.2.1 dX12_node_24 (by rw [q_toInt ⟨by omega, by omega⟩]; omega) (by rw [q_toInt ⟨by omega, by omega⟩]; omega) (off := 83) (by rw [q_toInt ⟨by omega, by omega⟩, c159]; rfl) (by decide) ?_
          refine q_ald_n cx dX12_node_107 rfl (lv_at hl 0 rfl) ?_
          refine q_ild_n cx dX12_node_108 rfl (lv_at hl 1 rfl) ?_
          refine q_iconst cx dX12_node_109 ?_
          refine q_cVi (As := [.int (q_i a0), .int (q_i 5)]) (rest := []) cx hB (fun _ h => h) hN hmo kmo (by decide) rfl (r_ofNode5 l g hN hB.2.1 mo hmo kmo a0 (by omega) (by omega) 5 (by decide) (by decide) sr hsr ksr z128 g129) q_cX12_256 q_dX12_ofNode (by decide) rfl rfl hl.1 rfl (Nat.le_of_ble_eq_true rfl) dX12_node_110 (fun y161 H locs f160 ry161 h162 hF hB => ?_)
          obtain rfl := h162
          refine q_iret cx hr hlk hB dX12_node_113 ⟨by omega, by omega⟩ ?_
          trivial
        by_cases c163 : b0 = 9
        · refine lv_tableIn (tgt := 114) cx.1 cx.2.1 dX12_node_24 (by rw [q_toInt ⟨by omega, by omega⟩]; omega) (by rw [q_toInt ⟨by omega, by omega⟩]; omega) (off := 90) (by rw [q_toInt ⟨by omega, by omega⟩, c163]; rfl) (by decide) ?_
          refine q_ald_n cx dX12_node_114 rfl (lv_at hl 0 rfl) ?_
          refine q_ild_n cx dX12_node_115 rfl (lv_at hl 1 rfl) ?_
          refine q_cVi (As := [.int (q_i a0)]) (rest := []) cx hB (fun _ h => h) hN hmo kmo (by decide) rfl (r_daysOf l g hN hB.2.1 mo hmo kmo a0 (by omega) (by omega) sr hsr ksr z128 g129) q_cX12_365 q_dX12_daysOf (by decide) rfl rfl hl.1 rfl (Nat.le_of_ble_eq_true rfl) dX12_node_116 (fun y165 H locs f164 ry165 h166 hF hB => ?_)
          obtain rfl := h166
          refine q_iret cx hr hlk hB dX12_node_119 ⟨by omega, by omega⟩ ?_
          trivial
        by_cases c167 : b0 = 10
        · refine lv_tableIn (tgt := 120) cx.1 cx.2.1 dX12_node_24 (by rw [q_toInt ⟨by omega, by omega⟩]; omega) (by rw [q_toInt ⟨by omega, by omega⟩]; omega) (off := 96) (by rw [q_toInt ⟨by omega, by omega⟩, c167]; rfl) (by decide) ?_
          refine q_ald_n cx dX12_node_120 rfl (lv_at hl 0 rfl) ?_
          refine q_ild_n cx dX12_node_121 rfl (lv_at hl 1 rfl) ?_
          refine q_cVi (As := [.int (q_i a0)]) (rest := []) cx hB (fun _ h => h) hN hmo kmo (by decide) rfl (r_underWayAt l g hN hB.2.1 mo hmo kmo a0 (by omega) (by omega) sr hsr ksr z128 g129) q_cX12_368 q_dX12_underWayAt (by decide) rfl rfl hl.1 rfl (Nat.le_of_ble_eq_true rfl) dX12_node_122 (fun y169 H locs f168 ry169 h170 hF hB => ?_)
          obtain rfl := h170
          refine q_iret cx hr hlk hB dX12_node_125 ⟨by omega, by omega⟩ ?_
          trivial
        refine lv_tableOut (tgt := 126) cx.1 cx.2.1 dX12_node_24 (by rw [q_toInt ⟨by omega, by omega⟩]; omega) (by decide) ?_
        refine q_ald_n cx dX12_node_126 rfl (lv_at hl 0 rfl) ?_
        refine q_ild_n cx dX12_node_127 rfl (lv_at hl 1 rfl) ?_
        refine q_ild_n cx dX12_node_128 rfl (lv_at hl 2 rfl) ?_
        refine q_cVi (As := [.int (q_i a0), .int (q_i b0)]) (rest := []) cx hB (fun _ h => h) hN hmo kmo (by decide) rfl (r_ofNodex l g hN hB.2.1 mo hmo kmo a0 (by omega) (by omega) b0 (by omega) (by omega) sr hsr ksr z128) q_cX12_256 q_dX12_ofNode (by decide) rfl rfl hl.1 rfl (Nat.le_of_ble_eq_true rfl) dX12_node_129 (fun y172 H locs f171 ry172 h173 hF hB => ?_)
        obtain rfl := h173
        refine q_iret cx hr hlk hB dX12_node_132 ⟨by omega, by omega⟩ ?_
        trivial
      · exact absurd c130 (by omega)
    · obtain ⟨rfl, qy115, t174⟩ := h118
      subst qy115
      refine q_cVi (As := [.int (q_i 1), .int (q_i 0)]) (rest := []) cx hB (fun _ h => h) hN hmo kmo (by decide) rfl (r_goesBoth1 l g hN hB.2.1 mo hmo kmo 1 (by decide) (by decide) 0 (by decide) (by decide)) q_cX12_358 q_dX12_goesBoth (by decide) rfl rfl hl.1 rfl (Nat.le_of_ble_eq_true rfl) dX12_node_15 (fun y176 H locs f175 ry176 h177 hF hB => ?_)
      obtain ⟨qy176, z178⟩ := h177
      have z179 : q_is (q_z f175 sr 3) xt := Eq.trans (hF.z hsr (by rw [ksr]; rfl)) hf0
      have z180 : q_is (q_z f175 sr 4) xm := Eq.trans (hF.z hsr (by rw [ksr]; rfl)) hf1
      have z181 : q_is (q_z f175 sr 0) xc := Eq.trans (hF.z hsr (by rw [ksr]; rfl)) hf2
      have z182 : q_ir (q_r f175 mo 13) sr := Eq.trans (hF.r hmo (by rw [kmo]; rfl)) hr0
      have g183 : q_gr f175 sr := q_gr_fr hgr (fun i9 _ => hF.z hsr (by rw [ksr]; rfl))
      subst qy176
      refine q_ifne (tgt := 23) cx ⟨by decide, by decide⟩ dX12_node_18 (by decide) (fun c184 => ?_) (fun c184 => ?_)
      · exact absurd c184 (by omega)
      · refine q_iconst cx dX12_node_21 ?_
        refine q_iret cx hr hlk hB dX12_node_22 ⟨by decide, by decide⟩ ?_
        trivial
  · obtain ⟨rfl, qy108⟩ := h111
    subst qy108
    refine q_ild_n cx dX12_node_6 rfl (lv_at hl 2 rfl) ?_
    refine q_i2l cx ⟨by omega, by omega⟩ dX12_node_7 ?_
    refine q_lconst (z := 0) cx (by decide) dX12_node_8 ?_
    refine lv_ldc2 (v := q_l 10) cx.1 cx.2.1 cx.2.2.2.1 (cx.2.2.2.2 _ q_h1855) dX12_node_9 ?_
    refine q_cSi (As := [.long (q_l b0), .long (q_l 0), .long (q_l 10)]) (rest := [.int (q_i 0), .ref mo]) cx hB (fun _ h => h) hN (r_isIn l g hN hB.2.1 b0 (by omega) (by omega) 0 (by decide) (by decide) 10 (by decide) (by decide)) q_cX12_93 q_dX12_isIn (by decide) rfl rfl hl.1 rfl (Nat.le_of_ble_eq_true rfl) dX12_node_12 (fun y186 H locs f185 ry186 h187 hF hB => ?_)
    rcases h187 with h188 | h189
    · obtain ⟨rfl, qy186, t190, t191⟩ := h188
      subst qy186
      refine q_cVi (As := [.int (q_i 0), .int (q_i 1)]) (rest := []) cx hB (fun _ h => h) hN hmo kmo (by decide) rfl (r_goesBoth0 l g hN hB.2.1 mo hmo kmo 0 (by decide) (by decide) 1 (by decide) (by decide)) q_cX12_358 q_dX12_goesBoth (by decide) rfl rfl hl.1 rfl (Nat.le_of_ble_eq_true rfl) dX12_node_15 (fun y193 H locs f192 ry193 h194 hF hB => ?_)
      obtain ⟨qy193, z195⟩ := h194
      have z196 : q_is (q_z f192 sr 3) xt := Eq.trans (hF.z hsr (by rw [ksr]; rfl)) hf0
      have z197 : q_is (q_z f192 sr 4) xm := Eq.trans (hF.z hsr (by rw [ksr]; rfl)) hf1
      have z198 : q_is (q_z f192 sr 0) xc := Eq.trans (hF.z hsr (by rw [ksr]; rfl)) hf2
      have z199 : q_ir (q_r f192 mo 13) sr := Eq.trans (hF.r hmo (by rw [kmo]; rfl)) hr0
      have g200 : q_gr f192 sr := q_gr_fr hgr (fun i9 _ => hF.z hsr (by rw [ksr]; rfl))
      subst qy193
      refine q_ifne (tgt := 23) cx ⟨by decide, by decide⟩ dX12_node_18 (by decide) (fun c201 => ?_) (fun c201 => ?_)
      · exact absurd c201 (by omega)
      · refine q_iconst cx dX12_node_21 ?_
        refine q_iret cx hr hlk hB dX12_node_22 ⟨by decide, by decide⟩ ?_
        trivial
    · obtain ⟨rfl, qy186, t202⟩ := h189
      subst qy186
      refine q_cVi (As := [.int (q_i 0), .int (q_i 0)]) (rest := []) cx hB (fun _ h => h) hN hmo kmo (by decide) rfl (r_goesBoth0 l g hN hB.2.1 mo hmo kmo 0 (by decide) (by decide) 0 (by decide) (by decide)) q_cX12_358 q_dX12_goesBoth (by decide) rfl rfl hl.1 rfl (Nat.le_of_ble_eq_true rfl) dX12_node_15 (fun y204 H locs f203 ry204 h205 hF hB => ?_)
      obtain ⟨qy204, z206⟩ := h205
      have z207 : q_is (q_z f203 sr 3) xt := Eq.trans (hF.z hsr (by rw [ksr]; rfl)) hf0
      have z208 : q_is (q_z f203 sr 4) xm := Eq.trans (hF.z hsr (by rw [ksr]; rfl)) hf1
      have z209 : q_is (q_z f203 sr 0) xc := Eq.trans (hF.z hsr (by rw [ksr]; rfl)) hf2
      have z210 : q_ir (q_r f203 mo 13) sr := Eq.trans (hF.r hmo (by rw [kmo]; rfl)) hr0
      have g211 : q_gr f203 sr := q_gr_fr hgr (fun i9 _ => hF.z hsr (by rw [ksr]; rfl))
      subst qy204
      refine q_ifne (tgt := 23) cx ⟨by decide, by decide⟩ dX12_node_18 (by decide) (fun c212 => ?_) (fun c212 => ?_)
      · exact absurd c212 (by omega)
      · refine q_iconst cx dX12_node_21 ?_
        refine q_iret cx hr hlk hB dX12_node_22 ⟨by decide, by decide⟩ ?_
        trivial
set_option maxHeartbeats 4000000 in
set_option maxRecDepth 100000 in
theorem r_link (l : Launch) (g : q_G) {K : Nat → Nat} {L : List Nat} (hN : L.Nodup) {f : Nat → va_E} (hT : q_Ty g K L f) (mo : Nat) (hmo : mo ∈ L) (kmo : K mo = 12) (a0 : Int) (la0 : (-2147483648) ≤ a0) (ua0 : a0 ≤ 2147483647) (b0 : Int) (lb0 : (-2147483648) ≤ b0) (ub0 : b0 ≤ 2147483647) (sr : Nat) (hsr : sr ∈ L) (ksr : K sr = 151) (hr0 : q_ir (q_r f mo 13) sr) (hgr : q_gr f sr) : q_Ct l g K L yX12_link cX12_link 3 (some .int) 1 25 [.ref mo, .int (q_i a0), .int (q_i b0)] f [(12, 0, 0)] (q_Pi (fun (z : Int) (f1 : Nat → va_E) => True)) := by
  refine q_ofb (by decide +kernel) hN hT (Nat.le_of_ble_eq_true rfl) ?_
  intro p e s m below meth c ls cx hr hlk hB hl
  have hl : lv_has ls 3 [(0, .ref mo), (1, .int (q_i a0)), (2, .int (q_i b0))] := hl
  obtain ⟨H, hH⟩ : ∃ H : Heap, H = s.heap := ⟨_, rfl⟩
  obtain ⟨locs, hlocs⟩ : ∃ z : List Loc, z = [] := ⟨_, rfl⟩
  rw [← hH, ← hlocs] at hB
  rw [← hH, ← hlocs]
  refine q_ald_n cx dX12_link_0 rfl (lv_at hl 0 rfl) ?_
  refine q_ild_n cx dX12_link_1 rfl (lv_at hl 1 rfl) ?_
  refine q_i2l cx ⟨by omega, by omega⟩ dX12_link_2 ?_
  refine q_lconst (z := 0) cx (by decide) dX12_link_3 ?_
  refine q_ald_n cx dX12_link_4 rfl (lv_at hl 0 rfl) ?_
  refine q_gX12_20 cx hB hmo kmo hr0 dX12_link_5 (fun hb63 kb63 => ?_)
  refine q_iconst cx dX12_link_8 ?_
  obtain ⟨x64, ex64⟩ : ∃ zz, q_is (q_z f sr (Int.toNat 1)) zz := ⟨_, q_isr _⟩
  refine q_iald (lo := 0) (hi := 16) (n := 658) cx hB hsr ksr (by decide) rfl rfl (by decide) (by decide) (by decide) rfl ex64 dX12_link_9 (fun lb65 ub65 => ?_)
  refine q_iconst cx dX12_link_10 ?_
  refine q_isub cx dX12_link_11 ?_
  refine q_i2l cx ⟨by omega, by omega⟩ dX12_link_12 ?_
  refine q_cSi (As := [.long (q_l a0), .long (q_l 0), .long (q_l (x64 - 1))]) (rest := [.ref mo]) cx hB (fun _ h => h) hN (r_isIn l g hN hB.2.1 a0 (by omega) (by omega) 0 (by decide) (by decide) (x64 - 1) (by omega) (by omega)) q_cX12_93 q_dX12_isIn (by decide) rfl rfl hl.1 rfl (Nat.le_of_ble_eq_true rfl) dX12_link_13 (fun y67 H locs f66 ry67 h68 hF hB => ?_)
  rcases h68 with h69 | h70
  · obtain ⟨rfl, qy67, t71, t72⟩ := h69
    subst qy67
    refine q_ild_n cx dX12_link_16 rfl (lv_at hl 2 rfl) ?_
    refine q_i2l cx ⟨by omega, by omega⟩ dX12_link_17 ?_
    refine q_lconst (z := 0) cx (by decide) dX12_link_18 ?_
    refine lv_ldc2 (v := q_l 4) cx.1 cx.2.1 cx.2.2.2.1 (cx.2.2.2.2 _ q_h1932) dX12_link_19 ?_
    refine q_cSi (As := [.long (q_l b0), .long (q_l 0), .long (q_l 4)]) (rest := [.int (q_i 1), .ref mo]) cx hB (fun _ h => h) hN (r_isIn l g hN hB.2.1 b0 (by omega) (by omega) 0 (by decide) (by decide) 4 (by decide) (by decide)) q_cX12_93 q_dX12_isIn (by decide) rfl rfl hl.1 rfl (Nat.le_of_ble_eq_true rfl) dX12_link_22 (fun y74 H locs f73 ry74 h75 hF hB => ?_)
    rcases h75 with h76 | h77
    · obtain ⟨rfl, qy74, t78, t79⟩ := h76
      subst qy74
      refine q_cVi (As := [.int (q_i 1), .int (q_i 1)]) (rest := []) cx hB (fun _ h => h) hN hmo kmo (by decide) rfl (r_goesBoth2 l g hN hB.2.1 mo hmo kmo 1 (by decide) (by decide) 1 (by decide) (by decide)) q_cX12_358 q_dX12_goesBoth (by decide) rfl rfl hl.1 rfl (Nat.le_of_ble_eq_true rfl) dX12_link_25 (fun y81 H locs f80 ry81 h82 hF hB => ?_)
      obtain ⟨qy81, z83⟩ := h82
      have z84 : q_is (q_z f80 sr 1) x64 := Eq.trans (hF.z hsr (by rw [ksr]; rfl)) ex64
      have z85 : q_ir (q_r f80 mo 13) sr := Eq.trans (hF.r hmo (by rw [kmo]; rfl)) hr0
      have g86 : q_gr f80 sr := q_gr_fr hgr (fun i9 _ => hF.z hsr (by rw [ksr]; rfl))
      subst qy81
      refine q_ifeq (tgt := 40) cx ⟨by decide, by decide⟩ dX12_link_28 (by decide) (fun c87 => ?_) (fun c87 => ?_)
      · exact absurd c87 (by omega)
      · refine q_ald_n cx dX12_link_31 rfl (lv_at hl 0 rfl) ?_
        refine q_ild_n cx dX12_link_32 rfl (lv_at hl 1 rfl) ?_
        refine q_ild_n cx dX12_link_33 rfl (lv_at hl 2 rfl) ?_
        refine q_cVi (As := [.int (q_i a0), .int (q_i b0)]) (rest := []) cx hB (fun _ h => h) hN hmo kmo (by decide) rfl (r_ofLinkx l g hN hB.2.1 mo hmo kmo a0 (by omega) (by omega) b0 (by omega) (by omega) sr hsr ksr z85) q_cX12_210 q_dX12_ofLink (by decide) rfl rfl hl.1 rfl (Nat.le_of_ble_eq_true rfl) dX12_link_34 (fun y89 H locs f88 ry89 h90 hF hB => ?_)
        obtain rfl := h90
        refine lv_goto (tgt := 41) cx.1 cx.2.1 dX12_link_37 (by decide) ?_
        refine q_iret cx hr hlk hB dX12_link_41 ⟨by omega, by omega⟩ ?_
        trivial
    · obtain ⟨rfl, qy74, t91⟩ := h77
      subst qy74
      refine q_cVi (As := [.int (q_i 1), .int (q_i 0)]) (rest := []) cx hB (fun _ h => h) hN hmo kmo (by decide) rfl (r_goesBoth1 l g hN hB.2.1 mo hmo kmo 1 (by decide) (by decide) 0 (by decide) (by decide)) q_cX12_358 q_dX12_goesBoth (by decide) rfl rfl hl.1 rfl (Nat.le_of_ble_eq_true rfl) dX12_link_25 (fun y93 H locs f92 ry93 h94 hF hB => ?_)
      obtain ⟨qy93, z95⟩ := h94
      have z96 : q_is (q_z f92 sr 1) x64 := Eq.trans (hF.z hsr (by rw [ksr]; rfl)) ex64
      have z97 : q_ir (q_r f92 mo 13) sr := Eq.trans (hF.r hmo (by rw [kmo]; rfl)) hr0
      have g98 : q_gr f92 sr := q_gr_fr hgr (fun i9 _ => hF.z hsr (by rw [ksr]; rfl))
      subst qy93
      refine q_ifeq (tgt := 40) cx ⟨by decide, by decide⟩ dX12_link_28 (by decide) (fun c99 => ?_) (fun c99 => ?_)
      · refine q_iconst cx dX12_link_40 ?_
        refine q_iret cx hr hlk hB dX12_link_41 ⟨by decide, by decide⟩ ?_
        trivial
      · exact absurd c99 (by omega)
  · obtain ⟨rfl, qy67, t100⟩ := h70
    subst qy67
    refine q_ild_n cx dX12_link_16 rfl (lv_at hl 2 rfl) ?_
    refine q_i2l cx ⟨by omega, by omega⟩ dX12_link_17 ?_
    refine q_lconst (z := 0) cx (by decide) dX12_link_18 ?_
    refine lv_ldc2 (v := q_l 4) cx.1 cx.2.1 cx.2.2.2.1 (cx.2.2.2.2 _ q_h1932) dX12_link_19 ?_
    refine q_cSi (As := [.long (q_l b0), .long (q_l 0), .long (q_l 4)]) (rest := [.int (q_i 0), .ref mo]) cx hB (fun _ h => h) hN (r_isIn l g hN hB.2.1 b0 (by omega) (by omega) 0 (by decide) (by decide) 4 (by decide) (by decide)) q_cX12_93 q_dX12_isIn (by decide) rfl rfl hl.1 rfl (Nat.le_of_ble_eq_true rfl) dX12_link_22 (fun y102 H locs f101 ry102 h103 hF hB => ?_)
    rcases h103 with h104 | h105
    · obtain ⟨rfl, qy102, t106, t107⟩ := h104
      subst qy102
      refine q_cVi (As := [.int (q_i 0), .int (q_i 1)]) (rest := []) cx hB (fun _ h => h) hN hmo kmo (by decide) rfl (r_goesBoth0 l g hN hB.2.1 mo hmo kmo 0 (by decide) (by decide) 1 (by decide) (by decide)) q_cX12_358 q_dX12_goesBoth (by decide) rfl rfl hl.1 rfl (Nat.le_of_ble_eq_true rfl) dX12_link_25 (fun y109 H locs f108 ry109 h110 hF hB => ?_)
      obtain ⟨qy109, z111⟩ := h110
      have z112 : q_is (q_z f108 sr 1) x64 := Eq.trans (hF.z hsr (by rw [ksr]; rfl)) ex64
      have z113 : q_ir (q_r f108 mo 13) sr := Eq.trans (hF.r hmo (by rw [kmo]; rfl)) hr0
      have g114 : q_gr f108 sr := q_gr_fr hgr (fun i9 _ => hF.z hsr (by rw [ksr]; rfl))
      subst qy109
      refine q_ifeq (tgt := 40) cx ⟨by decide, by decide⟩ dX12_link_28 (by decide) (fun c115 => ?_) (fun c115 => ?_)
      · refine q_iconst cx dX12_link_40 ?_
        refine q_iret cx hr hlk hB dX12_link_41 ⟨by decide, by decide⟩ ?_
        trivial
      · exact absurd c115 (by omega)
    · obtain ⟨rfl, qy102, t116⟩ := h105
      subst qy102
      refine q_cVi (As := [.int (q_i 0), .int (q_i 0)]) (rest := []) cx hB (fun _ h => h) hN hmo kmo (by decide) rfl (r_goesBoth0 l g hN hB.2.1 mo hmo kmo 0 (by decide) (by decide) 0 (by decide) (by decide)) q_cX12_358 q_dX12_goesBoth (by decide) rfl rfl hl.1 rfl (Nat.le_of_ble_eq_true rfl) dX12_link_25 (fun y118 H locs f117 ry118 h119 hF hB => ?_)
      obtain ⟨qy118, z120⟩ := h119
      have z121 : q_is (q_z f117 sr 1) x64 := Eq.trans (hF.z hsr (by rw [ksr]; rfl)) ex64
      have z122 : q_ir (q_r f117 mo 13) sr := Eq.trans (hF.r hmo (by rw [kmo]; rfl)) hr0
      have g123 : q_gr f117 sr := q_gr_fr hgr (fun i9 _ => hF.z hsr (by rw [ksr]; rfl))
      subst qy118
      refine q_ifeq (tgt := 40) cx ⟨by decide, by decide⟩ dX12_link_28 (by decide) (fun c124 => ?_) (fun c124 => ?_)
      · refine q_iconst cx dX12_link_40 ?_
        refine q_iret cx hr hlk hB dX12_link_41 ⟨by decide, by decide⟩ ?_
        trivial
      · exact absurd c124 (by omega)
set_option maxHeartbeats 4000000 in
set_option maxRecDepth 100000 in
theorem r_message (l : Launch) (g : q_G) {K : Nat → Nat} {L : List Nat} (hN : L.Nodup) {f : Nat → va_E} (hT : q_Ty g K L f) (mo : Nat) (hmo : mo ∈ L) (kmo : K mo = 12) (a0 : Int) (la0 : (-2147483648) ≤ a0) (ua0 : a0 ≤ 2147483647) (b0 : Int) (lb0 : (-2147483648) ≤ b0) (ub0 : b0 ≤ 2147483647) (sr : Nat) (hsr : sr ∈ L) (ksr : K sr = 151) (xt : Int) (lxt : 0 ≤ xt) (uxt : xt ≤ 9999) (xm : Int) (lxm : 0 ≤ xm) (uxm : xm ≤ 60) (xc : Int) (lxc : 0 ≤ xc) (uxc : xc ≤ 10) (hf0 : q_is (q_z f sr 3) xt) (hf1 : q_is (q_z f sr 4) xm) (hf2 : q_is (q_z f sr 0) xc) (hr0 : q_ir (q_r f mo 13) sr) (hgr : q_gr f sr) : q_Ct l g K L yX12_message cX12_message 3 (some .int) 2 46 [.ref mo, .int (q_i a0), .int (q_i b0)] f [(12, 0, 0)] (q_Pi (fun (z : Int) (f1 : Nat → va_E) => True)) := by
  refine q_ofb (by decide +kernel) hN hT (Nat.le_of_ble_eq_true rfl) ?_
  intro p e s m below meth c ls cx hr hlk hB hl
  have hl : lv_has ls 3 [(0, .ref mo), (1, .int (q_i a0)), (2, .int (q_i b0))] := hl
  obtain ⟨H, hH⟩ : ∃ H : Heap, H = s.heap := ⟨_, rfl⟩
  obtain ⟨locs, hlocs⟩ : ∃ z : List Loc, z = [] := ⟨_, rfl⟩
  rw [← hH, ← hlocs] at hB
  rw [← hH, ← hlocs]
  refine q_ald_n cx dX12_message_0 rfl (lv_at hl 0 rfl) ?_
  refine q_ald_n cx dX12_message_1 rfl (lv_at hl 0 rfl) ?_
  refine q_ild_n cx dX12_message_2 rfl (lv_at hl 1 rfl) ?_
  refine q_cVi (As := [.int (q_i a0)]) (rest := [.ref mo]) cx hB (fun _ h => h) hN hmo kmo (by decide) rfl (r_isMessage l g hN hB.2.1 mo hmo kmo a0 (by omega) (by omega) sr hsr ksr xm (by omega) (by omega) hf1 hr0 hgr) q_cX12_373 q_dX12_isMessage (by decide) rfl rfl hl.1 rfl (Nat.le_of_ble_eq_true rfl) dX12_message_3 (fun y68 H locs f67 ry68 h69 hF hB => ?_)
  rcases h69 with h70 | h71
  · obtain ⟨rfl, qy68, t72, t73⟩ := h70
    subst qy68
    refine q_ild_n cx dX12_message_6 rfl (lv_at hl 2 rfl) ?_
    refine q_i2l cx ⟨by omega, by omega⟩ dX12_message_7 ?_
    refine q_lconst (z := 0) cx (by decide) dX12_message_8 ?_
    refine lv_ldc2 (v := q_l 7) cx.1 cx.2.1 cx.2.2.2.1 (cx.2.2.2.2 _ q_h1941) dX12_message_9 ?_
    refine q_cSi (As := [.long (q_l b0), .long (q_l 0), .long (q_l 7)]) (rest := [.int (q_i 1), .ref mo]) cx hB (fun _ h => h) hN (r_isIn l g hN hB.2.1 b0 (by omega) (by omega) 0 (by decide) (by decide) 7 (by decide) (by decide)) q_cX12_93 q_dX12_isIn (by decide) rfl rfl hl.1 rfl (Nat.le_of_ble_eq_true rfl) dX12_message_12 (fun y75 H locs f74 ry75 h76 hF hB => ?_)
    rcases h76 with h77 | h78
    · obtain ⟨rfl, qy75, t79, t80⟩ := h77
      subst qy75
      refine q_cVi (As := [.int (q_i 1), .int (q_i 1)]) (rest := []) cx hB (fun _ h => h) hN hmo kmo (by decide) rfl (r_goesBoth2 l g hN hB.2.1 mo hmo kmo 1 (by decide) (by decide) 1 (by decide) (by decide)) q_cX12_358 q_dX12_goesBoth (by decide) rfl rfl hl.1 rfl (Nat.le_of_ble_eq_true rfl) dX12_message_15 (fun y82 H locs f81 ry82 h83 hF hB => ?_)
      obtain ⟨qy82, z84⟩ := h83
      have z85 : q_is (q_z f81 sr 3) xt := Eq.trans (hF.z hsr (by rw [ksr]; rfl)) hf0
      have z86 : q_is (q_z f81 sr 4) xm := Eq.trans (hF.z hsr (by rw [ksr]; rfl)) hf1
      have z87 : q_is (q_z f81 sr 0) xc := Eq.trans (hF.z hsr (by rw [ksr]; rfl)) hf2
      have z88 : q_ir (q_r f81 mo 13) sr := Eq.trans (hF.r hmo (by rw [kmo]; rfl)) hr0
      have g89 : q_gr f81 sr := q_gr_fr hgr (fun i9 _ => hF.z hsr (by rw [ksr]; rfl))
      subst qy82
      refine q_ifeq (tgt := 30) cx ⟨by decide, by decide⟩ dX12_message_18 (by decide) (fun c90 => ?_) (fun c90 => ?_)
      · exact absurd c90 (by omega)
      · refine q_ald_n cx dX12_message_21 rfl (lv_at hl 0 rfl) ?_
        refine q_ild_n cx dX12_message_22 rfl (lv_at hl 1 rfl) ?_
        refine q_ild_n cx dX12_message_23 rfl (lv_at hl 2 rfl) ?_
        refine q_cVi (As := [.int (q_i a0), .int (q_i b0)]) (rest := []) cx hB (fun _ h => h) hN hmo kmo (by decide) rfl (r_ofMessagex l g hN hB.2.1 mo hmo kmo a0 (by omega) (by omega) b0 (by omega) (by omega) sr hsr ksr z88 g89) q_cX12_308 q_dX12_ofMessage (by decide) rfl rfl hl.1 rfl (Nat.le_of_ble_eq_true rfl) dX12_message_24 (fun y92 H locs f91 ry92 h93 hF hB => ?_)
        obtain rfl := h93
        refine lv_goto (tgt := 31) cx.1 cx.2.1 dX12_message_27 (by decide) ?_
        refine q_iret cx hr hlk hB dX12_message_31 ⟨by omega, by omega⟩ ?_
        trivial
    · obtain ⟨rfl, qy75, t94⟩ := h78
      subst qy75
      refine q_cVi (As := [.int (q_i 1), .int (q_i 0)]) (rest := []) cx hB (fun _ h => h) hN hmo kmo (by decide) rfl (r_goesBoth1 l g hN hB.2.1 mo hmo kmo 1 (by decide) (by decide) 0 (by decide) (by decide)) q_cX12_358 q_dX12_goesBoth (by decide) rfl rfl hl.1 rfl (Nat.le_of_ble_eq_true rfl) dX12_message_15 (fun y96 H locs f95 ry96 h97 hF hB => ?_)
      obtain ⟨qy96, z98⟩ := h97
      have z99 : q_is (q_z f95 sr 3) xt := Eq.trans (hF.z hsr (by rw [ksr]; rfl)) hf0
      have z100 : q_is (q_z f95 sr 4) xm := Eq.trans (hF.z hsr (by rw [ksr]; rfl)) hf1
      have z101 : q_is (q_z f95 sr 0) xc := Eq.trans (hF.z hsr (by rw [ksr]; rfl)) hf2
      have z102 : q_ir (q_r f95 mo 13) sr := Eq.trans (hF.r hmo (by rw [kmo]; rfl)) hr0
      have g103 : q_gr f95 sr := q_gr_fr hgr (fun i9 _ => hF.z hsr (by rw [ksr]; rfl))
      subst qy96
      refine q_ifeq (tgt := 30) cx ⟨by decide, by decide⟩ dX12_message_18 (by decide) (fun c104 => ?_) (fun c104 => ?_)
      · refine q_iconst cx dX12_message_30 ?_
        refine q_iret cx hr hlk hB dX12_message_31 ⟨by decide, by decide⟩ ?_
        trivial
      · exact absurd c104 (by omega)
  · obtain ⟨rfl, qy68⟩ := h71
    subst qy68
    refine q_ild_n cx dX12_message_6 rfl (lv_at hl 2 rfl) ?_
    refine q_i2l cx ⟨by omega, by omega⟩ dX12_message_7 ?_
    refine q_lconst (z := 0) cx (by decide) dX12_message_8 ?_
    refine lv_ldc2 (v := q_l 7) cx.1 cx.2.1 cx.2.2.2.1 (cx.2.2.2.2 _ q_h1941) dX12_message_9 ?_
    refine q_cSi (As := [.long (q_l b0), .long (q_l 0), .long (q_l 7)]) (rest := [.int (q_i 0), .ref mo]) cx hB (fun _ h => h) hN (r_isIn l g hN hB.2.1 b0 (by omega) (by omega) 0 (by decide) (by decide) 7 (by decide) (by decide)) q_cX12_93 q_dX12_isIn (by decide) rfl rfl hl.1 rfl (Nat.le_of_ble_eq_true rfl) dX12_message_12 (fun y106 H locs f105 ry106 h107 hF hB => ?_)
    rcases h107 with h108 | h109
    · obtain ⟨rfl, qy106, t110, t111⟩ := h108
      subst qy106
      refine q_cVi (As := [.int (q_i 0), .int (q_i 1)]) (rest := []) cx hB (fun _ h => h) hN hmo kmo (by decide) rfl (r_goesBoth0 l g hN hB.2.1 mo hmo kmo 0 (by decide) (by decide) 1 (by decide) (by decide)) q_cX12_358 q_dX12_goesBoth (by decide) rfl rfl hl.1 rfl (Nat.le_of_ble_eq_true rfl) dX12_message_15 (fun y113 H locs f112 ry113 h114 hF hB => ?_)
      obtain ⟨qy113, z115⟩ := h114
      have z116 : q_is (q_z f112 sr 3) xt := Eq.trans (hF.z hsr (by rw [ksr]; rfl)) hf0
      have z117 : q_is (q_z f112 sr 4) xm := Eq.trans (hF.z hsr (by rw [ksr]; rfl)) hf1
      have z118 : q_is (q_z f112 sr 0) xc := Eq.trans (hF.z hsr (by rw [ksr]; rfl)) hf2
      have z119 : q_ir (q_r f112 mo 13) sr := Eq.trans (hF.r hmo (by rw [kmo]; rfl)) hr0
      have g120 : q_gr f112 sr := q_gr_fr hgr (fun i9 _ => hF.z hsr (by rw [ksr]; rfl))
      subst qy113
      refine q_ifeq (tgt := 30) cx ⟨by decide, by decide⟩ dX12_message_18 (by decide) (fun c121 => ?_) (fun c121 => ?_)
      · refine q_iconst cx dX12_message_30 ?_
        refine q_iret cx hr hlk hB dX12_message_31 ⟨by decide, by decide⟩ ?_
        trivial
      · exact absurd c121 (by omega)
    · obtain ⟨rfl, qy106, t122⟩ := h109
      subst qy106
      refine q_cVi (As := [.int (q_i 0), .int (q_i 0)]) (rest := []) cx hB (fun _ h => h) hN hmo kmo (by decide) rfl (r_goesBoth0 l g hN hB.2.1 mo hmo kmo 0 (by decide) (by decide) 0 (by decide) (by decide)) q_cX12_358 q_dX12_goesBoth (by decide) rfl rfl hl.1 rfl (Nat.le_of_ble_eq_true rfl) dX12_message_15 (fun y124 H locs f123 ry124 h125 hF hB => ?_)
      obtain ⟨qy124, z126⟩ := h125
      have z127 : q_is (q_z f123 sr 3) xt := Eq.trans (hF.z hsr (by rw [ksr]; rfl)) hf0
      have z128 : q_is (q_z f123 sr 4) xm := Eq.trans (hF.z hsr (by rw [ksr]; rfl)) hf1
      have z129 : q_is (q_z f123 sr 0) xc := Eq.trans (hF.z hsr (by rw [ksr]; rfl)) hf2
      have z130 : q_ir (q_r f123 mo 13) sr := Eq.trans (hF.r hmo (by rw [kmo]; rfl)) hr0
      have g131 : q_gr f123 sr := q_gr_fr hgr (fun i9 _ => hF.z hsr (by rw [ksr]; rfl))
      subst qy124
      refine q_ifeq (tgt := 30) cx ⟨by decide, by decide⟩ dX12_message_18 (by decide) (fun c132 => ?_) (fun c132 => ?_)
      · refine q_iconst cx dX12_message_30 ?_
        refine q_iret cx hr hlk hB dX12_message_31 ⟨by decide, by decide⟩ ?_
        trivial
      · exact absurd c132 (by omega)
set_option maxHeartbeats 4000000 in
set_option maxRecDepth 100000 in
theorem r_letter (l : Launch) (g : q_G) {K : Nat → Nat} {L : List Nat} (hN : L.Nodup) {f : Nat → va_E} (hT : q_Ty g K L f) (mo : Nat) (hmo : mo ∈ L) (kmo : K mo = 12) (a0 : Int) (la0 : (-2147483648) ≤ a0) (ua0 : a0 ≤ 2147483647) (b0 : Int) (lb0 : (-2147483648) ≤ b0) (ub0 : b0 ≤ 2147483647) (sr : Nat) (hsr : sr ∈ L) (ksr : K sr = 151) (nm : Nat) (hnm : nm ∈ L) (knm : K nm = 156) (hr0 : q_ir (q_r f mo 13) sr) (hr1 : q_ir (q_r f mo 18) nm) : q_Ct l g K L yX12_letter cX12_letter 3 (some .int) 2 48 [.ref mo, .int (q_i a0), .int (q_i b0)] f [(12, 0, 0)] (q_Pi (fun (z : Int) (f1 : Nat → va_E) => True)) := by
  refine q_ofb (by decide +kernel) hN hT (Nat.le_of_ble_eq_true rfl) ?_
  intro p e s m below meth c ls cx hr hlk hB hl
  have hl : lv_has ls 3 [(0, .ref mo), (1, .int (q_i a0)), (2, .int (q_i b0))] := hl
  obtain ⟨H, hH⟩ : ∃ H : Heap, H = s.heap := ⟨_, rfl⟩
  obtain ⟨locs, hlocs⟩ : ∃ z : List Loc, z = [] := ⟨_, rfl⟩
  rw [← hH, ← hlocs] at hB
  rw [← hH, ← hlocs]
  refine q_ald_n cx dX12_letter_0 rfl (lv_at hl 0 rfl) ?_
  refine q_ald_n cx dX12_letter_1 rfl (lv_at hl 0 rfl) ?_
  refine q_ild_n cx dX12_letter_2 rfl (lv_at hl 1 rfl) ?_
  refine q_cVi (As := [.int (q_i a0)]) (rest := [.ref mo]) cx hB (fun _ h => h) hN hmo kmo (by decide) rfl (r_isNode l g hN hB.2.1 mo hmo kmo a0 (by omega) (by omega) sr hsr ksr hr0) q_cX12_355 q_dX12_isNode (by decide) rfl rfl hl.1 rfl (Nat.le_of_ble_eq_true rfl) dX12_letter_3 (fun y28 H locs f27 ry28 h29 hF hB => ?_)
  rcases h29 with h30 | h31
  · obtain ⟨rfl, qy28, t32, t33⟩ := h30
    subst qy28
    refine q_cVi (As := [.int (q_i 1)]) (rest := []) cx hB (fun _ h => h) hN hmo kmo (by decide) rfl (r_goes1 l g hN hB.2.1 mo hmo kmo 1 (by decide) (by decide)) q_cX12_85 q_dX12_goes (by decide) rfl rfl hl.1 rfl (Nat.le_of_ble_eq_true rfl) dX12_letter_6 (fun y35 H locs f34 ry35 h36 hF hB => ?_)
    obtain ⟨qy35, z37⟩ := h36
    have z38 : q_ir (q_r f34 mo 13) sr := Eq.trans (hF.r hmo (by rw [kmo]; rfl)) hr0
    have z39 : q_ir (q_r f34 mo 18) nm := Eq.trans (hF.r hmo (by rw [kmo]; rfl)) hr1
    subst qy35
    refine q_ifeq (tgt := 25) cx ⟨by decide, by decide⟩ dX12_letter_9 (by decide) (fun c40 => ?_) (fun c40 => ?_)
    · exact absurd c40 (by omega)
    · refine q_ald_n cx dX12_letter_12 rfl (lv_at hl 0 rfl) ?_
      refine q_gX12_35 cx hB hmo kmo z39 dX12_letter_13 (fun hb41 kb41 => ?_)
      refine q_ild_n cx dX12_letter_16 rfl (lv_at hl 1 rfl) ?_
      obtain ⟨j42, ej42⟩ : ∃ zz, q_j f34 nm (Int.toNat a0) = zz := ⟨_, rfl⟩
      refine q_lald (n := 10) cx hB hnm knm (by decide) rfl rfl (by omega) (by omega) (by decide) rfl ej42 dX12_letter_17 ?_
      refine q_ild_n cx dX12_letter_18 rfl (lv_at hl 2 rfl) ?_
      refine q_cSi (As := [.long j42, .int (q_i b0)]) (rest := []) cx hB (fun _ h => h) hN (r_letterOf l g hN hB.2.1 j42 b0 (by omega) (by omega)) q_cX12_384 q_dX12_letterOf (by decide) rfl rfl hl.1 rfl (Nat.le_of_ble_eq_true rfl) dX12_letter_19 (fun y44 H locs f43 ry44 h45 hF hB => ?_)
      obtain rfl := h45
      refine lv_goto (tgt := 26) cx.1 cx.2.1 dX12_letter_22 (by decide) ?_
      refine q_iret cx hr hlk hB dX12_letter_26 ⟨by omega, by omega⟩ ?_
      trivial
  · obtain ⟨rfl, qy28⟩ := h31
    subst qy28
    refine q_cVi (As := [.int (q_i 0)]) (rest := []) cx hB (fun _ h => h) hN hmo kmo (by decide) rfl (r_goes0 l g hN hB.2.1 mo hmo kmo 0 (by decide) (by decide)) q_cX12_85 q_dX12_goes (by decide) rfl rfl hl.1 rfl (Nat.le_of_ble_eq_true rfl) dX12_letter_6 (fun y47 H locs f46 ry47 h48 hF hB => ?_)
    obtain ⟨qy47, z49⟩ := h48
    have z50 : q_ir (q_r f46 mo 13) sr := Eq.trans (hF.r hmo (by rw [kmo]; rfl)) hr0
    have z51 : q_ir (q_r f46 mo 18) nm := Eq.trans (hF.r hmo (by rw [kmo]; rfl)) hr1
    subst qy47
    refine q_ifeq (tgt := 25) cx ⟨by decide, by decide⟩ dX12_letter_9 (by decide) (fun c52 => ?_) (fun c52 => ?_)
    · refine q_iconst cx dX12_letter_25 ?_
      refine q_iret cx hr hlk hB dX12_letter_26 ⟨by decide, by decide⟩ ?_
      trivial
    · exact absurd c52 (by omega)
set_option maxHeartbeats 4000000 in
set_option maxRecDepth 100000 in
theorem r_inTable (l : Launch) (g : q_G) {K : Nat → Nat} {L : List Nat} (hN : L.Nodup) {f : Nat → va_E} (hT : q_Ty g K L f) (mo : Nat) (hmo : mo ∈ L) (kmo : K mo = 12) (a0 : Int) (la0 : (-2147483648) ≤ a0) (ua0 : a0 ≤ 2147483647) (b0 : Int) (lb0 : (-2147483648) ≤ b0) (ub0 : b0 ≤ 2147483647) (sr : Nat) (hsr : sr ∈ L) (ksr : K sr = 151) (hr0 : q_ir (q_r f mo 13) sr) (hgr : q_gr f sr) : q_Ct l g K L yX12_inTable cX12_inTable 3 (some .boolean) 4 90 [.ref mo, .int (q_i a0), .int (q_i b0)] f [(12, 0, 0)] (q_Pi (fun (z : Int) (f1 : Nat → va_E) => 0 ≤ z ∧ z ≤ 1)) := by
  refine q_ofb (by decide +kernel) hN hT (Nat.le_of_ble_eq_true rfl) ?_
  intro p e s m below meth c ls cx hr hlk hB hl
  have hl : lv_has ls 3 [(0, .ref mo), (1, .int (q_i a0)), (2, .int (q_i b0))] := hl
  obtain ⟨H, hH⟩ : ∃ H : Heap, H = s.heap := ⟨_, rfl⟩
  obtain ⟨locs, hlocs⟩ : ∃ z : List Loc, z = [] := ⟨_, rfl⟩
  rw [← hH, ← hlocs] at hB
  rw [← hH, ← hlocs]
  refine q_ald_n cx dX12_inTable_0 rfl (lv_at hl 0 rfl) ?_
  refine q_ald_n cx dX12_inTable_1 rfl (lv_at hl 0 rfl) ?_
  refine q_ild_n cx dX12_inTable_2 rfl (lv_at hl 1 rfl) ?_
  refine q_cVi (As := [.int (q_i a0)]) (rest := [.ref mo]) cx hB (fun _ h => h) hN hmo kmo (by decide) rfl (r_isNode l g hN hB.2.1 mo hmo kmo a0 (by omega) (by omega) sr hsr ksr hr0) q_cX12_355 q_dX12_isNode (by decide) rfl rfl hl.1 rfl (Nat.le_of_ble_eq_true rfl) dX12_inTable_3 (fun y55 H locs f54 ry55 h56 hF hB => ?_)
  rcases h56 with h57 | h58
  · obtain ⟨rfl, qy55, t59, t60⟩ := h57
    subst qy55
    refine q_ald_n cx dX12_inTable_6 rfl (lv_at hl 0 rfl) ?_
    refine q_ild_n cx dX12_inTable_7 rfl (lv_at hl 2 rfl) ?_
    refine q_cVi (As := [.int (q_i b0)]) (rest := [.int (q_i 1), .ref mo]) cx hB (fun _ h => h) hN hmo kmo (by decide) rfl (r_isDay l g hN hB.2.1 mo hmo kmo b0 (by omega) (by omega) sr hsr ksr hr0 hgr) q_cX12_388 q_dX12_isDay (by decide) rfl rfl hl.1 rfl (Nat.le_of_ble_eq_true rfl) dX12_inTable_8 (fun y62 H locs f61 ry62 h63 hF hB => ?_)
    rcases h63 with h64 | h65
    · obtain ⟨rfl, qy62, t66, t67⟩ := h64
      subst qy62
      refine q_cVi (As := [.int (q_i 1), .int (q_i 1)]) (rest := []) cx hB (fun _ h => h) hN hmo kmo (by decide) rfl (r_goesBoth2 l g hN hB.2.1 mo hmo kmo 1 (by decide) (by decide) 1 (by decide) (by decide)) q_cX12_358 q_dX12_goesBoth (by decide) rfl rfl hl.1 rfl (Nat.le_of_ble_eq_true rfl) dX12_inTable_11 (fun y69 H locs f68 ry69 h70 hF hB => ?_)
      obtain ⟨qy69, z71⟩ := h70
      have z72 : q_ir (q_r f68 mo 13) sr := Eq.trans (hF.r hmo (by rw [kmo]; rfl)) hr0
      have g73 : q_gr f68 sr := q_gr_fr hgr (fun i9 _ => hF.z hsr (by rw [ksr]; rfl))
      subst qy69
      refine q_ifeq (tgt := 30) cx ⟨by decide, by decide⟩ dX12_inTable_14 (by decide) (fun c74 => ?_) (fun c74 => ?_)
      · exact absurd c74 (by omega)
      · refine q_ald_n cx dX12_inTable_17 rfl (lv_at hl 0 rfl) ?_
        refine q_ild_n cx dX12_inTable_18 rfl (lv_at hl 1 rfl) ?_
        refine q_ild_n cx dX12_inTable_19 rfl (lv_at hl 2 rfl) ?_
        refine q_cVi (As := [.int (q_i a0), .int (q_i b0)]) (rest := []) cx hB (fun _ h => h) hN hmo kmo (by decide) rfl (r_isIts l g hN hB.2.1 mo hmo kmo a0 (by omega) (by omega) b0 (by omega) (by omega) sr hsr ksr z72 g73) q_cX12_268 q_dX12_isIts (by decide) rfl rfl hl.1 rfl (Nat.le_of_ble_eq_true rfl) dX12_inTable_20 (fun y76 H locs f75 ry76 h77 hF hB => ?_)
        obtain ⟨rfl, ly76, uy76⟩ := h77
        refine q_ifeq (tgt := 30) cx ⟨by omega, by omega⟩ dX12_inTable_23 (by decide) (fun c78 => ?_) (fun c78 => ?_)
        · refine q_iconst cx dX12_inTable_30 ?_
          refine q_zret cx hr hlk hB dX12_inTable_31 (by decide) (by decide) ?_
          exact ⟨(by decide), (by decide)⟩
        · refine q_iconst cx dX12_inTable_26 ?_
          refine lv_goto (tgt := 31) cx.1 cx.2.1 dX12_inTable_27 (by decide) ?_
          refine q_zret cx hr hlk hB dX12_inTable_31 (by decide) (by decide) ?_
          exact ⟨(by decide), (by decide)⟩
    · obtain ⟨rfl, qy62⟩ := h65
      subst qy62
      refine q_cVi (As := [.int (q_i 1), .int (q_i 0)]) (rest := []) cx hB (fun _ h => h) hN hmo kmo (by decide) rfl (r_goesBoth1 l g hN hB.2.1 mo hmo kmo 1 (by decide) (by decide) 0 (by decide) (by decide)) q_cX12_358 q_dX12_goesBoth (by decide) rfl rfl hl.1 rfl (Nat.le_of_ble_eq_true rfl) dX12_inTable_11 (fun y80 H locs f79 ry80 h81 hF hB => ?_)
      obtain ⟨qy80, z82⟩ := h81
      have z83 : q_ir (q_r f79 mo 13) sr := Eq.trans (hF.r hmo (by rw [kmo]; rfl)) hr0
      have g84 : q_gr f79 sr := q_gr_fr hgr (fun i9 _ => hF.z hsr (by rw [ksr]; rfl))
      subst qy80
      refine q_ifeq (tgt := 30) cx ⟨by decide, by decide⟩ dX12_inTable_14 (by decide) (fun c85 => ?_) (fun c85 => ?_)
      · refine q_iconst cx dX12_inTable_30 ?_
        refine q_zret cx hr hlk hB dX12_inTable_31 (by decide) (by decide) ?_
        exact ⟨(by decide), (by decide)⟩
      · exact absurd c85 (by omega)
  · obtain ⟨rfl, qy55⟩ := h58
    subst qy55
    refine q_ald_n cx dX12_inTable_6 rfl (lv_at hl 0 rfl) ?_
    refine q_ild_n cx dX12_inTable_7 rfl (lv_at hl 2 rfl) ?_
    refine q_cVi (As := [.int (q_i b0)]) (rest := [.int (q_i 0), .ref mo]) cx hB (fun _ h => h) hN hmo kmo (by decide) rfl (r_isDay l g hN hB.2.1 mo hmo kmo b0 (by omega) (by omega) sr hsr ksr hr0 hgr) q_cX12_388 q_dX12_isDay (by decide) rfl rfl hl.1 rfl (Nat.le_of_ble_eq_true rfl) dX12_inTable_8 (fun y87 H locs f86 ry87 h88 hF hB => ?_)
    rcases h88 with h89 | h90
    · obtain ⟨rfl, qy87, t91, t92⟩ := h89
      subst qy87
      refine q_cVi (As := [.int (q_i 0), .int (q_i 1)]) (rest := []) cx hB (fun _ h => h) hN hmo kmo (by decide) rfl (r_goesBoth0 l g hN hB.2.1 mo hmo kmo 0 (by decide) (by decide) 1 (by decide) (by decide)) q_cX12_358 q_dX12_goesBoth (by decide) rfl rfl hl.1 rfl (Nat.le_of_ble_eq_true rfl) dX12_inTable_11 (fun y94 H locs f93 ry94 h95 hF hB => ?_)
      obtain ⟨qy94, z96⟩ := h95
      have z97 : q_ir (q_r f93 mo 13) sr := Eq.trans (hF.r hmo (by rw [kmo]; rfl)) hr0
      have g98 : q_gr f93 sr := q_gr_fr hgr (fun i9 _ => hF.z hsr (by rw [ksr]; rfl))
      subst qy94
      refine q_ifeq (tgt := 30) cx ⟨by decide, by decide⟩ dX12_inTable_14 (by decide) (fun c99 => ?_) (fun c99 => ?_)
      · refine q_iconst cx dX12_inTable_30 ?_
        refine q_zret cx hr hlk hB dX12_inTable_31 (by decide) (by decide) ?_
        exact ⟨(by decide), (by decide)⟩
      · exact absurd c99 (by omega)
    · obtain ⟨rfl, qy87⟩ := h90
      subst qy87
      refine q_cVi (As := [.int (q_i 0), .int (q_i 0)]) (rest := []) cx hB (fun _ h => h) hN hmo kmo (by decide) rfl (r_goesBoth0 l g hN hB.2.1 mo hmo kmo 0 (by decide) (by decide) 0 (by decide) (by decide)) q_cX12_358 q_dX12_goesBoth (by decide) rfl rfl hl.1 rfl (Nat.le_of_ble_eq_true rfl) dX12_inTable_11 (fun y101 H locs f100 ry101 h102 hF hB => ?_)
      obtain ⟨qy101, z103⟩ := h102
      have z104 : q_ir (q_r f100 mo 13) sr := Eq.trans (hF.r hmo (by rw [kmo]; rfl)) hr0
      have g105 : q_gr f100 sr := q_gr_fr hgr (fun i9 _ => hF.z hsr (by rw [ksr]; rfl))
      subst qy101
      refine q_ifeq (tgt := 30) cx ⟨by decide, by decide⟩ dX12_inTable_14 (by decide) (fun c106 => ?_) (fun c106 => ?_)
      · refine q_iconst cx dX12_inTable_30 ?_
        refine q_zret cx hr hlk hB dX12_inTable_31 (by decide) (by decide) ?_
        exact ⟨(by decide), (by decide)⟩
      · exact absurd c106 (by omega)
set_option maxHeartbeats 4000000 in
set_option maxRecDepth 100000 in
theorem r_duty (l : Launch) (g : q_G) {K : Nat → Nat} {L : List Nat} (hN : L.Nodup) {f : Nat → va_E} (hT : q_Ty g K L f) (mo : Nat) (hmo : mo ∈ L) (kmo : K mo = 12) (a0 : Int) (la0 : (-2147483648) ≤ a0) (ua0 : a0 ≤ 2147483647) (sr : Nat) (hsr : sr ∈ L) (ksr : K sr = 151) (hr0 : q_ir (q_r f mo 13) sr) (hgr : q_gr f sr) : q_Ct l g K L yX12_duty cX12_duty 2 (some .float) 5 113 [.ref mo, .int (q_i a0)] f [(12, 0, 0)] (q_Pf (fun (z : UInt32) (f1 : Nat → va_E) => True)) := by
  refine q_ofb (by decide +kernel) hN hT (Nat.le_of_ble_eq_true rfl) ?_
  intro p e s m below meth c ls cx hr hlk hB hl
  have hl : lv_has ls 2 [(0, .ref mo), (1, .int (q_i a0))] := hl
  obtain ⟨H, hH⟩ : ∃ H : Heap, H = s.heap := ⟨_, rfl⟩
  obtain ⟨locs, hlocs⟩ : ∃ z : List Loc, z = [] := ⟨_, rfl⟩
  rw [← hH, ← hlocs] at hB
  rw [← hH, ← hlocs]
  refine q_ald_n cx dX12_duty_0 rfl (lv_at hl 0 rfl) ?_
  refine q_ald_n cx dX12_duty_1 rfl (lv_at hl 0 rfl) ?_
  refine q_ild_n cx dX12_duty_2 rfl (lv_at hl 1 rfl) ?_
  refine q_cVi (As := [.int (q_i a0)]) (rest := [.ref mo]) cx hB (fun _ h => h) hN hmo kmo (by decide) rfl (r_isNode l g hN hB.2.1 mo hmo kmo a0 (by omega) (by omega) sr hsr ksr hr0) q_cX12_355 q_dX12_isNode (by decide) rfl rfl hl.1 rfl (Nat.le_of_ble_eq_true rfl) dX12_duty_3 (fun y30 H locs f29 ry30 h31 hF hB => ?_)
  rcases h31 with h32 | h33
  · obtain ⟨rfl, qy30, t34, t35⟩ := h32
    subst qy30
    refine q_cVi (As := [.int (q_i 1)]) (rest := []) cx hB (fun _ h => h) hN hmo kmo (by decide) rfl (r_goes1 l g hN hB.2.1 mo hmo kmo 1 (by decide) (by decide)) q_cX12_85 q_dX12_goes (by decide) rfl rfl hl.1 rfl (Nat.le_of_ble_eq_true rfl) dX12_duty_6 (fun y37 H locs f36 ry37 h38 hF hB => ?_)
    obtain ⟨qy37, z39⟩ := h38
    have z40 : q_ir (q_r f36 mo 13) sr := Eq.trans (hF.r hmo (by rw [kmo]; rfl)) hr0
    have g41 : q_gr f36 sr := q_gr_fr hgr (fun i9 _ => hF.z hsr (by rw [ksr]; rfl))
    subst qy37
    refine q_ifeq (tgt := 29) cx ⟨by decide, by decide⟩ dX12_duty_9 (by decide) (fun c42 => ?_) (fun c42 => ?_)
    · exact absurd c42 (by omega)
    · refine q_ald_n cx dX12_duty_12 rfl (lv_at hl 0 rfl) ?_
      refine q_ild_n cx dX12_duty_13 rfl (lv_at hl 1 rfl) ?_
      refine q_cVi (As := [.int (q_i a0)]) (rest := []) cx hB (fun _ h => h) hN hmo kmo (by decide) rfl (r_daysOf l g hN hB.2.1 mo hmo kmo a0 (by omega) (by omega) sr hsr ksr z40 g41) q_cX12_365 q_dX12_daysOf (by decide) rfl rfl hl.1 rfl (Nat.le_of_ble_eq_true rfl) dX12_duty_14 (fun y44 H locs f43 ry44 h45 hF hB => ?_)
      obtain rfl := h45
      refine lv_i2f cx.1 cx.2.1 dX12_duty_17 ?_
      refine q_ald_n cx dX12_duty_18 rfl (lv_at hl 0 rfl) ?_
      refine q_gX12_20 cx hB hmo kmo z40 dX12_duty_19 (fun hb46 kb46 => ?_)
      refine q_iconst cx dX12_duty_22 ?_
      obtain ⟨x47, ex47⟩ : ∃ zz, q_is (q_z f36 sr (Int.toNat 2)) zz := ⟨_, q_isr _⟩
      refine q_sald cx hB hsr ksr (by decide) (by decide) ex47 dX12_duty_23 (fun rx47 => ?_)
      obtain ⟨lx47, ux47⟩ : 4 ≤ x47 ∧ x47 ≤ 60 := q_isb ex47 (q_gr_at g41 (by decide) rfl)
      refine lv_i2f cx.1 cx.2.1 dX12_duty_24 ?_
      have nd49 := k_fdiv (x := y44) (y := x47) (by omega) (by omega)
      refine lv_fdiv cx.1 cx.2.1 dX12_duty_25 nd49 ?_
      refine lv_topf (fun d49 ed49 => ?_)
      rw [← ed49] at nd49
      refine lv_goto (tgt := 30) cx.1 cx.2.1 dX12_duty_26 (by decide) ?_
      refine q_fret cx hr hlk hB dX12_duty_30 ?_
      trivial
  · obtain ⟨rfl, qy30⟩ := h33
    subst qy30
    refine q_cVi (As := [.int (q_i 0)]) (rest := []) cx hB (fun _ h => h) hN hmo kmo (by decide) rfl (r_goes0 l g hN hB.2.1 mo hmo kmo 0 (by decide) (by decide)) q_cX12_85 q_dX12_goes (by decide) rfl rfl hl.1 rfl (Nat.le_of_ble_eq_true rfl) dX12_duty_6 (fun y51 H locs f50 ry51 h52 hF hB => ?_)
    obtain ⟨qy51, z53⟩ := h52
    have z54 : q_ir (q_r f50 mo 13) sr := Eq.trans (hF.r hmo (by rw [kmo]; rfl)) hr0
    have g55 : q_gr f50 sr := q_gr_fr hgr (fun i9 _ => hF.z hsr (by rw [ksr]; rfl))
    subst qy51
    refine q_ifeq (tgt := 29) cx ⟨by decide, by decide⟩ dX12_duty_9 (by decide) (fun c56 => ?_) (fun c56 => ?_)
    · refine lv_fconst0 cx.1 cx.2.1 dX12_duty_29 ?_
      refine q_fret cx hr hlk hB dX12_duty_30 ?_
      trivial
    · exact absurd c56 (by omega)
