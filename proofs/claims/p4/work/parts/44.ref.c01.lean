set_option maxHeartbeats 4000000 in
set_option maxRecDepth 100000 in
theorem r_lays (l : Launch) (g : q_G) {K : Nat → Nat} {L : List Nat} (hN : L.Nodup) {f : Nat → va_E} (hT : q_Ty g K L f) (mo : Nat) (hmo : mo ∈ L) (kmo : K mo = 12) (a0 : Int) (la0 : 0 ≤ a0) (ua0 : a0 ≤ 9) (b0 : Int) (lb0 : 0 ≤ b0) (ub0 : b0 ≤ 9) (c0 : Int) (lc0 : (-2147483648) ≤ c0) (uc0 : c0 ≤ 2147483647) (d0 : Int) (ld0 : 0 ≤ d0) (ud0 : d0 ≤ 1) (sr : Nat) (hsr : sr ∈ L) (ksr : K sr = 151) (xt : Int) (lxt : 0 ≤ xt) (uxt : xt ≤ 20000) (xm : Int) (lxm : 0 ≤ xm) (uxm : xm ≤ 60) (hf0 : q_is (q_z f sr 3) xt) (hf1 : q_is (q_z f sr 4) xm) (hr0 : q_ir (q_r f mo 13) sr) (hgr : q_gr f sr) : q_Ct l g K L yX12_lays cX12_lays 6 (some .int) 1 23 [.ref mo, .int (q_i a0), .int (q_i b0), .int (q_i c0), .int (q_i d0)] f [(151, 4, 4), (151, 170, 657)] (q_Pi (fun (z : Int) (f1 : Nat → va_E) => 0 ≤ z ∧ z ≤ 60 ∧ q_is (q_z f1 sr 4) (xm + 1) ∧ q_gr f1 sr)) := by
  refine q_ofb (by decide +kernel) hN hT (Nat.le_of_ble_eq_true rfl) ?_
  intro p e s m below meth c ls cx hr hlk hB hl
  have hl : lv_has ls 6 [(0, .ref mo), (1, .int (q_i a0)), (2, .int (q_i b0)), (3, .int (q_i c0)), (4, .int (q_i d0))] := hl
  obtain ⟨H, hH⟩ : ∃ H : Heap, H = s.heap := ⟨_, rfl⟩
  obtain ⟨locs, hlocs⟩ : ∃ z : List Loc, z = [] := ⟨_, rfl⟩
  rw [← hH, ← hlocs] at hB
  rw [← hH, ← hlocs]
  refine q_ald_n cx dX12_lays_0 rfl (lv_at hl 0 rfl) ?_
  refine q_gX12_20 cx hB hmo kmo hr0 dX12_lays_1 (fun hb108 kb108 => ?_)
  refine q_iconst cx dX12_lays_4 ?_
  refine q_iald (lo := (-2147483648)) (hi := 2147483647) (n := 658) cx hB hsr ksr (by decide) rfl rfl (by decide) (by decide) (by decide) rfl hf1 dX12_lays_5 (fun lb110 ub110 => ?_)
  refine lv_istore (lv' := [(5, .int (q_i xm)), (0, .ref mo), (1, .int (q_i a0)), (2, .int (q_i b0)), (3, .int (q_i c0)), (4, .int (q_i d0))]) cx.1 cx.2.1 dX12_lays_6 hl (by decide) rfl (fun ls hl => ?_)
  refine q_ald_n cx dX12_lays_8 rfl (lv_at hl 1 rfl) ?_
  refine lv_iload cx.1 cx.2.1 dX12_lays_9 (lv_at hl 0 rfl) ?_
  refine q_iconst cx dX12_lays_11 ?_
  refine q_ild_n cx dX12_lays_12 rfl (lv_at hl 2 rfl) ?_
  refine q_cVv (As := [.int (q_i xm), .int (q_i 0), .int (q_i a0)]) (rest := []) cx hB (fun _ h => h) hN hmo kmo (by decide) rfl (r_setsMessage0 l g hN hB.2.1 mo hmo kmo xm (by omega) (by omega) 0 (by decide) (by decide) a0 (by omega) (by omega) sr hsr ksr hr0 hgr) q_cX12_320 q_dX12_setsMessage (by decide) rfl rfl hl.1 rfl (Nat.le_of_ble_eq_true rfl) dX12_lays_13 (fun H locs f111 h113 hF hB => ?_)
  have g114 := h113
  have z115 : q_is (q_z f111 sr 3) xt := Eq.trans (hF.z hsr (by rw [ksr]; rfl)) hf0
  have z116 : q_is (q_z f111 sr 4) xm := Eq.trans (hF.z hsr (by rw [ksr]; rfl)) hf1
  have z117 : q_ir (q_r f111 mo 13) sr := Eq.trans (hF.r hmo (by rw [kmo]; rfl)) hr0
  refine q_ald_n cx dX12_lays_16 rfl (lv_at hl 1 rfl) ?_
  refine lv_iload cx.1 cx.2.1 dX12_lays_17 (lv_at hl 0 rfl) ?_
  refine q_iconst cx dX12_lays_19 ?_
  refine q_ild_n cx dX12_lays_20 rfl (lv_at hl 3 rfl) ?_
  refine q_cVv (As := [.int (q_i xm), .int (q_i 1), .int (q_i b0)]) (rest := []) cx hB (fun _ h => h) hN hmo kmo (by decide) rfl (r_setsMessage1 l g hN hB.2.1 mo hmo kmo xm (by omega) (by omega) 1 (by decide) (by decide) b0 (by omega) (by omega) sr hsr ksr z117 g114) q_cX12_320 q_dX12_setsMessage (by decide) rfl rfl hl.1 rfl (Nat.le_of_ble_eq_true rfl) dX12_lays_21 (fun H locs f118 h120 hF hB => ?_)
  have g121 := h120
  have z122 : q_is (q_z f118 sr 3) xt := Eq.trans (hF.z hsr (by rw [ksr]; rfl)) z115
  have z123 : q_is (q_z f118 sr 4) xm := Eq.trans (hF.z hsr (by rw [ksr]; rfl)) z116
  have z124 : q_ir (q_r f118 mo 13) sr := Eq.trans (hF.r hmo (by rw [kmo]; rfl)) z117
  refine q_ald_n cx dX12_lays_24 rfl (lv_at hl 1 rfl) ?_
  refine lv_iload cx.1 cx.2.1 dX12_lays_25 (lv_at hl 0 rfl) ?_
  refine q_iconst cx dX12_lays_27 ?_
  refine q_ild_n cx dX12_lays_28 rfl (lv_at hl 2 rfl) ?_
  refine q_cVv (As := [.int (q_i xm), .int (q_i 2), .int (q_i a0)]) (rest := []) cx hB (fun _ h => h) hN hmo kmo (by decide) rfl (r_setsMessage2 l g hN hB.2.1 mo hmo kmo xm (by omega) (by omega) 2 (by decide) (by decide) a0 (by omega) (by omega) sr hsr ksr z124 g121) q_cX12_320 q_dX12_setsMessage (by decide) rfl rfl hl.1 rfl (Nat.le_of_ble_eq_true rfl) dX12_lays_29 (fun H locs f125 h127 hF hB => ?_)
  have g128 := h127
  have z129 : q_is (q_z f125 sr 3) xt := Eq.trans (hF.z hsr (by rw [ksr]; rfl)) z122
  have z130 : q_is (q_z f125 sr 4) xm := Eq.trans (hF.z hsr (by rw [ksr]; rfl)) z123
  have z131 : q_ir (q_r f125 mo 13) sr := Eq.trans (hF.r hmo (by rw [kmo]; rfl)) z124
  refine q_ald_n cx dX12_lays_32 rfl (lv_at hl 1 rfl) ?_
  refine lv_iload cx.1 cx.2.1 dX12_lays_33 (lv_at hl 0 rfl) ?_
  refine q_iconst cx dX12_lays_35 ?_
  refine q_iconst cx dX12_lays_36 ?_
  refine q_cVv (As := [.int (q_i xm), .int (q_i 3), .int (q_i 0)]) (rest := []) cx hB (fun _ h => h) hN hmo kmo (by decide) rfl (r_setsMessage3 l g hN hB.2.1 mo hmo kmo xm (by omega) (by omega) 3 (by decide) (by decide) 0 (by decide) (by decide) sr hsr ksr z131 g128) q_cX12_320 q_dX12_setsMessage (by decide) rfl rfl hl.1 rfl (Nat.le_of_ble_eq_true rfl) dX12_lays_37 (fun H locs f132 h134 hF hB => ?_)
  have g135 := h134
  have z136 : q_is (q_z f132 sr 3) xt := Eq.trans (hF.z hsr (by rw [ksr]; rfl)) z129
  have z137 : q_is (q_z f132 sr 4) xm := Eq.trans (hF.z hsr (by rw [ksr]; rfl)) z130
  have z138 : q_ir (q_r f132 mo 13) sr := Eq.trans (hF.r hmo (by rw [kmo]; rfl)) z131
  refine q_ald_n cx dX12_lays_40 rfl (lv_at hl 1 rfl) ?_
  refine lv_iload cx.1 cx.2.1 dX12_lays_41 (lv_at hl 0 rfl) ?_
  refine q_iconst cx dX12_lays_43 ?_
  refine q_ald_n cx dX12_lays_44 rfl (lv_at hl 1 rfl) ?_
  refine q_gX12_20 cx hB hmo kmo z138 dX12_lays_45 (fun hb139 kb139 => ?_)
  refine q_iconst cx dX12_lays_48 ?_
  refine q_iald (lo := (-2147483648)) (hi := 2147483647) (n := 658) cx hB hsr ksr (by decide) rfl rfl (by decide) (by decide) (by decide) rfl z136 dX12_lays_49 (fun lb141 ub141 => ?_)
  refine q_ild_n cx dX12_lays_50 rfl (lv_at hl 4 rfl) ?_
  refine q_iadd cx dX12_lays_51 ?_
  refine q_any (fun y142 ry142 ey142 => ?_)
  refine q_cVv (As := [.int (q_i xm), .int (q_i 4), .int (q_i y142)]) (rest := []) cx hB (fun _ h => h) hN hmo kmo (by decide) rfl (r_setsMessage4 l g hN hB.2.1 mo hmo kmo xm (by omega) (by omega) 4 (by decide) (by decide) y142 (by omega) (by omega) sr hsr ksr z138 g135) q_cX12_320 q_dX12_setsMessage (by decide) rfl rfl hl.1 rfl (Nat.le_of_ble_eq_true rfl) dX12_lays_52 (fun H locs f143 h145 hF hB => ?_)
  have g146 := h145
  have z147 : q_is (q_z f143 sr 3) xt := Eq.trans (hF.z hsr (by rw [ksr]; rfl)) z136
  have z148 : q_is (q_z f143 sr 4) xm := Eq.trans (hF.z hsr (by rw [ksr]; rfl)) z137
  have z149 : q_ir (q_r f143 mo 13) sr := Eq.trans (hF.r hmo (by rw [kmo]; rfl)) z138
  refine q_ald_n cx dX12_lays_55 rfl (lv_at hl 1 rfl) ?_
  refine lv_iload cx.1 cx.2.1 dX12_lays_56 (lv_at hl 0 rfl) ?_
  refine q_iconst cx dX12_lays_58 ?_
  refine lv_iload cx.1 cx.2.1 dX12_lays_59 (lv_at hl 5 rfl) ?_
  by_cases c150 : d0 ≤ 0
  · refine q_cSi (As := [.int (q_i d0)]) (rest := [.int (q_i 5), .int (q_i xm), .ref mo]) cx hB (fun _ h => h) hN (r_truth0 l g hN hB.2.1 d0 (by omega) (by omega)) q_cX12_78 q_dX12_truth (by decide) rfl rfl hl.1 rfl (Nat.le_of_ble_eq_true rfl) dX12_lays_61 (fun y152 H locs f151 ry152 h153 hF hB => ?_)
    obtain ⟨rfl, qy152⟩ := h153
    subst qy152
    refine q_cVv (As := [.int (q_i xm), .int (q_i 5), .int (q_i 0)]) (rest := []) cx hB (fun _ h => h) hN hmo kmo (by decide) rfl (r_setsMessage5 l g hN hB.2.1 mo hmo kmo xm (by omega) (by omega) 5 (by decide) (by decide) 0 (by decide) (by decide) sr hsr ksr z149 g146) q_cX12_320 q_dX12_setsMessage (by decide) rfl rfl hl.1 rfl (Nat.le_of_ble_eq_true rfl) dX12_lays_64 (fun H locs f154 h156 hF hB => ?_)
    have g157 := h156
    have z158 : q_is (q_z f154 sr 3) xt := Eq.trans (hF.z hsr (by rw [ksr]; rfl)) z147
    have z159 : q_is (q_z f154 sr 4) xm := Eq.trans (hF.z hsr (by rw [ksr]; rfl)) z148
    have z160 : q_ir (q_r f154 mo 13) sr := Eq.trans (hF.r hmo (by rw [kmo]; rfl)) z149
    refine q_ald_n cx dX12_lays_67 rfl (lv_at hl 1 rfl) ?_
    refine lv_iload cx.1 cx.2.1 dX12_lays_68 (lv_at hl 0 rfl) ?_
    refine q_bipush cx dX12_lays_70 rfl ?_
    refine q_iconst cx dX12_lays_72 ?_
    refine q_cVv (As := [.int (q_i xm), .int (q_i 6), .int (q_i (-1))]) (rest := []) cx hB (fun _ h => h) hN hmo kmo (by decide) rfl (r_setsMessage6 l g hN hB.2.1 mo hmo kmo xm (by omega) (by omega) 6 (by decide) (by decide) (-1) (by decide) (by decide) sr hsr ksr z160 g157) q_cX12_320 q_dX12_setsMessage (by decide) rfl rfl hl.1 rfl (Nat.le_of_ble_eq_true rfl) dX12_lays_73 (fun H locs f161 h163 hF hB => ?_)
    have g164 := h163
    have z165 : q_is (q_z f161 sr 3) xt := Eq.trans (hF.z hsr (by rw [ksr]; rfl)) z158
    have z166 : q_is (q_z f161 sr 4) xm := Eq.trans (hF.z hsr (by rw [ksr]; rfl)) z159
    have z167 : q_ir (q_r f161 mo 13) sr := Eq.trans (hF.r hmo (by rw [kmo]; rfl)) z160
    refine q_ald_n cx dX12_lays_76 rfl (lv_at hl 1 rfl) ?_
    refine lv_iload cx.1 cx.2.1 dX12_lays_77 (lv_at hl 0 rfl) ?_
    refine q_bipush cx dX12_lays_79 rfl ?_
    refine q_iconst cx dX12_lays_81 ?_
    refine q_cVv (As := [.int (q_i xm), .int (q_i 7), .int (q_i 0)]) (rest := []) cx hB (fun _ h => h) hN hmo kmo (by decide) rfl (r_setsMessage7 l g hN hB.2.1 mo hmo kmo xm (by omega) (by omega) 7 (by decide) (by decide) 0 (by decide) (by decide) sr hsr ksr z167 g164) q_cX12_320 q_dX12_setsMessage (by decide) rfl rfl hl.1 rfl (Nat.le_of_ble_eq_true rfl) dX12_lays_82 (fun H locs f168 h170 hF hB => ?_)
    have g171 := h170
    have z172 : q_is (q_z f168 sr 3) xt := Eq.trans (hF.z hsr (by rw [ksr]; rfl)) z165
    have z173 : q_is (q_z f168 sr 4) xm := Eq.trans (hF.z hsr (by rw [ksr]; rfl)) z166
    have z174 : q_ir (q_r f168 mo 13) sr := Eq.trans (hF.r hmo (by rw [kmo]; rfl)) z167
    refine q_ald_n cx dX12_lays_85 rfl (lv_at hl 1 rfl) ?_
    refine q_gX12_20 cx hB hmo kmo z174 dX12_lays_86 (fun hb175 kb175 => ?_)
    refine q_iconst cx dX12_lays_89 ?_
    refine lv_dup2_11 cx.1 cx.2.1 dX12_lays_90 rfl rfl ?_
    refine q_iald (lo := (-2147483648)) (hi := 2147483647) (n := 658) cx hB hsr ksr (by decide) rfl rfl (by decide) (by decide) (by decide) rfl z173 dX12_lays_91 (fun lb177 ub177 => ?_)
    refine q_iconst cx dX12_lays_92 ?_
    refine q_iadd cx dX12_lays_93 ?_
    refine q_sast cx hB hsr ksr (by decide) (by decide) ⟨by omega, by omega⟩ rfl dX12_lays_94 (fun H locs f178 ef178 z179 hB => ?_)
    have z180 : q_is (q_z f178 sr 3) xt := by rw [ef178, q_setz (Or.inr (by decide))]; exact z172
    have z181 : q_ir (q_r f178 mo 13) sr := by rw [ef178, q_setr (Or.inr (by decide))]; exact z174
    have g182 : q_gr f178 sr := q_gr_put g171 ef178 z179 rfl (by omega) (by omega)
    refine lv_iload cx.1 cx.2.1 dX12_lays_95 (lv_at hl 0 rfl) ?_
    refine q_iret cx hr hlk hB dX12_lays_97 ⟨by omega, by omega⟩ ?_
    exact ⟨(by omega), (by omega), z179, g182⟩
  · refine q_cSi (As := [.int (q_i d0)]) (rest := [.int (q_i 5), .int (q_i xm), .ref mo]) cx hB (fun _ h => h) hN (r_truth1 l g hN hB.2.1 d0 (by omega) (by omega)) q_cX12_78 q_dX12_truth (by decide) rfl rfl hl.1 rfl (Nat.le_of_ble_eq_true rfl) dX12_lays_61 (fun y184 H locs f183 ry184 h185 hF hB => ?_)
    obtain ⟨rfl, qy184⟩ := h185
    subst qy184
    refine q_cVv (As := [.int (q_i xm), .int (q_i 5), .int (q_i 1)]) (rest := []) cx hB (fun _ h => h) hN hmo kmo (by decide) rfl (r_setsMessage5 l g hN hB.2.1 mo hmo kmo xm (by omega) (by omega) 5 (by decide) (by decide) 1 (by decide) (by decide) sr hsr ksr z149 g146) q_cX12_320 q_dX12_setsMessage (by decide) rfl rfl hl.1 rfl (Nat.le_of_ble_eq_true rfl) dX12_lays_64 (fun H locs f186 h188 hF hB => ?_)
    have g189 := h188
    have z190 : q_is (q_z f186 sr 3) xt := Eq.trans (hF.z hsr (by rw [ksr]; rfl)) z147
    have z191 : q_is (q_z f186 sr 4) xm := Eq.trans (hF.z hsr (by rw [ksr]; rfl)) z148
    have z192 : q_ir (q_r f186 mo 13) sr := Eq.trans (hF.r hmo (by rw [kmo]; rfl)) z149
    refine q_ald_n cx dX12_lays_67 rfl (lv_at hl 1 rfl) ?_
    refine lv_iload cx.1 cx.2.1 dX12_lays_68 (lv_at hl 0 rfl) ?_
    refine q_bipush cx dX12_lays_70 rfl ?_
    refine q_iconst cx dX12_lays_72 ?_
    refine q_cVv (As := [.int (q_i xm), .int (q_i 6), .int (q_i (-1))]) (rest := []) cx hB (fun _ h => h) hN hmo kmo (by decide) rfl (r_setsMessage6 l g hN hB.2.1 mo hmo kmo xm (by omega) (by omega) 6 (by decide) (by decide) (-1) (by decide) (by decide) sr hsr ksr z192 g189) q_cX12_320 q_dX12_setsMessage (by decide) rfl rfl hl.1 rfl (Nat.le_of_ble_eq_true rfl) dX12_lays_73 (fun H locs f193 h195 hF hB => ?_)
    have g196 := h195
    have z197 : q_is (q_z f193 sr 3) xt := Eq.trans (hF.z hsr (by rw [ksr]; rfl)) z190
    have z198 : q_is (q_z f193 sr 4) xm := Eq.trans (hF.z hsr (by rw [ksr]; rfl)) z191
    have z199 : q_ir (q_r f193 mo 13) sr := Eq.trans (hF.r hmo (by rw [kmo]; rfl)) z192
    refine q_ald_n cx dX12_lays_76 rfl (lv_at hl 1 rfl) ?_
    refine lv_iload cx.1 cx.2.1 dX12_lays_77 (lv_at hl 0 rfl) ?_
    refine q_bipush cx dX12_lays_79 rfl ?_
    refine q_iconst cx dX12_lays_81 ?_
    refine q_cVv (As := [.int (q_i xm), .int (q_i 7), .int (q_i 0)]) (rest := []) cx hB (fun _ h => h) hN hmo kmo (by decide) rfl (r_setsMessage7 l g hN hB.2.1 mo hmo kmo xm (by omega) (by omega) 7 (by decide) (by decide) 0 (by decide) (by decide) sr hsr ksr z199 g196) q_cX12_320 q_dX12_setsMessage (by decide) rfl rfl hl.1 rfl (Nat.le_of_ble_eq_true rfl) dX12_lays_82 (fun H locs f200 h202 hF hB => ?_)
    have g203 := h202
    have z204 : q_is (q_z f200 sr 3) xt := Eq.trans (hF.z hsr (by rw [ksr]; rfl)) z197
    have z205 : q_is (q_z f200 sr 4) xm := Eq.trans (hF.z hsr (by rw [ksr]; rfl)) z198
    have z206 : q_ir (q_r f200 mo 13) sr := Eq.trans (hF.r hmo (by rw [kmo]; rfl)) z199
    refine q_ald_n cx dX12_lays_85 rfl (lv_at hl 1 rfl) ?_
    refine q_gX12_20 cx hB hmo kmo z206 dX12_lays_86 (fun hb207 kb207 => ?_)
    refine q_iconst cx dX12_lays_89 ?_
    refine lv_dup2_11 cx.1 cx.2.1 dX12_lays_90 rfl rfl ?_
    refine q_iald (lo := (-2147483648)) (hi := 2147483647) (n := 658) cx hB hsr ksr (by decide) rfl rfl (by decide) (by decide) (by decide) rfl z205 dX12_lays_91 (fun lb209 ub209 => ?_)
    refine q_iconst cx dX12_lays_92 ?_
    refine q_iadd cx dX12_lays_93 ?_
    refine q_sast cx hB hsr ksr (by decide) (by decide) ⟨by omega, by omega⟩ rfl dX12_lays_94 (fun H locs f210 ef210 z211 hB => ?_)
    have z212 : q_is (q_z f210 sr 3) xt := by rw [ef210, q_setz (Or.inr (by decide))]; exact z204
    have z213 : q_ir (q_r f210 mo 13) sr := by rw [ef210, q_setr (Or.inr (by decide))]; exact z206
    have g214 : q_gr f210 sr := q_gr_put g203 ef210 z211 rfl (by omega) (by omega)
    refine lv_iload cx.1 cx.2.1 dX12_lays_95 (lv_at hl 0 rfl) ?_
    refine q_iret cx hr hlk hB dX12_lays_97 ⟨by omega, by omega⟩ ?_
    exact ⟨(by omega), (by omega), z211, g214⟩
set_option maxHeartbeats 4000000 in
set_option maxRecDepth 100000 in
theorem r_byMessage (l : Launch) (g : q_G) {K : Nat → Nat} {L : List Nat} (hN : L.Nodup) {f : Nat → va_E} (hT : q_Ty g K L f) (mo : Nat) (hmo : mo ∈ L) (kmo : K mo = 12) (a0 : Int) (la0 : 0 ≤ a0) (ua0 : a0 ≤ 9) (b0 : Int) (lb0 : 0 ≤ b0) (ub0 : b0 ≤ 9) (c0 : Int) (lc0 : 0 ≤ c0) (uc0 : c0 ≤ 1) (sr : Nat) (hsr : sr ∈ L) (ksr : K sr = 151) (hp : Nat) (hhp : hp ∈ L) (khp : K hp = 159) (dy : Nat) (hdy : dy ∈ L) (kdy : K dy = 160) (aw : Nat) (haw : aw ∈ L) (kaw : K aw = 154) (xt : Int) (lxt : 0 ≤ xt) (uxt : xt ≤ 9999) (xm : Int) (lxm : 0 ≤ xm) (uxm : xm ≤ 60) (xy : Int) (lxy : 4 ≤ xy) (uxy : xy ≤ 60) (hf0 : q_is (q_z f sr 3) xt) (hf1 : q_is (q_z f sr 4) xm) (hf2 : q_is (q_z f aw 2) xy) (hr0 : q_ir (q_r f mo 13) sr) (hr1 : q_ir (q_r f mo 24) hp) (hr2 : q_ir (q_r f mo 25) dy) (hr3 : q_ir (q_r f mo 16) aw) (hgr : q_gr f sr) : q_Ct l g K L yX12_byMessage cX12_byMessage 5 (some .int) 10 228 [.ref mo, .int (q_i a0), .int (q_i b0), .int (q_i c0)] f [(12, 26, 28), (151, 0, 657), (159, 0, 9), (160, 0, 9)] (q_Pi (fun (z : Int) (f1 : Nat → va_E) => (-1) ≤ z ∧ z ≤ 200 ∧ 0 ≤ q_z f1 sr 3 ∧ q_z f1 sr 3 ≤ 9999 ∧ 0 ≤ q_z f1 sr 4 ∧ q_z f1 sr 4 ≤ 60 ∧ q_gr f1 sr)) := by
  refine q_ofb (by decide +kernel) hN hT (Nat.le_of_ble_eq_true rfl) ?_
  intro p e s m below meth c ls cx hr hlk hB hl
  have hl : lv_has ls 5 [(0, .ref mo), (1, .int (q_i a0)), (2, .int (q_i b0)), (3, .int (q_i c0))] := hl
  obtain ⟨H, hH⟩ : ∃ H : Heap, H = s.heap := ⟨_, rfl⟩
  obtain ⟨locs, hlocs⟩ : ∃ z : List Loc, z = [] := ⟨_, rfl⟩
  rw [← hH, ← hlocs] at hB
  rw [← hH, ← hlocs]
  refine q_ald_n cx dX12_byMessage_0 rfl (lv_at hl 0 rfl) ?_
  refine q_ild_n cx dX12_byMessage_1 rfl (lv_at hl 1 rfl) ?_
  refine q_ild_n cx dX12_byMessage_2 rfl (lv_at hl 2 rfl) ?_
  refine q_cVi (As := [.int (q_i a0), .int (q_i b0)]) (rest := []) cx hB (fun _ h => h) hN hmo kmo (by decide) rfl (r_areIn l g hN hB.2.1 mo hmo kmo a0 (by omega) (by omega) b0 (by omega) (by omega) sr hsr ksr hr0 hgr) q_cX12_414 q_dX12_areIn (by decide) rfl rfl hl.1 rfl (Nat.le_of_ble_eq_true rfl) dX12_byMessage_3 (fun y54 H locs f53 ry54 h55 hF hB => ?_)
  obtain ⟨rfl, ly54, uy54⟩ := h55
  refine q_ifne (tgt := 15) cx ⟨by omega, by omega⟩ dX12_byMessage_6 (by decide) (fun c56 => ?_) (fun c56 => ?_)
  · refine q_ald_n cx dX12_byMessage_15 rfl (lv_at hl 0 rfl) ?_
    refine q_ild_n cx dX12_byMessage_16 rfl (lv_at hl 1 rfl) ?_
    refine q_ild_n cx dX12_byMessage_17 rfl (lv_at hl 2 rfl) ?_
    refine q_iconst cx dX12_byMessage_18 ?_
    refine q_ild_n cx dX12_byMessage_19 rfl (lv_at hl 3 rfl) ?_
    refine q_cVi (As := [.int (q_i a0), .int (q_i b0), .int (q_i 0), .int (q_i c0)]) (rest := []) cx hB (fun _ h => h) hN hmo kmo (by decide) rfl (r_lays l g hN hB.2.1 mo hmo kmo a0 (by omega) (by omega) b0 (by omega) (by omega) 0 (by decide) (by decide) c0 (by omega) (by omega) sr hsr ksr xt (by omega) (by omega) xm (by omega) (by omega) hf0 hf1 hr0 hgr) q_cX12_417 q_dX12_lays (by decide) rfl rfl hl.1 rfl (Nat.le_of_ble_eq_true rfl) dX12_byMessage_20 (fun y58 H locs f57 ry58 h59 hF hB => ?_)
    obtain ⟨ly58, uy58, z60, g61⟩ := h59
    have z62 : q_is (q_z f57 sr 3) xt := Eq.trans (hF.z hsr (by rw [ksr]; rfl)) hf0
    have z63 : q_is (q_z f57 aw 2) xy := Eq.trans (hF.z haw (by rw [kaw]; rfl)) hf2
    have z64 : q_ir (q_r f57 mo 13) sr := Eq.trans (hF.r hmo (by rw [kmo]; rfl)) hr0
    have z65 : q_ir (q_r f57 mo 24) hp := Eq.trans (hF.r hmo (by rw [kmo]; rfl)) hr1
    have z66 : q_ir (q_r f57 mo 25) dy := Eq.trans (hF.r hmo (by rw [kmo]; rfl)) hr2
    have z67 : q_ir (q_r f57 mo 16) aw := Eq.trans (hF.r hmo (by rw [kmo]; rfl)) hr3
    refine lv_istore (lv' := [(4, .int (q_i y58)), (0, .ref mo), (1, .int (q_i a0)), (2, .int (q_i b0)), (3, .int (q_i c0))]) cx.1 cx.2.1 dX12_byMessage_23 hl (by decide) rfl (fun ls hl => ?_)
    refine q_ald_n cx dX12_byMessage_25 rfl (lv_at hl 1 rfl) ?_
    refine q_ald_n cx dX12_byMessage_26 rfl (lv_at hl 1 rfl) ?_
    refine lv_iload cx.1 cx.2.1 dX12_byMessage_27 (lv_at hl 0 rfl) ?_
    refine q_cVi (As := [.int (q_i y58)]) (rest := [.ref mo]) cx hB (fun _ h => h) hN hmo kmo (by decide) rfl (r_there l g hN hB.2.1 mo hmo kmo y58 (by omega) (by omega) sr hsr ksr hp hhp khp dy hdy kdy xt (by omega) (by omega) (xm + 1) (by omega) (by omega) z62 z60 z64 z65 z66 g61) q_cX12_408 q_dX12_there (by decide) rfl rfl hl.1 rfl (Nat.le_of_ble_eq_true rfl) dX12_byMessage_29 (fun y69 H locs f68 ry69 h70 hF hB => ?_)
    obtain ⟨ly69, uy69, z71, g72⟩ := h70
    have z73 : q_is (q_z f68 aw 2) xy := Eq.trans (hF.z haw (by rw [kaw]; rfl)) z63
    have z74 : q_is (q_z f68 sr 4) (xm + 1) := Eq.trans (hF.z hsr (by rw [ksr]; rfl)) z60
    have z75 : q_ir (q_r f68 mo 13) sr := Eq.trans (hF.r hmo (by rw [kmo]; rfl)) z64
    have z76 : q_ir (q_r f68 mo 24) hp := Eq.trans (hF.r hmo (by rw [kmo]; rfl)) z65
    have z77 : q_ir (q_r f68 mo 25) dy := Eq.trans (hF.r hmo (by rw [kmo]; rfl)) z66
    have z78 : q_ir (q_r f68 mo 16) aw := Eq.trans (hF.r hmo (by rw [kmo]; rfl)) z67
    refine q_cVi (As := [.int (q_i y69)]) (rest := []) cx hB (fun _ h => h) hN hmo kmo (by decide) rfl (r_comesBack l g hN hB.2.1 mo hmo kmo y69 (by omega) (by omega) sr hsr ksr aw haw kaw xy (by omega) (by omega) z73 z75 z78) q_cX12_411 q_dX12_comesBack (by decide) rfl rfl hl.1 rfl (Nat.le_of_ble_eq_true rfl) dX12_byMessage_32 (fun y80 H locs f79 ry80 h81 hF hB => ?_)
    obtain ⟨qy80, lz82, uz82, lz83, uz83, g84⟩ := h81
    have z85 : q_is (q_z f79 aw 2) xy := Eq.trans (hF.z haw (by rw [kaw]; rfl)) z73
    have z86 : q_ir (q_r f79 mo 13) sr := Eq.trans (hF.r hmo (by rw [kmo]; rfl)) z75
    have z87 : q_ir (q_r f79 mo 24) hp := Eq.trans (hF.r hmo (by rw [kmo]; rfl)) z76
    have z88 : q_ir (q_r f79 mo 25) dy := Eq.trans (hF.r hmo (by rw [kmo]; rfl)) z77
    have z89 : q_ir (q_r f79 mo 16) aw := Eq.trans (hF.r hmo (by rw [kmo]; rfl)) z78
    obtain ⟨x90, ex90⟩ : ∃ zz, q_is (q_z f79 sr 3) zz := ⟨_, q_isr _⟩
    obtain ⟨lx90, ux90⟩ := q_isb ex90 ⟨lz82, uz82⟩
    obtain ⟨x91, ex91⟩ : ∃ zz, q_is (q_z f79 sr 4) zz := ⟨_, q_isr _⟩
    obtain ⟨lx91, ux91⟩ := q_isb ex91 ⟨lz83, uz83⟩
    refine q_iret cx hr hlk hB dX12_byMessage_35 ⟨by omega, by omega⟩ ?_
    exact ⟨(by omega), (by omega), (q_isl ex90 (by omega)), (q_isu ex90 (by omega)), (q_isl ex91 (by omega)), (q_isu ex91 (by omega)), g84⟩
  · refine q_ald_n cx dX12_byMessage_9 rfl (lv_at hl 0 rfl) ?_
    refine q_iconst cx dX12_byMessage_10 ?_
    refine q_cVi (As := [.int (q_i (-1))]) (rest := []) cx hB (fun _ h => h) hN hmo kmo (by decide) rfl (r_comesBack l g hN hB.2.1 mo hmo kmo (-1) (by decide) (by decide) sr hsr ksr aw haw kaw xy (by omega) (by omega) hf2 hr0 hr3) q_cX12_411 q_dX12_comesBack (by decide) rfl rfl hl.1 rfl (Nat.le_of_ble_eq_true rfl) dX12_byMessage_11 (fun y93 H locs f92 ry93 h94 hF hB => ?_)
    obtain ⟨qy93, lz95, uz95, lz96, uz96, g97⟩ := h94
    have z98 : q_is (q_z f92 aw 2) xy := Eq.trans (hF.z haw (by rw [kaw]; rfl)) hf2
    have z99 : q_ir (q_r f92 mo 13) sr := Eq.trans (hF.r hmo (by rw [kmo]; rfl)) hr0
    have z100 : q_ir (q_r f92 mo 24) hp := Eq.trans (hF.r hmo (by rw [kmo]; rfl)) hr1
    have z101 : q_ir (q_r f92 mo 25) dy := Eq.trans (hF.r hmo (by rw [kmo]; rfl)) hr2
    have z102 : q_ir (q_r f92 mo 16) aw := Eq.trans (hF.r hmo (by rw [kmo]; rfl)) hr3
    obtain ⟨x103, ex103⟩ : ∃ zz, q_is (q_z f92 sr 3) zz := ⟨_, q_isr _⟩
    obtain ⟨lx103, ux103⟩ := q_isb ex103 ⟨lz95, uz95⟩
    obtain ⟨x104, ex104⟩ : ∃ zz, q_is (q_z f92 sr 4) zz := ⟨_, q_isr _⟩
    obtain ⟨lx104, ux104⟩ := q_isb ex104 ⟨lz96, uz96⟩
    subst qy93
    refine q_iret cx hr hlk hB dX12_byMessage_14 ⟨by decide, by decide⟩ ?_
    exact ⟨(by decide), (by decide), (q_isl ex103 (by omega)), (q_isu ex103 (by omega)), (q_isl ex104 (by omega)), (q_isu ex104 (by omega)), g97⟩
set_option maxHeartbeats 4000000 in
set_option maxRecDepth 100000 in
theorem r_arrives (l : Launch) (g : q_G) {K : Nat → Nat} {L : List Nat} (hN : L.Nodup) {f : Nat → va_E} (hT : q_Ty g K L f) (mo : Nat) (hmo : mo ∈ L) (kmo : K mo = 12) (a0 : Int) (la0 : (-2147483648) ≤ a0) (ua0 : a0 ≤ 2147483647) (sr : Nat) (hsr : sr ∈ L) (ksr : K sr = 151) (hp : Nat) (hhp : hp ∈ L) (khp : K hp = 159) (dy : Nat) (hdy : dy ∈ L) (kdy : K dy = 160) (aw : Nat) (haw : aw ∈ L) (kaw : K aw = 154) (xt : Int) (lxt : 0 ≤ xt) (uxt : xt ≤ 9999) (xm : Int) (lxm : 0 ≤ xm) (uxm : xm ≤ 60) (hf0 : q_is (q_z f sr 3) xt) (hf1 : q_is (q_z f sr 4) xm) (hr0 : q_ir (q_r f mo 13) sr) (hr1 : q_ir (q_r f mo 24) hp) (hr2 : q_ir (q_r f mo 25) dy) (hr3 : q_ir (q_r f mo 16) aw) (hgr : q_gr f sr) : q_Ct l g K L yX12_arrives cX12_arrives 2 (some .int) 10 228 [.ref mo, .int (q_i a0)] f [(12, 0, 0), (12, 26, 28), (151, 0, 657), (154, 0, 657), (159, 0, 9), (160, 0, 9)] (q_Pi (fun (z : Int) (f1 : Nat → va_E) => (-1) ≤ z ∧ z ≤ 200 ∧ 0 ≤ q_z f1 sr 3 ∧ q_z f1 sr 3 ≤ 9999 ∧ 0 ≤ q_z f1 sr 4 ∧ q_z f1 sr 4 ≤ 60 ∧ q_gr f1 sr)) := by
  refine q_ofb (by decide +kernel) hN hT (Nat.le_of_ble_eq_true rfl) ?_
  intro p e s m below meth c ls cx hr hlk hB hl
  have hl : lv_has ls 2 [(0, .ref mo), (1, .int (q_i a0))] := hl
  obtain ⟨H, hH⟩ : ∃ H : Heap, H = s.heap := ⟨_, rfl⟩
  obtain ⟨locs, hlocs⟩ : ∃ z : List Loc, z = [] := ⟨_, rfl⟩
  rw [← hH, ← hlocs] at hB
  rw [← hH, ← hlocs]
  refine q_ald_n cx dX12_arrives_0 rfl (lv_at hl 0 rfl) ?_
  refine q_ald_n cx dX12_arrives_1 rfl (lv_at hl 0 rfl) ?_
  refine q_ild_n cx dX12_arrives_2 rfl (lv_at hl 1 rfl) ?_
  refine q_cVi (As := [.int (q_i a0)]) (rest := [.ref mo]) cx hB (fun _ h => h) hN hmo kmo (by decide) rfl (r_isMessage l g hN hB.2.1 mo hmo kmo a0 (by omega) (by omega) sr hsr ksr xm (by omega) (by omega) hf1 hr0 hgr) q_cX12_373 q_dX12_isMessage (by decide) rfl rfl hl.1 rfl (Nat.le_of_ble_eq_true rfl) dX12_arrives_3 (fun y72 H locs f71 ry72 h73 hF hB => ?_)
  rcases h73 with h74 | h75
  · obtain ⟨rfl, qy72, t76, t77⟩ := h74
    subst qy72
    refine q_cVi (As := [.int (q_i 1)]) (rest := []) cx hB (fun _ h => h) hN hmo kmo (by decide) rfl (r_goes1 l g hN hB.2.1 mo hmo kmo 1 (by decide) (by decide)) q_cX12_85 q_dX12_goes (by decide) rfl rfl hl.1 rfl (Nat.le_of_ble_eq_true rfl) dX12_arrives_6 (fun y79 H locs f78 ry79 h80 hF hB => ?_)
    obtain ⟨qy79, z81⟩ := h80
    have z82 : q_is (q_z f78 sr 3) xt := Eq.trans (hF.z hsr (by rw [ksr]; rfl)) hf0
    have z83 : q_is (q_z f78 sr 4) xm := Eq.trans (hF.z hsr (by rw [ksr]; rfl)) hf1
    have z84 : q_ir (q_r f78 mo 13) sr := Eq.trans (hF.r hmo (by rw [kmo]; rfl)) hr0
    have z85 : q_ir (q_r f78 mo 24) hp := Eq.trans (hF.r hmo (by rw [kmo]; rfl)) hr1
    have z86 : q_ir (q_r f78 mo 25) dy := Eq.trans (hF.r hmo (by rw [kmo]; rfl)) hr2
    have z87 : q_ir (q_r f78 mo 16) aw := Eq.trans (hF.r hmo (by rw [kmo]; rfl)) hr3
    have g88 : q_gr f78 sr := q_gr_fr hgr (fun i9 _ => hF.z hsr (by rw [ksr]; rfl))
    subst qy79
    refine q_ifne (tgt := 14) cx ⟨by decide, by decide⟩ dX12_arrives_9 (by decide) (fun c89 => ?_) (fun c89 => ?_)
    · refine q_ald_n cx dX12_arrives_14 rfl (lv_at hl 0 rfl) ?_
      refine q_cVv (As := []) (rest := []) cx hB (fun _ h => h) hN hmo kmo (by decide) rfl (r_leaves l g hN hB.2.1 mo hmo kmo sr hsr ksr aw haw kaw xt (by omega) (by omega) xm (by omega) (by omega) z82 z83 z84 z87 g88) q_cX12_405 q_dX12_leaves (by decide) rfl rfl hl.1 rfl (Nat.le_of_ble_eq_true rfl) dX12_arrives_15 (fun H locs f90 h92 hF hB => ?_)
      obtain ⟨lz93, uz93⟩ := h92
      have z94 : q_is (q_z f90 sr 3) xt := Eq.trans (hF.z hsr (by rw [ksr]; rfl)) z82
      have z95 : q_is (q_z f90 sr 4) xm := Eq.trans (hF.z hsr (by rw [ksr]; rfl)) z83
      have z96 : q_is (q_z f90 mo 0) 0 := Eq.trans (hF.z hmo (by rw [kmo]; rfl)) z81
      have z97 : q_ir (q_r f90 mo 13) sr := Eq.trans (hF.r hmo (by rw [kmo]; rfl)) z84
      have z98 : q_ir (q_r f90 mo 24) hp := Eq.trans (hF.r hmo (by rw [kmo]; rfl)) z85
      have z99 : q_ir (q_r f90 mo 25) dy := Eq.trans (hF.r hmo (by rw [kmo]; rfl)) z86
      have z100 : q_ir (q_r f90 mo 16) aw := Eq.trans (hF.r hmo (by rw [kmo]; rfl)) z87
      have g101 : q_gr f90 sr := q_gr_fr g88 (fun i9 _ => hF.z hsr (by rw [ksr]; rfl))
      obtain ⟨x102, ex102⟩ : ∃ zz, q_is (q_z f90 aw 2) zz := ⟨_, q_isr _⟩
      obtain ⟨lx102, ux102⟩ := q_isb ex102 ⟨lz93, uz93⟩
      refine q_ald_n cx dX12_arrives_18 rfl (lv_at hl 0 rfl) ?_
      refine q_ald_n cx dX12_arrives_19 rfl (lv_at hl 0 rfl) ?_
      refine q_ild_n cx dX12_arrives_20 rfl (lv_at hl 1 rfl) ?_
      refine q_cVi (As := [.int (q_i a0)]) (rest := [.ref mo]) cx hB (fun _ h => h) hN hmo kmo (by decide) rfl (r_there l g hN hB.2.1 mo hmo kmo a0 (by omega) (by omega) sr hsr ksr hp hhp khp dy hdy kdy xt (by omega) (by omega) xm (by omega) (by omega) z94 z95 z97 z98 z99 g101) q_cX12_408 q_dX12_there (by decide) rfl rfl hl.1 rfl (Nat.le_of_ble_eq_true rfl) dX12_arrives_21 (fun y104 H locs f103 ry104 h105 hF hB => ?_)
      obtain ⟨ly104, uy104, z106, g107⟩ := h105
      have z108 : q_is (q_z f103 sr 4) xm := Eq.trans (hF.z hsr (by rw [ksr]; rfl)) z95
      have z109 : q_is (q_z f103 mo 0) 0 := Eq.trans (hF.z hmo (by rw [kmo]; rfl)) z96
      have z110 : q_is (q_z f103 aw 2) x102 := Eq.trans (hF.z haw (by rw [kaw]; rfl)) ex102
      have z111 : q_ir (q_r f103 mo 13) sr := Eq.trans (hF.r hmo (by rw [kmo]; rfl)) z97
      have z112 : q_ir (q_r f103 mo 24) hp := Eq.trans (hF.r hmo (by rw [kmo]; rfl)) z98
      have z113 : q_ir (q_r f103 mo 25) dy := Eq.trans (hF.r hmo (by rw [kmo]; rfl)) z99
      have z114 : q_ir (q_r f103 mo 16) aw := Eq.trans (hF.r hmo (by rw [kmo]; rfl)) z100
      refine q_cVi (As := [.int (q_i y104)]) (rest := []) cx hB (fun _ h => h) hN hmo kmo (by decide) rfl (r_comesBack l g hN hB.2.1 mo hmo kmo y104 (by omega) (by omega) sr hsr ksr aw haw kaw x102 (by omega) (by omega) z110 z111 z114) q_cX12_411 q_dX12_comesBack (by decide) rfl rfl hl.1 rfl (Nat.le_of_ble_eq_true rfl) dX12_arrives_24 (fun y116 H locs f115 ry116 h117 hF hB => ?_)
      obtain ⟨qy116, lz118, uz118, lz119, uz119, g120⟩ := h117
      have z121 : q_is (q_z f115 mo 0) 0 := Eq.trans (hF.z hmo (by rw [kmo]; rfl)) z109
      have z122 : q_is (q_z f115 aw 2) x102 := Eq.trans (hF.z haw (by rw [kaw]; rfl)) z110
      have z123 : q_ir (q_r f115 mo 13) sr := Eq.trans (hF.r hmo (by rw [kmo]; rfl)) z111
      have z124 : q_ir (q_r f115 mo 24) hp := Eq.trans (hF.r hmo (by rw [kmo]; rfl)) z112
      have z125 : q_ir (q_r f115 mo 25) dy := Eq.trans (hF.r hmo (by rw [kmo]; rfl)) z113
      have z126 : q_ir (q_r f115 mo 16) aw := Eq.trans (hF.r hmo (by rw [kmo]; rfl)) z114
      obtain ⟨x127, ex127⟩ : ∃ zz, q_is (q_z f115 sr 3) zz := ⟨_, q_isr _⟩
      obtain ⟨lx127, ux127⟩ := q_isb ex127 ⟨lz118, uz118⟩
      obtain ⟨x128, ex128⟩ : ∃ zz, q_is (q_z f115 sr 4) zz := ⟨_, q_isr _⟩
      obtain ⟨lx128, ux128⟩ := q_isb ex128 ⟨lz119, uz119⟩
      refine q_iret cx hr hlk hB dX12_arrives_27 ⟨by omega, by omega⟩ ?_
      exact ⟨(by omega), (by omega), (q_isl ex127 (by omega)), (q_isu ex127 (by omega)), (q_isl ex128 (by omega)), (q_isu ex128 (by omega)), g120⟩
    · exact absurd c89 (by omega)
  · obtain ⟨rfl, qy72⟩ := h75
    subst qy72
    refine q_cVi (As := [.int (q_i 0)]) (rest := []) cx hB (fun _ h => h) hN hmo kmo (by decide) rfl (r_goes0 l g hN hB.2.1 mo hmo kmo 0 (by decide) (by decide)) q_cX12_85 q_dX12_goes (by decide) rfl rfl hl.1 rfl (Nat.le_of_ble_eq_true rfl) dX12_arrives_6 (fun y130 H locs f129 ry130 h131 hF hB => ?_)
    obtain ⟨qy130, z132⟩ := h131
    have z133 : q_is (q_z f129 sr 3) xt := Eq.trans (hF.z hsr (by rw [ksr]; rfl)) hf0
    have z134 : q_is (q_z f129 sr 4) xm := Eq.trans (hF.z hsr (by rw [ksr]; rfl)) hf1
    have z135 : q_ir (q_r f129 mo 13) sr := Eq.trans (hF.r hmo (by rw [kmo]; rfl)) hr0
    have z136 : q_ir (q_r f129 mo 24) hp := Eq.trans (hF.r hmo (by rw [kmo]; rfl)) hr1
    have z137 : q_ir (q_r f129 mo 25) dy := Eq.trans (hF.r hmo (by rw [kmo]; rfl)) hr2
    have z138 : q_ir (q_r f129 mo 16) aw := Eq.trans (hF.r hmo (by rw [kmo]; rfl)) hr3
    have g139 : q_gr f129 sr := q_gr_fr hgr (fun i9 _ => hF.z hsr (by rw [ksr]; rfl))
    subst qy130
    refine q_ifne (tgt := 14) cx ⟨by decide, by decide⟩ dX12_arrives_9 (by decide) (fun c140 => ?_) (fun c140 => ?_)
    · exact absurd c140 (by omega)
    · refine q_iconst cx dX12_arrives_12 ?_
      refine q_iret cx hr hlk hB dX12_arrives_13 ⟨by decide, by decide⟩ ?_
      exact ⟨(by decide), (by decide), (q_isl z133 (by omega)), (q_isu z133 (by omega)), (q_isl z134 (by omega)), (q_isu z134 (by omega)), g139⟩
set_option maxHeartbeats 4000000 in
set_option maxRecDepth 100000 in
theorem r_wouldArrive (l : Launch) (g : q_G) {K : Nat → Nat} {L : List Nat} (hN : L.Nodup) {f : Nat → va_E} (hT : q_Ty g K L f) (mo : Nat) (hmo : mo ∈ L) (kmo : K mo = 12) (a0 : Int) (la0 : (-2147483648) ≤ a0) (ua0 : a0 ≤ 2147483647) (b0 : Int) (lb0 : (-2147483648) ≤ b0) (ub0 : b0 ≤ 2147483647) (c0 : Int) (lc0 : 0 ≤ c0) (uc0 : c0 ≤ 1) (sr : Nat) (hsr : sr ∈ L) (ksr : K sr = 151) (hp : Nat) (hhp : hp ∈ L) (khp : K hp = 159) (dy : Nat) (hdy : dy ∈ L) (kdy : K dy = 160) (aw : Nat) (haw : aw ∈ L) (kaw : K aw = 154) (xt : Int) (lxt : 0 ≤ xt) (uxt : xt ≤ 9999) (xm : Int) (lxm : 0 ≤ xm) (uxm : xm ≤ 60) (hf0 : q_is (q_z f sr 3) xt) (hf1 : q_is (q_z f sr 4) xm) (hr0 : q_ir (q_r f mo 13) sr) (hr1 : q_ir (q_r f mo 24) hp) (hr2 : q_ir (q_r f mo 25) dy) (hr3 : q_ir (q_r f mo 16) aw) (hgr : q_gr f sr) : q_Ct l g K L yX12_wouldArrive cX12_wouldArrive 4 (some .int) 11 252 [.ref mo, .int (q_i a0), .int (q_i b0), .int (q_i c0)] f [(12, 0, 0), (12, 26, 28), (151, 0, 657), (154, 0, 657), (159, 0, 9), (160, 0, 9)] (q_Pi (fun (z : Int) (f1 : Nat → va_E) => (-1) ≤ z ∧ z ≤ 200 ∧ 0 ≤ q_z f1 sr 3 ∧ q_z f1 sr 3 ≤ 9999 ∧ 0 ≤ q_z f1 sr 4 ∧ q_z f1 sr 4 ≤ 60 ∧ q_gr f1 sr)) := by
  refine q_ofb (by decide +kernel) hN hT (Nat.le_of_ble_eq_true rfl) ?_
  intro p e s m below meth c ls cx hr hlk hB hl
  have hl : lv_has ls 4 [(0, .ref mo), (1, .int (q_i a0)), (2, .int (q_i b0)), (3, .int (q_i c0))] := hl
  obtain ⟨H, hH⟩ : ∃ H : Heap, H = s.heap := ⟨_, rfl⟩
  obtain ⟨locs, hlocs⟩ : ∃ z : List Loc, z = [] := ⟨_, rfl⟩
  rw [← hH, ← hlocs] at hB
  rw [← hH, ← hlocs]
  refine q_ald_n cx dX12_wouldArrive_0 rfl (lv_at hl 0 rfl) ?_
  refine q_ald_n cx dX12_wouldArrive_1 rfl (lv_at hl 0 rfl) ?_
  refine q_ild_n cx dX12_wouldArrive_2 rfl (lv_at hl 1 rfl) ?_
  refine q_cVi (As := [.int (q_i a0)]) (rest := [.ref mo]) cx hB (fun _ h => h) hN hmo kmo (by decide) rfl (r_isNode l g hN hB.2.1 mo hmo kmo a0 (by omega) (by omega) sr hsr ksr hr0) q_cX12_355 q_dX12_isNode (by decide) rfl rfl hl.1 rfl (Nat.le_of_ble_eq_true rfl) dX12_wouldArrive_3 (fun y122 H locs f121 ry122 h123 hF hB => ?_)
  rcases h123 with h124 | h125
  · obtain ⟨rfl, qy122, t126, t127⟩ := h124
    subst qy122
    refine q_ifeq (tgt := 21) cx ⟨by decide, by decide⟩ dX12_wouldArrive_6 (by decide) (fun c128 => ?_) (fun c128 => ?_)
    · exact absurd c128 (by omega)
    · refine q_ald_n cx dX12_wouldArrive_9 rfl (lv_at hl 0 rfl) ?_
      refine q_ild_n cx dX12_wouldArrive_10 rfl (lv_at hl 2 rfl) ?_
      refine q_cVi (As := [.int (q_i b0)]) (rest := [.ref mo]) cx hB (fun _ h => h) hN hmo kmo (by decide) rfl (r_isNode l g hN hB.2.1 mo hmo kmo b0 (by omega) (by omega) sr hsr ksr hr0) q_cX12_355 q_dX12_isNode (by decide) rfl rfl hl.1 rfl (Nat.le_of_ble_eq_true rfl) dX12_wouldArrive_11 (fun y130 H locs f129 ry130 h131 hF hB => ?_)
      rcases h131 with h132 | h133
      · obtain ⟨rfl, qy130, t134, t135⟩ := h132
        subst qy130
        refine q_ifeq (tgt := 21) cx ⟨by decide, by decide⟩ dX12_wouldArrive_14 (by decide) (fun c136 => ?_) (fun c136 => ?_)
        · exact absurd c136 (by omega)
        · refine q_iconst cx dX12_wouldArrive_17 ?_
          refine lv_goto (tgt := 22) cx.1 cx.2.1 dX12_wouldArrive_18 (by decide) ?_
          refine q_ild_n cx dX12_wouldArrive_22 rfl (lv_at hl 1 rfl) ?_
          refine q_ild_n cx dX12_wouldArrive_23 rfl (lv_at hl 2 rfl) ?_
          refine q_iceq (tgt := 31) cx ⟨by omega, by omega⟩ ⟨by omega, by omega⟩ dX12_wouldArrive_24 (by decide) (fun c137 => ?_) (fun c137 => ?_)
          · refine q_iconst cx dX12_wouldArrive_31 ?_
            refine q_cVi (As := [.int (q_i 1), .int (q_i 0)]) (rest := []) cx hB (fun _ h => h) hN hmo kmo (by decide) rfl (r_goesBoth1 l g hN hB.2.1 mo hmo kmo 1 (by decide) (by decide) 0 (by decide) (by decide)) q_cX12_358 q_dX12_goesBoth (by decide) rfl rfl hl.1 rfl (Nat.le_of_ble_eq_true rfl) dX12_wouldArrive_32 (fun y139 H locs f138 ry139 h140 hF hB => ?_)
            obtain ⟨qy139, z141⟩ := h140
            have z142 : q_is (q_z f138 sr 3) xt := Eq.trans (hF.z hsr (by rw [ksr]; rfl)) hf0
            have z143 : q_is (q_z f138 sr 4) xm := Eq.trans (hF.z hsr (by rw [ksr]; rfl)) hf1
            have z144 : q_ir (q_r f138 mo 13) sr := Eq.trans (hF.r hmo (by rw [kmo]; rfl)) hr0
            have z145 : q_ir (q_r f138 mo 24) hp := Eq.trans (hF.r hmo (by rw [kmo]; rfl)) hr1
            have z146 : q_ir (q_r f138 mo 25) dy := Eq.trans (hF.r hmo (by rw [kmo]; rfl)) hr2
            have z147 : q_ir (q_r f138 mo 16) aw := Eq.trans (hF.r hmo (by rw [kmo]; rfl)) hr3
            have g148 : q_gr f138 sr := q_gr_fr hgr (fun i9 _ => hF.z hsr (by rw [ksr]; rfl))
            subst qy139
            refine q_ifne (tgt := 40) cx ⟨by decide, by decide⟩ dX12_wouldArrive_35 (by decide) (fun c149 => ?_) (fun c149 => ?_)
            · exact absurd c149 (by omega)
            · refine q_iconst cx dX12_wouldArrive_38 ?_
              refine q_iret cx hr hlk hB dX12_wouldArrive_39 ⟨by decide, by decide⟩ ?_
              exact ⟨(by decide), (by decide), (q_isl z142 (by omega)), (q_isu z142 (by omega)), (q_isl z143 (by omega)), (q_isu z143 (by omega)), g148⟩
          · refine q_iconst cx dX12_wouldArrive_27 ?_
            refine lv_goto (tgt := 32) cx.1 cx.2.1 dX12_wouldArrive_28 (by decide) ?_
            refine q_cVi (As := [.int (q_i 1), .int (q_i 1)]) (rest := []) cx hB (fun _ h => h) hN hmo kmo (by decide) rfl (r_goesBoth2 l g hN hB.2.1 mo hmo kmo 1 (by decide) (by decide) 1 (by decide) (by decide)) q_cX12_358 q_dX12_goesBoth (by decide) rfl rfl hl.1 rfl (Nat.le_of_ble_eq_true rfl) dX12_wouldArrive_32 (fun y151 H locs f150 ry151 h152 hF hB => ?_)
            obtain ⟨qy151, z153⟩ := h152
            have z154 : q_is (q_z f150 sr 3) xt := Eq.trans (hF.z hsr (by rw [ksr]; rfl)) hf0
            have z155 : q_is (q_z f150 sr 4) xm := Eq.trans (hF.z hsr (by rw [ksr]; rfl)) hf1
            have z156 : q_ir (q_r f150 mo 13) sr := Eq.trans (hF.r hmo (by rw [kmo]; rfl)) hr0
            have z157 : q_ir (q_r f150 mo 24) hp := Eq.trans (hF.r hmo (by rw [kmo]; rfl)) hr1
            have z158 : q_ir (q_r f150 mo 25) dy := Eq.trans (hF.r hmo (by rw [kmo]; rfl)) hr2
            have z159 : q_ir (q_r f150 mo 16) aw := Eq.trans (hF.r hmo (by rw [kmo]; rfl)) hr3
            have g160 : q_gr f150 sr := q_gr_fr hgr (fun i9 _ => hF.z hsr (by rw [ksr]; rfl))
            subst qy151
            refine q_ifne (tgt := 40) cx ⟨by decide, by decide⟩ dX12_wouldArrive_35 (by decide) (fun c161 => ?_) (fun c161 => ?_)
            · refine q_ald_n cx dX12_wouldArrive_40 rfl (lv_at hl 0 rfl) ?_
              refine q_cVv (As := []) (rest := []) cx hB (fun _ h => h) hN hmo kmo (by decide) rfl (r_leaves l g hN hB.2.1 mo hmo kmo sr hsr ksr aw haw kaw xt (by omega) (by omega) xm (by omega) (by omega) z154 z155 z156 z159 g160) q_cX12_405 q_dX12_leaves (by decide) rfl rfl hl.1 rfl (Nat.le_of_ble_eq_true rfl) dX12_wouldArrive_41 (fun H locs f162 h164 hF hB => ?_)
              obtain ⟨lz165, uz165⟩ := h164
              have z166 : q_is (q_z f162 sr 3) xt := Eq.trans (hF.z hsr (by rw [ksr]; rfl)) z154
              have z167 : q_is (q_z f162 sr 4) xm := Eq.trans (hF.z hsr (by rw [ksr]; rfl)) z155
              have z168 : q_is (q_z f162 mo 0) 0 := Eq.trans (hF.z hmo (by rw [kmo]; rfl)) z153
              have z169 : q_ir (q_r f162 mo 13) sr := Eq.trans (hF.r hmo (by rw [kmo]; rfl)) z156
              have z170 : q_ir (q_r f162 mo 24) hp := Eq.trans (hF.r hmo (by rw [kmo]; rfl)) z157
              have z171 : q_ir (q_r f162 mo 25) dy := Eq.trans (hF.r hmo (by rw [kmo]; rfl)) z158
              have z172 : q_ir (q_r f162 mo 16) aw := Eq.trans (hF.r hmo (by rw [kmo]; rfl)) z159
              have g173 : q_gr f162 sr := q_gr_fr g160 (fun i9 _ => hF.z hsr (by rw [ksr]; rfl))
              obtain ⟨x174, ex174⟩ : ∃ zz, q_is (q_z f162 aw 2) zz := ⟨_, q_isr _⟩
              obtain ⟨lx174, ux174⟩ := q_isb ex174 ⟨lz165, uz165⟩
              refine q_ald_n cx dX12_wouldArrive_44 rfl (lv_at hl 0 rfl) ?_
              refine q_ild_n cx dX12_wouldArrive_45 rfl (lv_at hl 1 rfl) ?_
              refine q_ild_n cx dX12_wouldArrive_46 rfl (lv_at hl 2 rfl) ?_
              refine q_ild_n cx dX12_wouldArrive_47 rfl (lv_at hl 3 rfl) ?_
              refine q_cVi (As := [.int (q_i a0), .int (q_i b0), .int (q_i c0)]) (rest := []) cx hB (fun _ h => h) hN hmo kmo (by decide) rfl (r_byMessage l g hN hB.2.1 mo hmo kmo a0 (by omega) (by omega) b0 (by omega) (by omega) c0 (by omega) (by omega) sr hsr ksr hp hhp khp dy hdy kdy aw haw kaw xt (by omega) (by omega) xm (by omega) (by omega) x174 (by omega) (by omega) z166 z167 ex174 z169 z170 z171 z172 g173) q_cX12_421 q_dX12_byMessage (by decide) rfl rfl hl.1 rfl (Nat.le_of_ble_eq_true rfl) dX12_wouldArrive_48 (fun y176 H locs f175 ry176 h177 hF hB => ?_)
              obtain ⟨ly176, uy176, lz178, uz178, lz179, uz179, g180⟩ := h177
              have z181 : q_is (q_z f175 mo 0) 0 := Eq.trans (hF.z hmo (by rw [kmo]; rfl)) z168
              have z182 : q_is (q_z f175 aw 2) x174 := Eq.trans (hF.z haw (by rw [kaw]; rfl)) ex174
              have z183 : q_ir (q_r f175 mo 13) sr := Eq.trans (hF.r hmo (by rw [kmo]; rfl)) z169
              have z184 : q_ir (q_r f175 mo 24) hp := Eq.trans (hF.r hmo (by rw [kmo]; rfl)) z170
              have z185 : q_ir (q_r f175 mo 25) dy := Eq.trans (hF.r hmo (by rw [kmo]; rfl)) z171
              have z186 : q_ir (q_r f175 mo 16) aw := Eq.trans (hF.r hmo (by rw [kmo]; rfl)) z172
              obtain ⟨x187, ex187⟩ : ∃ zz, q_is (q_z f175 sr 3) zz := ⟨_, q_isr _⟩
              obtain ⟨lx187, ux187⟩ := q_isb ex187 ⟨lz178, uz178⟩
              obtain ⟨x188, ex188⟩ : ∃ zz, q_is (q_z f175 sr 4) zz := ⟨_, q_isr _⟩
              obtain ⟨lx188, ux188⟩ := q_isb ex188 ⟨lz179, uz179⟩
              refine q_iret cx hr hlk hB dX12_wouldArrive_51 ⟨by omega, by omega⟩ ?_
              exact ⟨(by omega), (by omega), (q_isl ex187 (by omega)), (q_isu ex187 (by omega)), (q_isl ex188 (by omega)), (q_isu ex188 (by omega)), g180⟩
            · exact absurd c161 (by omega)
      · obtain ⟨rfl, qy130⟩ := h133
        subst qy130
        refine q_ifeq (tgt := 21) cx ⟨by decide, by decide⟩ dX12_wouldArrive_14 (by decide) (fun c189 => ?_) (fun c189 => ?_)
        · refine q_iconst cx dX12_wouldArrive_21 ?_
          refine q_ild_n cx dX12_wouldArrive_22 rfl (lv_at hl 1 rfl) ?_
          refine q_ild_n cx dX12_wouldArrive_23 rfl (lv_at hl 2 rfl) ?_
          refine q_iceq (tgt := 31) cx ⟨by omega, by omega⟩ ⟨by omega, by omega⟩ dX12_wouldArrive_24 (by decide) (fun c190 => ?_) (fun c190 => ?_)
          · refine q_iconst cx dX12_wouldArrive_31 ?_
            refine q_cVi (As := [.int (q_i 0), .int (q_i 0)]) (rest := []) cx hB (fun _ h => h) hN hmo kmo (by decide) rfl (r_goesBoth0 l g hN hB.2.1 mo hmo kmo 0 (by decide) (by decide) 0 (by decide) (by decide)) q_cX12_358 q_dX12_goesBoth (by decide) rfl rfl hl.1 rfl (Nat.le_of_ble_eq_true rfl) dX12_wouldArrive_32 (fun y192 H locs f191 ry192 h193 hF hB => ?_)
            obtain ⟨qy192, z194⟩ := h193
            have z195 : q_is (q_z f191 sr 3) xt := Eq.trans (hF.z hsr (by rw [ksr]; rfl)) hf0
            have z196 : q_is (q_z f191 sr 4) xm := Eq.trans (hF.z hsr (by rw [ksr]; rfl)) hf1
            have z197 : q_ir (q_r f191 mo 13) sr := Eq.trans (hF.r hmo (by rw [kmo]; rfl)) hr0
            have z198 : q_ir (q_r f191 mo 24) hp := Eq.trans (hF.r hmo (by rw [kmo]; rfl)) hr1
            have z199 : q_ir (q_r f191 mo 25) dy := Eq.trans (hF.r hmo (by rw [kmo]; rfl)) hr2
            have z200 : q_ir (q_r f191 mo 16) aw := Eq.trans (hF.r hmo (by rw [kmo]; rfl)) hr3
            have g201 : q_gr f191 sr := q_gr_fr hgr (fun i9 _ => hF.z hsr (by rw [ksr]; rfl))
            subst qy192
            refine q_ifne (tgt := 40) cx ⟨by decide, by decide⟩ dX12_wouldArrive_35 (by decide) (fun c202 => ?_) (fun c202 => ?_)
            · exact absurd c202 (by omega)
            · refine q_iconst cx dX12_wouldArrive_38 ?_
              refine q_iret cx hr hlk hB dX12_wouldArrive_39 ⟨by decide, by decide⟩ ?_
              exact ⟨(by decide), (by decide), (q_isl z195 (by omega)), (q_isu z195 (by omega)), (q_isl z196 (by omega)), (q_isu z196 (by omega)), g201⟩
          · refine q_iconst cx dX12_wouldArrive_27 ?_
            refine lv_goto (tgt := 32) cx.1 cx.2.1 dX12_wouldArrive_28 (by decide) ?_
            refine q_cVi (As := [.int (q_i 0), .int (q_i 1)]) (rest := []) cx hB (fun _ h => h) hN hmo kmo (by decide) rfl (r_goesBoth0 l g hN hB.2.1 mo hmo kmo 0 (by decide) (by decide) 1 (by decide) (by decide)) q_cX12_358 q_dX12_goesBoth (by decide) rfl rfl hl.1 rfl (Nat.le_of_ble_eq_true rfl) dX12_wouldArrive_32 (fun y204 H locs f203 ry204 h205 hF hB => ?_)
            obtain ⟨qy204, z206⟩ := h205
            have z207 : q_is (q_z f203 sr 3) xt := Eq.trans (hF.z hsr (by rw [ksr]; rfl)) hf0
            have z208 : q_is (q_z f203 sr 4) xm := Eq.trans (hF.z hsr (by rw [ksr]; rfl)) hf1
            have z209 : q_ir (q_r f203 mo 13) sr := Eq.trans (hF.r hmo (by rw [kmo]; rfl)) hr0
            have z210 : q_ir (q_r f203 mo 24) hp := Eq.trans (hF.r hmo (by rw [kmo]; rfl)) hr1
            have z211 : q_ir (q_r f203 mo 25) dy := Eq.trans (hF.r hmo (by rw [kmo]; rfl)) hr2
            have z212 : q_ir (q_r f203 mo 16) aw := Eq.trans (hF.r hmo (by rw [kmo]; rfl)) hr3
            have g213 : q_gr f203 sr := q_gr_fr hgr (fun i9 _ => hF.z hsr (by rw [ksr]; rfl))
            subst qy204
            refine q_ifne (tgt := 40) cx ⟨by decide, by decide⟩ dX12_wouldArrive_35 (by decide) (fun c214 => ?_) (fun c214 => ?_)
            · exact absurd c214 (by omega)
            · refine q_iconst cx dX12_wouldArrive_38 ?_
              refine q_iret cx hr hlk hB dX12_wouldArrive_39 ⟨by decide, by decide⟩ ?_
              exact ⟨(by decide), (by decide), (q_isl z207 (by omega)), (q_isu z207 (by omega)), (q_isl z208 (by omega)), (q_isu z208 (by omega)), g213⟩
        · exact absurd c189 (by omega)
  · obtain ⟨rfl, qy122⟩ := h125
    subst qy122
    refine q_ifeq (tgt := 21) cx ⟨by decide, by decide⟩ dX12_wouldArrive_6 (by decide) (fun c215 => ?_) (fun c215 => ?_)
    · refine q_iconst cx dX12_wouldArrive_21 ?_
      refine q_ild_n cx dX12_wouldArrive_22 rfl (lv_at hl 1 rfl) ?_
      refine q_ild_n cx dX12_wouldArrive_23 rfl (lv_at hl 2 rfl) ?_
      refine q_iceq (tgt := 31) cx ⟨by omega, by omega⟩ ⟨by omega, by omega⟩ dX12_wouldArrive_24 (by decide) (fun c216 => ?_) (fun c216 => ?_)
      · refine q_iconst cx dX12_wouldArrive_31 ?_
        refine q_cVi (As := [.int (q_i 0), .int (q_i 0)]) (rest := []) cx hB (fun _ h => h) hN hmo kmo (by decide) rfl (r_goesBoth0 l g hN hB.2.1 mo hmo kmo 0 (by decide) (by decide) 0 (by decide) (by decide)) q_cX12_358 q_dX12_goesBoth (by decide) rfl rfl hl.1 rfl (Nat.le_of_ble_eq_true rfl) dX12_wouldArrive_32 (fun y218 H locs f217 ry218 h219 hF hB => ?_)
        obtain ⟨qy218, z220⟩ := h219
        have z221 : q_is (q_z f217 sr 3) xt := Eq.trans (hF.z hsr (by rw [ksr]; rfl)) hf0
        have z222 : q_is (q_z f217 sr 4) xm := Eq.trans (hF.z hsr (by rw [ksr]; rfl)) hf1
        have z223 : q_ir (q_r f217 mo 13) sr := Eq.trans (hF.r hmo (by rw [kmo]; rfl)) hr0
        have z224 : q_ir (q_r f217 mo 24) hp := Eq.trans (hF.r hmo (by rw [kmo]; rfl)) hr1
        have z225 : q_ir (q_r f217 mo 25) dy := Eq.trans (hF.r hmo (by rw [kmo]; rfl)) hr2
        have z226 : q_ir (q_r f217 mo 16) aw := Eq.trans (hF.r hmo (by rw [kmo]; rfl)) hr3
        have g227 : q_gr f217 sr := q_gr_fr hgr (fun i9 _ => hF.z hsr (by rw [ksr]; rfl))
        subst qy218
        refine q_ifne (tgt := 40) cx ⟨by decide, by decide⟩ dX12_wouldArrive_35 (by decide) (fun c228 => ?_) (fun c228 => ?_)
        · exact absurd c228 (by omega)
        · refine q_iconst cx dX12_wouldArrive_38 ?_
          refine q_iret cx hr hlk hB dX12_wouldArrive_39 ⟨by decide, by decide⟩ ?_
          exact ⟨(by decide), (by decide), (q_isl z221 (by omega)), (q_isu z221 (by omega)), (q_isl z222 (by omega)), (q_isu z222 (by omega)), g227⟩
      · refine q_iconst cx dX12_wouldArrive_27 ?_
        refine lv_goto (tgt := 32) cx.1 cx.2.1 dX12_wouldArrive_28 (by decide) ?_
        refine q_cVi (As := [.int (q_i 0), .int (q_i 1)]) (rest := []) cx hB (fun _ h => h) hN hmo kmo (by decide) rfl (r_goesBoth0 l g hN hB.2.1 mo hmo kmo 0 (by decide) (by decide) 1 (by decide) (by decide)) q_cX12_358 q_dX12_goesBoth (by decide) rfl rfl hl.1 rfl (Nat.le_of_ble_eq_true rfl) dX12_wouldArrive_32 (fun y230 H locs f229 ry230 h231 hF hB => ?_)
        obtain ⟨qy230, z232⟩ := h231
        have z233 : q_is (q_z f229 sr 3) xt := Eq.trans (hF.z hsr (by rw [ksr]; rfl)) hf0
        have z234 : q_is (q_z f229 sr 4) xm := Eq.trans (hF.z hsr (by rw [ksr]; rfl)) hf1
        have z235 : q_ir (q_r f229 mo 13) sr := Eq.trans (hF.r hmo (by rw [kmo]; rfl)) hr0
        have z236 : q_ir (q_r f229 mo 24) hp := Eq.trans (hF.r hmo (by rw [kmo]; rfl)) hr1
        have z237 : q_ir (q_r f229 mo 25) dy := Eq.trans (hF.r hmo (by rw [kmo]; rfl)) hr2
        have z238 : q_ir (q_r f229 mo 16) aw := Eq.trans (hF.r hmo (by rw [kmo]; rfl)) hr3
        have g239 : q_gr f229 sr := q_gr_fr hgr (fun i9 _ => hF.z hsr (by rw [ksr]; rfl))
        subst qy230
        refine q_ifne (tgt := 40) cx ⟨by decide, by decide⟩ dX12_wouldArrive_35 (by decide) (fun c240 => ?_) (fun c240 => ?_)
        · exact absurd c240 (by omega)
        · refine q_iconst cx dX12_wouldArrive_38 ?_
          refine q_iret cx hr hlk hB dX12_wouldArrive_39 ⟨by decide, by decide⟩ ?_
          exact ⟨(by decide), (by decide), (q_isl z233 (by omega)), (q_isu z233 (by omega)), (q_isl z234 (by omega)), (q_isu z234 (by omega)), g239⟩
    · exact absurd c215 (by omega)
set_option maxHeartbeats 4000000 in
set_option maxRecDepth 100000 in
theorem r_outIn (l : Launch) (g : q_G) {K : Nat → Nat} {L : List Nat} (hN : L.Nodup) {f : Nat → va_E} (hT : q_Ty g K L f) (mo : Nat) (hmo : mo ∈ L) (kmo : K mo = 12) (a0 : Int) (la0 : (-2147483648) ≤ a0) (ua0 : a0 ≤ 2147483647) (sr : Nat) (hsr : sr ∈ L) (ksr : K sr = 151) (hp : Nat) (hhp : hp ∈ L) (khp : K hp = 159) (dy : Nat) (hdy : dy ∈ L) (kdy : K dy = 160) (aw : Nat) (haw : aw ∈ L) (kaw : K aw = 154) (xt : Int) (lxt : 0 ≤ xt) (uxt : xt ≤ 9999) (xm : Int) (lxm : 0 ≤ xm) (uxm : xm ≤ 60) (hf0 : q_is (q_z f sr 3) xt) (hf1 : q_is (q_z f sr 4) xm) (hr0 : q_ir (q_r f mo 13) sr) (hr1 : q_ir (q_r f mo 24) hp) (hr2 : q_ir (q_r f mo 25) dy) (hr3 : q_ir (q_r f mo 16) aw) (hgr : q_gr f sr) : q_Ct l g K L yX12_outIn cX12_outIn 4 (some .int) 9 205 [.ref mo, .int (q_i a0)] f [(12, 0, 0), (12, 26, 28), (151, 0, 657), (154, 0, 657), (159, 0, 9), (160, 0, 9)] (q_Pi (fun (z : Int) (f1 : Nat → va_E) => (-1) ≤ z ∧ z ≤ 200 ∧ 0 ≤ q_z f1 sr 3 ∧ q_z f1 sr 3 ≤ 9999 ∧ 0 ≤ q_z f1 sr 4 ∧ q_z f1 sr 4 ≤ 60 ∧ q_gr f1 sr)) := by
  refine q_ofb (by decide +kernel) hN hT (Nat.le_of_ble_eq_true rfl) ?_
  intro p e s m below meth c ls cx hr hlk hB hl
  have hl : lv_has ls 4 [(0, .ref mo), (1, .int (q_i a0))] := hl
  have J22 : ∀ (n : Nat) (f22 : Nat → va_E) (v22_2 : Int) (lv22_2 : 0 ≤ v22_2) (uv22_2 : v22_2 ≤ 200) (v22_3 : Int) (lv22_3 : (-2147483648) ≤ v22_3) (uv22_3 : v22_3 ≤ 2147483647) (w22_aw_2 : Int) (lw22_aw_2 : 4 ≤ w22_aw_2) (uw22_aw_2 : w22_aw_2 ≤ 60) (w22_sr_3 : Int) (lw22_sr_3 : 0 ≤ w22_sr_3) (uw22_sr_3 : w22_sr_3 ≤ 10199) (bla0 : 0 ≤ a0) (bua0 : a0 ≤ 9) (hj_sr_4 : q_is (q_z f22 sr 4) xm) (hj_aw_2 : q_is (q_z f22 aw 2) w22_aw_2) (hj_sr_3 : q_is (q_z f22 sr 3) w22_sr_3) (hq_mo_13 : q_ir (q_r f22 mo 13) sr) (hq_mo_24 : q_ir (q_r f22 mo 24) hp) (hq_mo_25 : q_ir (q_r f22 mo 25) dy) (hq_mo_16 : q_ir (q_r f22 mo 16) aw) (hgr22 : q_gr f22 sr) (hrl22_0 : 0 ≤ 1 * w22_sr_3 + -1 * xt + -1 * v22_2 + 0 ∧ 1 * w22_sr_3 + -1 * xt + -1 * v22_2 + 0 ≤ 0) (hrl22_1 : 0 ≤ 1 * v22_2 + 0 ∧ 1 * v22_2 + 0 ≤ 200) (hmu : (Int.toNat (201 - v22_2)) < n) (H : Heap) (locs : List Loc) (hB : q_B g K L (fun q => q ∈ L) [(12, 0, 0), (12, 26, 28), (151, 0, 657), (154, 0, 657), (159, 0, 9), (160, 0, 9)] f f22 s H locs) (ls : Array Slot) (hl : lv_has ls 4 [(0, .ref mo), (1, .int (q_i a0)), (2, .int (q_i v22_2)), (3, .int (q_i v22_3))]), W p l e { frames := 9, cells := 0, slots := 0, locals := 205 } s m ([.ref mo, .int (q_i a0)] : List Value).toArray below meth c H locs 0 0 (MQ below (q_Q g K L [(12, 0, 0), (12, 26, 28), (151, 0, 657), (154, 0, 657), (159, 0, 9), (160, 0, 9)] f (q_Pi (fun (z : Int) (f1 : Nat → va_E) => (-1) ≤ z ∧ z ≤ 200 ∧ 0 ≤ q_z f1 sr 3 ∧ q_z f1 sr 3 ≤ 9999 ∧ 0 ≤ q_z f1 sr 4 ∧ q_z f1 sr 4 ≤ 60 ∧ q_gr f1 sr))) ([.ref mo, .int (q_i a0)] : List Value).toArray s 0 0 (fun q => q ∈ L)) (F0 m 22 ls []) := by
    intro n
    induction n with
    | zero =>
      intro f22 v22_2 lv22_2 uv22_2 v22_3 lv22_3 uv22_3 w22_aw_2 lw22_aw_2 uw22_aw_2 w22_sr_3 lw22_sr_3 uw22_sr_3 bla0 bua0 hj_sr_4 hj_aw_2 hj_sr_3 hq_mo_13 hq_mo_24 hq_mo_25 hq_mo_16 hgr22 hrl22_0 hrl22_1 hmu
      exact absurd hmu (Nat.not_lt_zero _)
    | succ n ih22 =>
      intro f22 v22_2 lv22_2 uv22_2 v22_3 lv22_3 uv22_3 w22_aw_2 lw22_aw_2 uw22_aw_2 w22_sr_3 lw22_sr_3 uw22_sr_3 bla0 bua0 hj_sr_4 hj_aw_2 hj_sr_3 hq_mo_13 hq_mo_24 hq_mo_25 hq_mo_16 hgr22 hrl22_0 hrl22_1 hmu H locs hB ls hl
      refine q_ild_n cx dX12_outIn_22 rfl (lv_at hl 2 rfl) ?_
      refine q_sipush cx dX12_outIn_23 rfl ?_
      refine q_icge (tgt := 50) cx ⟨by omega, by omega⟩ ⟨by decide, by decide⟩ dX12_outIn_26 (by decide) (fun c200 => ?_) (fun c200 => ?_)
      · refine q_ald_n cx dX12_outIn_50 rfl (lv_at hl 0 rfl) ?_
        refine q_ald_n cx dX12_outIn_51 rfl (lv_at hl 0 rfl) ?_
        refine q_ild_n cx dX12_outIn_52 rfl (lv_at hl 1 rfl) ?_
        refine q_cVi (As := [.int (q_i a0)]) (rest := [.ref mo]) cx hB (fun _ h => h) hN hmo kmo (by decide) rfl (r_isOut l g hN hB.2.1 mo hmo kmo a0 (by omega) (by omega) sr hsr ksr hq_mo_13 hgr22) q_cX12_271 q_dX12_isOut (by decide) rfl rfl hl.1 rfl (Nat.le_of_ble_eq_true rfl) dX12_outIn_53 (fun y202 H locs f201 ry202 h203 hF hB => ?_)
        obtain ⟨rfl, ly202, uy202⟩ := h203
        refine q_ifeq (tgt := 63) cx ⟨by omega, by omega⟩ dX12_outIn_56 (by decide) (fun c204 => ?_) (fun c204 => ?_)
        · refine q_iconst cx dX12_outIn_63 ?_
          refine q_cVi (As := [.int (q_i (-1))]) (rest := []) cx hB (fun _ h => h) hN hmo kmo (by decide) rfl (r_comesBack l g hN hB.2.1 mo hmo kmo (-1) (by decide) (by decide) sr hsr ksr aw haw kaw w22_aw_2 (by omega) (by omega) hj_aw_2 hq_mo_13 hq_mo_16) q_cX12_411 q_dX12_comesBack (by decide) rfl rfl hl.1 rfl (Nat.le_of_ble_eq_true rfl) dX12_outIn_64 (fun y206 H locs f205 ry206 h207 hF hB => ?_)
          obtain ⟨qy206, lz208, uz208, lz209, uz209, g210⟩ := h207
          have z211 : q_is (q_z f205 aw 2) w22_aw_2 := Eq.trans (hF.z haw (by rw [kaw]; rfl)) hj_aw_2
          have z212 : q_ir (q_r f205 mo 13) sr := Eq.trans (hF.r hmo (by rw [kmo]; rfl)) hq_mo_13
          have z213 : q_ir (q_r f205 mo 24) hp := Eq.trans (hF.r hmo (by rw [kmo]; rfl)) hq_mo_24
          have z214 : q_ir (q_r f205 mo 25) dy := Eq.trans (hF.r hmo (by rw [kmo]; rfl)) hq_mo_25
          have z215 : q_ir (q_r f205 mo 16) aw := Eq.trans (hF.r hmo (by rw [kmo]; rfl)) hq_mo_16
          obtain ⟨x216, ex216⟩ : ∃ zz, q_is (q_z f205 sr 3) zz := ⟨_, q_isr _⟩
          obtain ⟨lx216, ux216⟩ := q_isb ex216 ⟨lz208, uz208⟩
          obtain ⟨x217, ex217⟩ : ∃ zz, q_is (q_z f205 sr 4) zz := ⟨_, q_isr _⟩
          obtain ⟨lx217, ux217⟩ := q_isb ex217 ⟨lz209, uz209⟩
          subst qy206
          refine q_iret cx hr hlk hB dX12_outIn_67 ⟨by decide, by decide⟩ ?_
          exact ⟨(by decide), (by decide), (q_isl ex216 (by omega)), (q_isu ex216 (by omega)), (q_isl ex217 (by omega)), (q_isu ex217 (by omega)), g210⟩
        · refine q_ild_n cx dX12_outIn_59 rfl (lv_at hl 2 rfl) ?_
          refine lv_goto (tgt := 64) cx.1 cx.2.1 dX12_outIn_60 (by decide) ?_
          refine q_cVi (As := [.int (q_i v22_2)]) (rest := []) cx hB (fun _ h => h) hN hmo kmo (by decide) rfl (r_comesBack l g hN hB.2.1 mo hmo kmo v22_2 (by omega) (by omega) sr hsr ksr aw haw kaw w22_aw_2 (by omega) (by omega) hj_aw_2 hq_mo_13 hq_mo_16) q_cX12_411 q_dX12_comesBack (by decide) rfl rfl hl.1 rfl (Nat.le_of_ble_eq_true rfl) dX12_outIn_64 (fun y219 H locs f218 ry219 h220 hF hB => ?_)
          obtain ⟨qy219, lz221, uz221, lz222, uz222, g223⟩ := h220
          have z224 : q_is (q_z f218 aw 2) w22_aw_2 := Eq.trans (hF.z haw (by rw [kaw]; rfl)) hj_aw_2
          have z225 : q_ir (q_r f218 mo 13) sr := Eq.trans (hF.r hmo (by rw [kmo]; rfl)) hq_mo_13
          have z226 : q_ir (q_r f218 mo 24) hp := Eq.trans (hF.r hmo (by rw [kmo]; rfl)) hq_mo_24
          have z227 : q_ir (q_r f218 mo 25) dy := Eq.trans (hF.r hmo (by rw [kmo]; rfl)) hq_mo_25
          have z228 : q_ir (q_r f218 mo 16) aw := Eq.trans (hF.r hmo (by rw [kmo]; rfl)) hq_mo_16
          obtain ⟨x229, ex229⟩ : ∃ zz, q_is (q_z f218 sr 3) zz := ⟨_, q_isr _⟩
          obtain ⟨lx229, ux229⟩ := q_isb ex229 ⟨lz221, uz221⟩
          obtain ⟨x230, ex230⟩ : ∃ zz, q_is (q_z f218 sr 4) zz := ⟨_, q_isr _⟩
          obtain ⟨lx230, ux230⟩ := q_isb ex230 ⟨lz222, uz222⟩
          refine q_iret cx hr hlk hB dX12_outIn_67 ⟨by omega, by omega⟩ ?_
          exact ⟨(by omega), (by omega), (q_isl ex229 (by omega)), (q_isu ex229 (by omega)), (q_isl ex230 (by omega)), (q_isu ex230 (by omega)), g223⟩
      · refine q_ald_n cx dX12_outIn_29 rfl (lv_at hl 0 rfl) ?_
        refine q_ild_n cx dX12_outIn_30 rfl (lv_at hl 1 rfl) ?_
        refine q_cVi (As := [.int (q_i a0)]) (rest := []) cx hB (fun _ h => h) hN hmo kmo (by decide) rfl (r_isOut l g hN hB.2.1 mo hmo kmo a0 (by omega) (by omega) sr hsr ksr hq_mo_13 hgr22) q_cX12_271 q_dX12_isOut (by decide) rfl rfl hl.1 rfl (Nat.le_of_ble_eq_true rfl) dX12_outIn_31 (fun y232 H locs f231 ry232 h233 hF hB => ?_)
        obtain ⟨rfl, ly232, uy232⟩ := h233
        refine q_ifne (tgt := 50) cx ⟨by omega, by omega⟩ dX12_outIn_34 (by decide) (fun c234 => ?_) (fun c234 => ?_)
        · refine q_ald_n cx dX12_outIn_50 rfl (lv_at hl 0 rfl) ?_
          refine q_ald_n cx dX12_outIn_51 rfl (lv_at hl 0 rfl) ?_
          refine q_ild_n cx dX12_outIn_52 rfl (lv_at hl 1 rfl) ?_
          refine q_cVi (As := [.int (q_i a0)]) (rest := [.ref mo]) cx hB (fun _ h => h) hN hmo kmo (by decide) rfl (r_isOut l g hN hB.2.1 mo hmo kmo a0 (by omega) (by omega) sr hsr ksr hq_mo_13 hgr22) q_cX12_271 q_dX12_isOut (by decide) rfl rfl hl.1 rfl (Nat.le_of_ble_eq_true rfl) dX12_outIn_53 (fun y236 H locs f235 ry236 h237 hF hB => ?_)
          obtain ⟨rfl, ly236, uy236⟩ := h237
          refine q_ifeq (tgt := 63) cx ⟨by omega, by omega⟩ dX12_outIn_56 (by decide) (fun c238 => ?_) (fun c238 => ?_)
          · refine q_iconst cx dX12_outIn_63 ?_
            refine q_cVi (As := [.int (q_i (-1))]) (rest := []) cx hB (fun _ h => h) hN hmo kmo (by decide) rfl (r_comesBack l g hN hB.2.1 mo hmo kmo (-1) (by decide) (by decide) sr hsr ksr aw haw kaw w22_aw_2 (by omega) (by omega) hj_aw_2 hq_mo_13 hq_mo_16) q_cX12_411 q_dX12_comesBack (by decide) rfl rfl hl.1 rfl (Nat.le_of_ble_eq_true rfl) dX12_outIn_64 (fun y240 H locs f239 ry240 h241 hF hB => ?_)
            obtain ⟨qy240, lz242, uz242, lz243, uz243, g244⟩ := h241
            have z245 : q_is (q_z f239 aw 2) w22_aw_2 := Eq.trans (hF.z haw (by rw [kaw]; rfl)) hj_aw_2
            have z246 : q_ir (q_r f239 mo 13) sr := Eq.trans (hF.r hmo (by rw [kmo]; rfl)) hq_mo_13
            have z247 : q_ir (q_r f239 mo 24) hp := Eq.trans (hF.r hmo (by rw [kmo]; rfl)) hq_mo_24
            have z248 : q_ir (q_r f239 mo 25) dy := Eq.trans (hF.r hmo (by rw [kmo]; rfl)) hq_mo_25
            have z249 : q_ir (q_r f239 mo 16) aw := Eq.trans (hF.r hmo (by rw [kmo]; rfl)) hq_mo_16
            obtain ⟨x250, ex250⟩ : ∃ zz, q_is (q_z f239 sr 3) zz := ⟨_, q_isr _⟩
            obtain ⟨lx250, ux250⟩ := q_isb ex250 ⟨lz242, uz242⟩
            obtain ⟨x251, ex251⟩ : ∃ zz, q_is (q_z f239 sr 4) zz := ⟨_, q_isr _⟩
            obtain ⟨lx251, ux251⟩ := q_isb ex251 ⟨lz243, uz243⟩
            subst qy240
            refine q_iret cx hr hlk hB dX12_outIn_67 ⟨by decide, by decide⟩ ?_
            exact ⟨(by decide), (by decide), (q_isl ex250 (by omega)), (q_isu ex250 (by omega)), (q_isl ex251 (by omega)), (q_isu ex251 (by omega)), g244⟩
          · refine q_ild_n cx dX12_outIn_59 rfl (lv_at hl 2 rfl) ?_
            refine lv_goto (tgt := 64) cx.1 cx.2.1 dX12_outIn_60 (by decide) ?_
            refine q_cVi (As := [.int (q_i v22_2)]) (rest := []) cx hB (fun _ h => h) hN hmo kmo (by decide) rfl (r_comesBack l g hN hB.2.1 mo hmo kmo v22_2 (by omega) (by omega) sr hsr ksr aw haw kaw w22_aw_2 (by omega) (by omega) hj_aw_2 hq_mo_13 hq_mo_16) q_cX12_411 q_dX12_comesBack (by decide) rfl rfl hl.1 rfl (Nat.le_of_ble_eq_true rfl) dX12_outIn_64 (fun y253 H locs f252 ry253 h254 hF hB => ?_)
            obtain ⟨qy253, lz255, uz255, lz256, uz256, g257⟩ := h254
            have z258 : q_is (q_z f252 aw 2) w22_aw_2 := Eq.trans (hF.z haw (by rw [kaw]; rfl)) hj_aw_2
            have z259 : q_ir (q_r f252 mo 13) sr := Eq.trans (hF.r hmo (by rw [kmo]; rfl)) hq_mo_13
            have z260 : q_ir (q_r f252 mo 24) hp := Eq.trans (hF.r hmo (by rw [kmo]; rfl)) hq_mo_24
            have z261 : q_ir (q_r f252 mo 25) dy := Eq.trans (hF.r hmo (by rw [kmo]; rfl)) hq_mo_25
            have z262 : q_ir (q_r f252 mo 16) aw := Eq.trans (hF.r hmo (by rw [kmo]; rfl)) hq_mo_16
            obtain ⟨x263, ex263⟩ : ∃ zz, q_is (q_z f252 sr 3) zz := ⟨_, q_isr _⟩
            obtain ⟨lx263, ux263⟩ := q_isb ex263 ⟨lz255, uz255⟩
            obtain ⟨x264, ex264⟩ : ∃ zz, q_is (q_z f252 sr 4) zz := ⟨_, q_isr _⟩
            obtain ⟨lx264, ux264⟩ := q_isb ex264 ⟨lz256, uz256⟩
            refine q_iret cx hr hlk hB dX12_outIn_67 ⟨by omega, by omega⟩ ?_
            exact ⟨(by omega), (by omega), (q_isl ex263 (by omega)), (q_isu ex263 (by omega)), (q_isl ex264 (by omega)), (q_isu ex264 (by omega)), g257⟩
        · refine q_ild_n cx dX12_outIn_37 rfl (lv_at hl 3 rfl) ?_
          refine q_ald_n cx dX12_outIn_38 rfl (lv_at hl 0 rfl) ?_
          refine q_cVi (As := []) (rest := [.int (q_i v22_3)]) cx hB (fun _ h => h) hN hmo kmo (by decide) rfl (r_ticksOnce l g hN hB.2.1 mo hmo kmo sr hsr ksr hp hhp khp dy hdy kdy w22_sr_3 (by omega) (by omega) xm (by omega) (by omega) hj_sr_3 hj_sr_4 hq_mo_13 hq_mo_24 hq_mo_25 hgr22) q_cX12_338 q_dX12_ticksOnce (by decide) rfl rfl hl.1 rfl (Nat.le_of_ble_eq_true rfl) dX12_outIn_39 (fun y266 H locs f265 ry266 h267 hF hB => ?_)
          obtain ⟨z268, z269, g270⟩ := h267
          have z271 : q_is (q_z f265 sr 4) xm := Eq.trans (hF.z hsr (by rw [ksr]; rfl)) hj_sr_4
          have z272 : q_is (q_z f265 aw 2) w22_aw_2 := Eq.trans (hF.z haw (by rw [kaw]; rfl)) hj_aw_2
          have z273 : q_ir (q_r f265 mo 13) sr := Eq.trans (hF.r hmo (by rw [kmo]; rfl)) hq_mo_13
          have z274 : q_ir (q_r f265 mo 24) hp := Eq.trans (hF.r hmo (by rw [kmo]; rfl)) hq_mo_24
          have z275 : q_ir (q_r f265 mo 25) dy := Eq.trans (hF.r hmo (by rw [kmo]; rfl)) hq_mo_25
          have z276 : q_ir (q_r f265 mo 16) aw := Eq.trans (hF.r hmo (by rw [kmo]; rfl)) hq_mo_16
          refine q_iadd cx dX12_outIn_42 ?_
          refine q_any (fun y277 ry277 ey277 => ?_)
          refine lv_istore_n (lv' := [(3, .int (q_i y277)), (0, .ref mo), (1, .int (q_i a0)), (2, .int (q_i v22_2))]) cx.1 cx.2.1 dX12_outIn_43 rfl hl (by decide) rfl (fun ls hl => ?_)
          refine q_iinc (lv' := [(2, .int (q_i (v22_2 + 1))), (3, .int (q_i y277)), (0, .ref mo), (1, .int (q_i a0))]) cx dX12_outIn_44 hl (k := 3) rfl (by decide) rfl (fun ls hl => ?_)
          refine lv_goto (tgt := 22) cx.1 cx.2.1 dX12_outIn_47 (by decide) ?_
          exact ih22 f265 (v22_2 + 1) (by omega) (by omega) y277 (by omega) (by omega) w22_aw_2 (by omega) (by omega) (w22_sr_3 + 1) (by omega) (by omega) (by omega) (by omega) z269 z272 z268 z273 z274 z275 z276 g270 (by omega) (by omega) (by omega) H locs hB ls (lv_sub hl [2, 3, 0, 1] rfl)
  obtain ⟨H, hH⟩ : ∃ H : Heap, H = s.heap := ⟨_, rfl⟩
  obtain ⟨locs, hlocs⟩ : ∃ z : List Loc, z = [] := ⟨_, rfl⟩
  rw [← hH, ← hlocs] at hB
  rw [← hH, ← hlocs]
  refine q_ald_n cx dX12_outIn_0 rfl (lv_at hl 0 rfl) ?_
  refine q_ald_n cx dX12_outIn_1 rfl (lv_at hl 0 rfl) ?_
  refine q_ild_n cx dX12_outIn_2 rfl (lv_at hl 1 rfl) ?_
  refine q_cVi (As := [.int (q_i a0)]) (rest := [.ref mo]) cx hB (fun _ h => h) hN hmo kmo (by decide) rfl (r_isNode l g hN hB.2.1 mo hmo kmo a0 (by omega) (by omega) sr hsr ksr hr0) q_cX12_355 q_dX12_isNode (by decide) rfl rfl hl.1 rfl (Nat.le_of_ble_eq_true rfl) dX12_outIn_3 (fun y279 H locs f278 ry279 h280 hF hB => ?_)
  rcases h280 with h281 | h282
  · obtain ⟨rfl, qy279, t283, t284⟩ := h281
    subst qy279
    refine q_cVi (As := [.int (q_i 1)]) (rest := []) cx hB (fun _ h => h) hN hmo kmo (by decide) rfl (r_goes1 l g hN hB.2.1 mo hmo kmo 1 (by decide) (by decide)) q_cX12_85 q_dX12_goes (by decide) rfl rfl hl.1 rfl (Nat.le_of_ble_eq_true rfl) dX12_outIn_6 (fun y286 H locs f285 ry286 h287 hF hB => ?_)
    obtain ⟨qy286, z288⟩ := h287
    have z289 : q_is (q_z f285 sr 3) xt := Eq.trans (hF.z hsr (by rw [ksr]; rfl)) hf0
    have z290 : q_is (q_z f285 sr 4) xm := Eq.trans (hF.z hsr (by rw [ksr]; rfl)) hf1
    have z291 : q_ir (q_r f285 mo 13) sr := Eq.trans (hF.r hmo (by rw [kmo]; rfl)) hr0
    have z292 : q_ir (q_r f285 mo 24) hp := Eq.trans (hF.r hmo (by rw [kmo]; rfl)) hr1
    have z293 : q_ir (q_r f285 mo 25) dy := Eq.trans (hF.r hmo (by rw [kmo]; rfl)) hr2
    have z294 : q_ir (q_r f285 mo 16) aw := Eq.trans (hF.r hmo (by rw [kmo]; rfl)) hr3
    have g295 : q_gr f285 sr := q_gr_fr hgr (fun i9 _ => hF.z hsr (by rw [ksr]; rfl))
    subst qy286
    refine q_ifne (tgt := 14) cx ⟨by decide, by decide⟩ dX12_outIn_9 (by decide) (fun c296 => ?_) (fun c296 => ?_)
    · refine q_ald_n cx dX12_outIn_14 rfl (lv_at hl 0 rfl) ?_
      refine q_cVv (As := []) (rest := []) cx hB (fun _ h => h) hN hmo kmo (by decide) rfl (r_leaves l g hN hB.2.1 mo hmo kmo sr hsr ksr aw haw kaw xt (by omega) (by omega) xm (by omega) (by omega) z289 z290 z291 z294 g295) q_cX12_405 q_dX12_leaves (by decide) rfl rfl hl.1 rfl (Nat.le_of_ble_eq_true rfl) dX12_outIn_15 (fun H locs f297 h299 hF hB => ?_)
      obtain ⟨lz300, uz300⟩ := h299
      have z301 : q_is (q_z f297 sr 3) xt := Eq.trans (hF.z hsr (by rw [ksr]; rfl)) z289
      have z302 : q_is (q_z f297 sr 4) xm := Eq.trans (hF.z hsr (by rw [ksr]; rfl)) z290
      have z303 : q_is (q_z f297 mo 0) 0 := Eq.trans (hF.z hmo (by rw [kmo]; rfl)) z288
      have z304 : q_ir (q_r f297 mo 13) sr := Eq.trans (hF.r hmo (by rw [kmo]; rfl)) z291
      have z305 : q_ir (q_r f297 mo 24) hp := Eq.trans (hF.r hmo (by rw [kmo]; rfl)) z292
      have z306 : q_ir (q_r f297 mo 25) dy := Eq.trans (hF.r hmo (by rw [kmo]; rfl)) z293
      have z307 : q_ir (q_r f297 mo 16) aw := Eq.trans (hF.r hmo (by rw [kmo]; rfl)) z294
      have g308 : q_gr f297 sr := q_gr_fr g295 (fun i9 _ => hF.z hsr (by rw [ksr]; rfl))
      obtain ⟨x309, ex309⟩ : ∃ zz, q_is (q_z f297 aw 2) zz := ⟨_, q_isr _⟩
      obtain ⟨lx309, ux309⟩ := q_isb ex309 ⟨lz300, uz300⟩
      refine q_iconst cx dX12_outIn_18 ?_
      refine lv_istore_n (lv' := [(2, .int (q_i 0)), (0, .ref mo), (1, .int (q_i a0))]) cx.1 cx.2.1 dX12_outIn_19 rfl hl (by decide) rfl (fun ls hl => ?_)
      refine q_iconst cx dX12_outIn_20 ?_
      refine lv_istore_n (lv' := [(3, .int (q_i 0)), (2, .int (q_i 0)), (0, .ref mo), (1, .int (q_i a0))]) cx.1 cx.2.1 dX12_outIn_21 rfl hl (by decide) rfl (fun ls hl => ?_)
      exact J22 ((Int.toNat (201 - 0)) + 1) f297 0 (by decide) (by decide) 0 (by decide) (by decide) x309 (by omega) (by omega) xt (by omega) (by omega) (by omega) (by omega) z302 ex309 z301 z304 z305 z306 z307 g308 (by omega) (by omega) (Nat.lt_succ_self _) H locs hB ls (lv_sub hl [2, 3, 1, 0] rfl)
    · exact absurd c296 (by omega)
  · obtain ⟨rfl, qy279⟩ := h282
    subst qy279
    refine q_cVi (As := [.int (q_i 0)]) (rest := []) cx hB (fun _ h => h) hN hmo kmo (by decide) rfl (r_goes0 l g hN hB.2.1 mo hmo kmo 0 (by decide) (by decide)) q_cX12_85 q_dX12_goes (by decide) rfl rfl hl.1 rfl (Nat.le_of_ble_eq_true rfl) dX12_outIn_6 (fun y311 H locs f310 ry311 h312 hF hB => ?_)
    obtain ⟨qy311, z313⟩ := h312
    have z314 : q_is (q_z f310 sr 3) xt := Eq.trans (hF.z hsr (by rw [ksr]; rfl)) hf0
    have z315 : q_is (q_z f310 sr 4) xm := Eq.trans (hF.z hsr (by rw [ksr]; rfl)) hf1
    have z316 : q_ir (q_r f310 mo 13) sr := Eq.trans (hF.r hmo (by rw [kmo]; rfl)) hr0
    have z317 : q_ir (q_r f310 mo 24) hp := Eq.trans (hF.r hmo (by rw [kmo]; rfl)) hr1
    have z318 : q_ir (q_r f310 mo 25) dy := Eq.trans (hF.r hmo (by rw [kmo]; rfl)) hr2
    have z319 : q_ir (q_r f310 mo 16) aw := Eq.trans (hF.r hmo (by rw [kmo]; rfl)) hr3
    have g320 : q_gr f310 sr := q_gr_fr hgr (fun i9 _ => hF.z hsr (by rw [ksr]; rfl))
    subst qy311
    refine q_ifne (tgt := 14) cx ⟨by decide, by decide⟩ dX12_outIn_9 (by decide) (fun c321 => ?_) (fun c321 => ?_)
    · exact absurd c321 (by omega)
    · refine q_iconst cx dX12_outIn_12 ?_
      refine q_iret cx hr hlk hB dX12_outIn_13 ⟨by decide, by decide⟩ ?_
      exact ⟨(by decide), (by decide), (q_isl z314 (by omega)), (q_isu z314 (by omega)), (q_isl z315 (by omega)), (q_isu z315 (by omega)), g320⟩
