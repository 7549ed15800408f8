set_option maxHeartbeats 4000000 in
set_option maxRecDepth 100000 in
theorem r_lays (l : Launch) (g : q_G) {K : Nat → Nat} {L : List Nat} (hN : L.Nodup) {f : Nat → va_E} (hT : q_Ty g K L f) (mo : Nat) (hmo : mo ∈ L) (kmo : K mo = 12) (a0 : Int) (la0 : 0 ≤ a0) (ua0 : a0 ≤ 9) (b0 : Int) (lb0 : 0 ≤ b0) (ub0 : b0 ≤ 9) (c0 : Int) (lc0 : (-2147483648) ≤ c0) (uc0 : c0 ≤ 2147483647) (d0 : Int) (ld0 : 0 ≤ d0) (ud0 : d0 ≤ 1) (sr : Nat) (hsr : sr ∈ L) (ksr : K sr = 151) (xt : Int) (lxt : 0 ≤ xt) (uxt : xt ≤ 20000) (xm : Int) (lxm : 0 ≤ xm) (uxm : xm ≤ 60) (hf0 : q_is (q_z f sr 3) xt) (hf1 : q_is (q_z f sr 4) xm) (hr0 : q_ir (q_r f mo 13) sr) (hgr : q_gr f sr) : q_Ct l g K L yX12_lays cX12_lays 6 (some .int) 1 23 [.ref mo, .int (q_i a0), .int (q_i b0), .int (q_i c0), .int (q_i d0)] f [(151, 4, 4), (151, 170, 657)] (q_Pi (fun (z : Int) (f1 : Nat → va_E) => 0 ≤ z ∧ z ≤ 60 ∧ q_is (q_z f1 sr 4) (xm + 1) ∧ q_gr f1 sr)) := by
  refine q_ofb (by decide +kernel) hN hT (Nat.le_of_ble_eq_true rfl) ?_
  intro p e s m below meth c ls cx hr hlk hB hl
  have hl : lv_has ls 6 [(0, .ref mo), (1, .int (q_i a0)), (2, .int (q_i b0)), (3, .int (q_i c0)), (4, .int (q_i d0))] := hl
  obtain ⟨H, hH⟩ : ∃ H : Heap, H = s.heap := ⟨_, rfl⟩
  obtain ⟨locs, hlocs⟩ : ∃ z : List Loc, z = [] := ⟨_, rfl⟩
  rw [← hH, ← hlocs] at hB
  rw [← hH, ← hlocs]
  refine q_ald_n cx dX12_lays_0 rfl (lv_at hl 0 rfl) ?_
  refine q_gX12_20 cx hB hmo kmo hr0 dX12_lays_1 (fun hb108 kb108 => ?_)
  refine q_iconst cx dX12_lays_4 ?_
  refine q_iald (lo := (-2147483648)) (hi := 2147483647) (n := 658) cx hB hsr ksr (by decide) rfl rfl (by decide) (by decide) (by decide) rfl hf1 dX12_lays_5 (fun lb110 ub110 => ?_)
  refine lv_istore (lv' := [(5, .int (q_i xm)), (0, .ref mo), (1, .int (q_i a0)), (2, .int (q_i b0)), (3, .int (q_i c0)), (4, .int (q_i d0))]) cx.1 cx.2.1 dX12_lays_6 hl (by decide) rfl (fun ls hl => ?_)
  refine q_ald_n cx dX12_lays_8 rfl (lv_at hl 1 rfl) ?_
  refine lv_iload cx.1 cx.2.1 dX12_lays_9 (lv_at hl 0 rfl) ?_
  refine q_iconst cx dX12_lays_11 ?_
  refine q_ild_n cx dX12_lays_12 rfl (lv_at hl 2 rfl) ?_
  refine q_cVv (As := [.int (q_i xm), .int (q_i 0), .int (q_i a0)]) (rest := []) cx hB (fun _ h => h) hN hmo kmo (by decide) rfl (r_setsMessage0 l g hN hB.2.1 mo hmo kmo xm (by omega) (by omega) 0 (by decide) (by decide) a0 (by omega) (by omega) sr hsr ksr hr0 hgr) q_cX12_320 q_dX12_setsMessage (by decide) rfl rfl hl.1 rfl (Nat.le_of_ble_eq_true rfl) dX12_lays_13 (fun H locs f111 h113 hF hB => ?_)
  have g114 := h113
  have z115 : q_is (q_z f111 sr 3) xt := Eq.trans (hF.z hsr (by rw [ksr]; rfl)) hf0
  have z116 : q_is (q_z f111 sr 4) xm := Eq.trans (hF.z hsr (by rw [ksr]; rfl)) hf1
  have z117 : q_ir (q_r f111 mo 13) sr := Eq.trans (hF.r hmo (by rw [kmo]; rfl)) hr0
  refine q_ald_n cx dX12_lays_16 rfl (lv_at hl 1 rfl) ?_
  refine lv_iload cx.1 cx.2.1 dX12_lays_17 (lv_at hl 0 rfl) ?_
  refine q_iconst cx dX12_lays_19 ?_
  refine q_ild_n cx dX12_lays_20 rfl (lv_at hl 3 rfl) ?_
  refine q_cVv (As := [.int (q_i xm), .int (q_i 1), .int (q_i b0)]) (rest := []) cx hB (fun _ h => h) hN hmo kmo (by decide) rfl (r_setsMessage1 l g hN hB.2.1 mo hmo kmo xm (by omega) (by omega) 1 (by decide) (by decide) b0 (by omega) (by omega) sr hsr ksr z117 g114) q_cX12_320 q_dX12_setsMessage (by decide) rfl rfl hl.1 rfl (Nat.le_of_ble_eq_true rfl) dX12_lays_21 (fun H locs f118 h120 hF hB => ?_)
  have g121 := h120
  have z122 : q_is (q_z f118 sr 3) xt := Eq.trans (hF.z hsr (by rw [ksr]; rfl)) z115
  have z123 : q_is (q_z f118 sr 4) xm := Eq.trans (hF.z hsr (by rw [ksr]; rfl)) z116
  have z124 : q_ir (q_r f118 mo 13) sr := Eq.trans (hF.r hmo (by rw [kmo]; rfl)) z117
  refine q_ald_n cx dX12_lays_24 rfl (lv_at hl 1 rfl) ?_
  refine lv_iload cx.1 cx.2.1 dX12_lays_25 (lv_at hl 0 rfl) ?_
  refine q_iconst cx dX12_lays_27 ?_
  refine q_ild_n cx dX12_lays_28 rfl (lv_at hl 2 rfl) ?_
  refine q_cVv (As := [.int (q_i xm), .int (q_i 2), .int (q_i a0)]) (rest := []) cx hB (fun _ h => h) hN hmo kmo (by decide) rfl (r_setsMessage2 l g hN hB.2.1 mo hmo kmo xm (by omega) (by omega) 2 (by decide) (by decide) a0 (by omega) (by omega) sr hsr ksr z124 g121) q_cX12_320 q_dX12_setsMessage (by decide) rfl rfl hl.1 rfl (Nat.le_of_ble_eq_true rfl) dX12_lays_29 (fun H locs f125 h127 hF hB => ?_)
  have g128 := h127
  have z129 : q_is (q_z f125 sr 3) xt := Eq.trans (hF.z hsr (by rw [ksr]; rfl)) z122
  have z130 : q_is (q_z f125 sr 4) xm := Eq.trans (hF.z hsr (by rw [ksr]; rfl)) z123
  have z131 : q_ir (q_r f125 mo 13) sr := Eq.trans (hF.r hmo (by rw [kmo]; rfl)) z124
  refine q_ald_n cx dX12_lays_32 rfl (lv_at hl 1 rfl) ?_
  refine lv_iload cx.1 cx.2.1 dX12_lays_33 (lv_at hl 0 rfl) ?_
  refine q_iconst cx dX12_lays_35 ?_
  refine q_iconst cx dX12_lays_36 ?_
  refine q_cVv (As := [.int (q_i xm), .int (q_i 3), .int (q_i 0)]) (rest := []) cx hB (fun _ h => h) hN hmo kmo (by decide) rfl (r_setsMessage3 l g hN hB.2.1 mo hmo kmo xm (by omega) (by omega) 3 (by decide) (by decide) 0 (by decide) (by decide) sr hsr ksr z131 g128) q_cX12_320 q_dX12_setsMessage (by decide) rfl rfl hl.1 rfl (Nat.le_of_ble_eq_true rfl) dX12_lays_37 (fun H locs f132 h134 hF hB => ?_)
  have g135 := h134
  have z136 : q_is (q_z f132 sr 3) xt := Eq.trans (hF.z hsr (by rw [ksr]; rfl)) z129
  have z137 : q_is (q_z f132 sr 4) xm := Eq.trans (hF.z hsr (by rw [ksr]; rfl)) z130
  have z138 : q_ir (q_r f132 mo 13) sr := Eq.trans (hF.r hmo (by rw [kmo]; rfl)) z131
  refine q_ald_n cx dX12_lays_40 rfl (lv_at hl 1 rfl) ?_
  refine lv_iload cx.1 cx.2.1 dX12_lays_41 (lv_at hl 0 rfl) ?_
  refine q_iconst cx dX12_lays_43 ?_
  refine q_ald_n cx dX12_lays_44 rfl (lv_at hl 1 rfl) ?_
  refine q_gX12_20 cx hB hmo kmo z138 dX12_lays_45 (fun hb139 kb139 => ?_)
  refine q_iconst cx dX12_lays_48 ?_
  refine q_iald (lo := (-2147483648)) (hi := 2147483647) (n := 658) cx hB hsr ksr (by decide) rfl rfl (by decide) (by decide) (by decide) rfl z136 dX12_lays_49 (fun lb141 ub141 => ?_)
  refine q_ild_n cx dX12_lays_50 rfl (lv_at hl 4 rfl) ?_
  refine q_iadd cx dX12_lays_51 ?_
  refine q_any (fun y142 ry142 ey142 => ?_)
  refine q_cVv (As := [.int (q_i xm), .int (q_i 4), .int (q_i y142)]) (rest := []) cx hB (fun _ h => h) hN hmo kmo (by decide) rfl (r_setsMessage4 l g hN hB.2.1 mo hmo kmo xm (by omega) (by omega) 4 (by decide) (by decide) y142 (by omega) (by omega) sr hsr ksr z138 g135) q_cX12_320 q_dX12_setsMessage (by decide) rfl rfl hl.1 rfl (Nat.le_of_ble_eq_true rfl) dX12_lays_52 (fun H locs f143 h145 hF hB => ?_)
  have g146 := h145
  have z147 : q_is (q_z f143 sr 3) xt := Eq.trans (hF.z hsr (by rw [ksr]; rfl)) z136
  have z148 : q_is (q_z f143 sr 4) xm := Eq.trans (hF.z hsr (by rw [ksr]; rfl)) z137
  have z149 : q_ir (q_r f143 mo 13) sr := Eq.trans (hF.r hmo (by rw [kmo]; rfl)) z138
  refine q_ald_n cx dX12_lays_55 rfl (lv_at hl 1 rfl) ?_
  refine lv_iload cx.1 cx.2.1 dX12_lays_56 (lv_at hl 0 rfl) ?_
  refine q_iconst cx dX12_lays_58 ?_
  refine lv_iload cx.1 cx.2.1 dX12_lays_59 (lv_at hl 5 rfl) ?_
  by_cases c150 : d0 ≤ 0
  · refine q_cSi (As := [.int (q_i d0)]) (rest := [.int (q_i 5), .int (q_i xm), .ref mo]) cx hB (fun _ h => h) hN (r_truth0 l g hN hB.2.1 d0 (by omega) (by omega)) q_cX12_78 q_dX12_truth (by decide) rfl rfl hl.1 rfl (Nat.le_of_ble_eq_true rfl) dX12_lays_61 (fun y152 H locs f151 ry152 h153 hF hB => ?_)
    obtain ⟨rfl, qy152⟩ := h153
    subst qy152
    refine q_cVv (As := [.int (q_i xm), .int (q_i 5), .int (q_i 0)]) (rest := []) cx hB (fun _ h => h) hN hmo kmo (by decide) rfl (r_setsMessage5 l g hN hB.2.1 mo hmo kmo xm (by omega) (by omega) 5 (by decide) (by decide) 0 (by decide) (by decide) sr hsr ksr z149 g146) q_cX12_320 q_dX12_setsMessage (by decide) rfl rfl hl.1 rfl (Nat.le_of_ble_eq_true rfl) dX12_lays_64 (fun H locs f154 h156 hF hB => ?_)
    have g157 := h156
    have z158 : q_is (q_z f154 sr 3) xt := Eq.trans (hF.z hsr (by rw [ksr]; rfl)) z147
    have z159 : q_is (q_z f154 sr 4) xm := Eq.trans (hF.z hsr (by rw [ksr]; rfl)) z148
    have z160 : q_ir (q_r f154 mo 13) sr := Eq.trans (hF.r hmo (by rw [kmo]; rfl)) z149
    refine q_ald_n cx dX12_lays_67 rfl (lv_at hl 1 rfl) ?_
    refine lv_iload cx.1 cx.2.1 dX12_lays_68 (lv_at hl 0 rfl) ?_
    refine q_bipush cx dX12_lays_70 rfl ?_
    refine q_iconst cx dX12_lays_72 ?_
    refine q_cVv (As := [.int (q_i xm), .int (q_i 6), .int (q_i (-1))]) (rest := []) cx hB (fun _ h => h) hN hmo kmo (by decide) rfl (r_setsMessage6 l g hN hB.2.1 mo hmo kmo xm (by omega) (by omega) 6 (by decide) (by decide) (-1) (by decide) (by decide) sr hsr ksr z160 g157) q_cX12_320 q_dX12_setsMessage (by decide) rfl rfl hl.1 rfl (Nat.le_of_ble_eq_true rfl) dX12_lays_73 (fun H locs f161 h163 hF hB => ?_)
    have g164 := h163
    have z165 : q_is (q_z f161 sr 3) xt := Eq.trans (hF.z hsr (by rw [ksr]; rfl)) z158
    have z166 : q_is (q_z f161 sr 4) xm := Eq.trans (hF.z hsr (by rw [ksr]; rfl)) z159
    have z167 : q_ir (q_r f161 mo 13) sr := Eq.trans (hF.r hmo (by rw [kmo]; rfl)) z160
    refine q_ald_n cx dX12_lays_76 rfl (lv_at hl 1 rfl) ?_
    refine lv_iload cx.1 cx.2.1 dX12_lays_77 (lv_at hl 0 rfl) ?_
    refine q_bipush cx dX12_lays_79 rfl ?_
    refine q_iconst cx dX12_lays_81 ?_
    refine q_cVv (As := [.int (q_i xm), .int (q_i 7), .int (q_i 0)]) (rest := []) cx hB (fun _ h => h) hN hmo kmo (by decide) rfl (r_setsMessage7 l g hN hB.2.1 mo hmo kmo xm (by omega) (by omega) 7 (by decide) (by decide) 0 (by decide) (by decide) sr hsr ksr z167 g164) q_cX12_320 q_dX12_setsMessage (by decide) rfl rfl hl.1 rfl (Nat.le_of_ble_eq_true rfl) dX12_lays_82 (fun H locs f168 h170 hF hB => ?_)
    have g171 := h170
    have z172 : q_is (q_z f168 sr 3) xt := Eq.trans (hF.z hsr (by rw [ksr]; rfl)) z165
    have z173 : q_is (q_z f168 sr 4) xm := Eq.trans (hF.z hsr (by rw [ksr]; rfl)) z166
    have z174 : q_ir (q_r f168 mo 13) sr := Eq.trans (hF.r hmo (by rw [kmo]; rfl)) z167
    refine q_ald_n cx dX12_lays_85 rfl (lv_at hl 1 rfl) ?_
    refine q_gX12_20 cx hB hmo kmo z174 dX12_lays_86 (fun hb175 kb175 => ?_)
    refine q_iconst cx dX12_lays_89 ?_
    refine lv_dup2_11 cx.1 cx.2.1 dX12_lays_90 rfl rfl ?_
    refine q_iald (lo := (-2147483648)) (hi := 2147483647) (n := 658) cx hB hsr ksr (by decide) rfl rfl (by decide) (by decide) (by decide) rfl z173 dX12_lays_91 (fun lb177 ub177 => ?_)
    refine q_iconst cx dX12_lays_92 ?_
    refine q_iadd cx dX12_lays_93 ?_
    refine q_sast cx hB hsr ksr (by decide) (by decide) ⟨by omega, by omega⟩ rfl dX12_lays_94 (fun H locs f178 ef178 z179 hB => ?_)
    have z180 : q_is (q_z f178 sr 3) xt := by rw [ef178, q_setz (Or.inr (by decide))]; exact z172
    have z181 : q_ir (q_r f178 mo 13) sr := by rw [ef178, q_setr (Or.inr (by decide))]; exact z174
    have g182 : q_gr f178 sr := q_gr_put g171 ef178 z179 rfl (by omega) (by omega)
    refine lv_iload cx.1 cx.2.1 dX12_lays_95 (lv_at hl 0 rfl) ?_
    refine q_iret cx hr hlk hB dX12_lays_97 ⟨by omega, by omega⟩ ?_
    exact ⟨(by omega), (by omega), z179, g182⟩
  · refine q_cSi (As := [.int (q_i d0)]) (rest := [.int (q_i 5), .int (q_i xm), .ref mo]) cx hB (fun _ h => h) hN (r_truth1 l g hN hB.2.1 d0 (by omega) (by omega)) q_cX12_78 q_dX12_truth (by decide) rfl rfl hl.1 rfl (Nat.le_of_ble_eq_true rfl) dX12_lays_61 (fun y184 H locs f183 ry184 h185 hF hB => ?_)
    obtain ⟨rfl, qy184⟩ := h185
    subst qy184
    refine q_cVv (As := [.int (q_i xm), .int (q_i 5), .int (q_i 1)]) (rest := []) cx hB (fun _ h => h) hN hmo kmo (by decide) rfl (r_setsMessage5 l g hN hB.2.1 mo hmo kmo xm (by omega) (by omega) 5 (by decide) (by decide) 1 (by decide) (by decide) sr hsr ksr z149 g146) q_cX12_320 q_dX12_setsMessage (by decide) rfl rfl hl.1 rfl (Nat.le_of_ble_eq_true rfl) dX12_lays_64 (fun H locs f186 h188 hF hB => ?_)
    have g189 := h188
    have z190 : q_is (q_z f186 sr 3) xt := Eq.trans (hF.z hsr (by rw [ksr]; rfl)) z147
    have z191 : q_is (q_z f186 sr 4) xm := Eq.trans (hF.z hsr (by rw [ksr]; rfl)) z148
    have z192 : q_ir (q_r f186 mo 13) sr := Eq.trans (hF.r hmo (by rw [kmo]; rfl)) z149
    refine q_ald_n cx dX12_lays_67 rfl (lv_at hl 1 rfl) ?_
    refine lv_iload cx.1 cx.2.1 dX12_lays_68 (lv_at hl 0 rfl) ?_
    refine q_bipush cx dX12_lays_70 rfl ?_
    refine q_iconst cx dX12_lays_72 ?_
    refine q_cVv (As := [.int (q_i xm), .int (q_i 6), .int (q_i (-1))]) (rest := []) cx hB (fun _ h => h) hN hmo kmo (by decide) rfl (r_setsMessage6 l g hN hB.2.1 mo hmo kmo xm (by omega) (by omega) 6 (by decide) (by decide) (-1) (by decide) (by decide) sr hsr ksr z192 g189) q_cX12_320 q_dX12_setsMessage (by decide) rfl rfl hl.1 rfl (Nat.le_of_ble_eq_true rfl) dX12_lays_73 (fun H locs f193 h195 hF hB => ?_)
    have g196 := h195
    have z197 : q_is (q_z f193 sr 3) xt := Eq.trans (hF.z hsr (by rw [ksr]; rfl)) z190
    have z198 : q_is (q_z f193 sr 4) xm := Eq.trans (hF.z hsr (by rw [ksr]; rfl)) z191
    have z199 : q_ir (q_r f193 mo 13) sr := Eq.trans (hF.r hmo (by rw [kmo]; rfl)) z192
    refine q_ald_n cx dX12_lays_76 rfl (lv_at hl 1 rfl) ?_
    refine lv_iload cx.1 cx.2.1 dX12_lays_77 (lv_at hl 0 rfl) ?_
    refine q_bipush cx dX12_lays_79 rfl ?_
    refine q_iconst cx dX12_lays_81 ?_
    refine q_cVv (As := [.int (q_i xm), .int (q_i 7), .int (q_i 0)]) (rest := []) cx hB (fun _ h => h) hN hmo kmo (by decide) rfl (r_setsMessage7 l g hN hB.2.1 mo hmo kmo xm (by omega) (by omega) 7 (by decide) (by decide) 0 (by decide) (by decide) sr hsr ksr z199 g196) q_cX12_320 q_dX12_setsMessage (by decide) rfl rfl hl.1 rfl (Nat.le_of_ble_eq_true rfl) dX12_lays_82 (fun H locs f200 h202 hF hB => ?_)
    have g203 := h202
    have z204 : q_is (q_z f200 sr 3) xt := Eq.trans (hF.z hsr (by rw [ksr]; rfl)) z197
    have z205 : q_is (q_z f200 sr 4) xm := Eq.trans (hF.z hsr (by rw [ksr]; rfl)) z198
    have z206 : q_ir (q_r f200 mo 13) sr := Eq.trans (hF.r hmo (by rw [kmo]; rfl)) z199
    refine q_ald_n cx dX12_lays_85 rfl (lv_at hl 1 rfl) ?_
    refine q_gX12_20 cx hB hmo kmo z206 dX12_lays_86 (fun hb207 kb207 => ?_)
    refine q_iconst cx dX12_lays_89 ?_
    refine lv_dup2_11 cx.1 cx.2.1 dX12_lays_90 rfl rfl ?_
    refine q_iald (lo := (-2147483648)) (hi := 2147483647) (n := 658) cx hB hsr ksr (by decide) rfl rfl (by decide) (by decide) (by decide) rfl z205 dX12_lays_91 (fun lb209 ub209 => ?_)
    refine q_iconst cx dX12_lays_92 ?_
    refine q_iadd cx dX12_lays_93 ?_
    refine q_sast cx hB hsr ksr (by decide) (by decide) ⟨by omega, by omega⟩ rfl dX12_lays_94 (fun H locs f210 ef210 z211 hB => ?_)
    have z212 : q_is (q_z f210 sr 3) xt := by rw [ef210, q_setz (Or.inr (by decide))]; exact z204
    have z213 : q_ir (q_r f210 mo 13) sr := by rw [ef210, q_setr (Or.inr (by decide))]; exact z206
    have g214 : q_gr f210 sr := q_gr_put g203 ef210 z211 rfl (by omega) (by omega)
    refine lv_iload cx.1 cx.2.1 dX12_lays_95 (lv_at hl 0 rfl) ?_
    refine q_iret cx hr hlk hB dX12_lays_97 ⟨by omega, by omega⟩ ?_
    exact ⟨(by omega), (by omega), z211, g214⟩
set_option maxHeartbeats 4000000 in
set_option maxRecDepth 100000 in
theorem r_byMessage (l : Launch) (g : q_G) {K : Nat → Nat} {L : List Nat} (hN : L.Nodup) {f : Nat → va_E} (hT : q_Ty g K L f) (mo : Nat) (hmo : mo ∈ L) (kmo : K mo = 12) (a0 : Int) (la0 : 0 ≤ a0) (ua0 : a0 ≤ 9) (b0 : Int) (lb0 : 0 ≤ b0) (ub0 : b0 ≤ 9) (c0 : Int) (lc0 : 0 ≤ c0) (uc0 : c0 ≤ 1) (sr : Nat) (hsr : sr ∈ L) (ksr : K sr = 151) (hp : Nat) (hhp : hp ∈ L) (khp : K hp = 159) (dy : Nat) (hdy : dy ∈ L) (kdy : K dy = 160) (aw : Nat) (haw : aw ∈ L) (kaw : K aw = 154) (xt : Int) (lxt : 0 ≤ xt) (uxt : xt ≤ 9999) (xm : Int) (lxm : 0 ≤ xm) (uxm : xm ≤ 60) (xc : Int) (lxc : 0 ≤ xc) (uxc : xc ≤ 10) (xy : Int) (lxy : 4 ≤ xy) (uxy : xy ≤ 60) (hf0 : q_is (q_z f sr 3) xt) (hf1 : q_is (q_z f sr 4) xm) (hf2 : q_is (q_z f sr 0) xc) (hf3 : q_is (q_z f aw 2) xy) (hf4 : q_is (q_z f aw 0) xc) (hr0 : q_ir (q_r f mo 13) sr) (hr1 : q_ir (q_r f mo 24) hp) (hr2 : q_ir (q_r f mo 25) dy) (hr3 : q_ir (q_r f mo 16) aw) (hgr : q_gr f sr) : q_Ct l g K L yX12_byMessage cX12_byMessage 5 (some .int) 10 228 [.ref mo, .int (q_i a0), .int (q_i b0), .int (q_i c0)] f [(12, 26, 28), (151, 0, 657), (159, 0, 9), (160, 0, 9)] (q_Pi (fun (z : Int) (f1 : Nat → va_E) => (-1) ≤ z ∧ z ≤ 200 ∧ 0 ≤ q_z f1 sr 3 ∧ q_z f1 sr 3 ≤ 9999 ∧ 0 ≤ q_z f1 sr 4 ∧ q_z f1 sr 4 ≤ 60 ∧ q_is (q_z f1 sr 0) xc ∧ q_gr f1 sr)) := by
  refine q_ofb (by decide +kernel) hN hT (Nat.le_of_ble_eq_true rfl) ?_
  intro p e s m below meth c ls cx hr hlk hB hl
  have hl : lv_has ls 5 [(0, .ref mo), (1, .int (q_i a0)), (2, .int (q_i b0)), (3, .int (q_i c0))] := hl
  obtain ⟨H, hH⟩ : ∃ H : Heap, H = s.heap := ⟨_, rfl⟩
  obtain ⟨locs, hlocs⟩ : ∃ z : List Loc, z = [] := ⟨_, rfl⟩
  rw [← hH, ← hlocs] at hB
  rw [← hH, ← hlocs]
  refine q_ald_n cx dX12_byMessage_0 rfl (lv_at hl 0 rfl) ?_
  refine q_ild_n cx dX12_byMessage_1 rfl (lv_at hl 1 rfl) ?_
  refine q_ild_n cx dX12_byMessage_2 rfl (lv_at hl 2 rfl) ?_
  refine q_cVi (As := [.int (q_i a0), .int (q_i b0)]) (rest := []) cx hB (fun _ h => h) hN hmo kmo (by decide) rfl (r_areIn l g hN hB.2.1 mo hmo kmo a0 (by omega) (by omega) b0 (by omega) (by omega) sr hsr ksr hr0 hgr) q_cX12_414 q_dX12_areIn (by decide) rfl rfl hl.1 rfl (Nat.le_of_ble_eq_true rfl) dX12_byMessage_3 (fun y62 H locs f61 ry62 h63 hF hB => ?_)
  obtain ⟨rfl, ly62, uy62⟩ := h63
  refine q_ifne (tgt := 15) cx ⟨by omega, by omega⟩ dX12_byMessage_6 (by decide) (fun c64 => ?_) (fun c64 => ?_)
  · refine q_ald_n cx dX12_byMessage_15 rfl (lv_at hl 0 rfl) ?_
    refine q_ild_n cx dX12_byMessage_16 rfl (lv_at hl 1 rfl) ?_
    refine q_ild_n cx dX12_byMessage_17 rfl (lv_at hl 2 rfl) ?_
    refine q_iconst cx dX12_byMessage_18 ?_
    refine q_ild_n cx dX12_byMessage_19 rfl (lv_at hl 3 rfl) ?_
    refine q_cVi (As := [.int (q_i a0), .int (q_i b0), .int (q_i 0), .int (q_i c0)]) (rest := []) cx hB (fun _ h => h) hN hmo kmo (by decide) rfl (r_lays l g hN hB.2.1 mo hmo kmo a0 (by omega) (by omega) b0 (by omega) (by omega) 0 (by decide) (by decide) c0 (by omega) (by omega) sr hsr ksr xt (by omega) (by omega) xm (by omega) (by omega) hf0 hf1 hr0 hgr) q_cX12_417 q_dX12_lays (by decide) rfl rfl hl.1 rfl (Nat.le_of_ble_eq_true rfl) dX12_byMessage_20 (fun y66 H locs f65 ry66 h67 hF hB => ?_)
    obtain ⟨ly66, uy66, z68, g69⟩ := h67
    have z70 : q_is (q_z f65 sr 3) xt := Eq.trans (hF.z hsr (by rw [ksr]; rfl)) hf0
    have z71 : q_is (q_z f65 sr 0) xc := Eq.trans (hF.z hsr (by rw [ksr]; rfl)) hf2
    have z72 : q_is (q_z f65 aw 2) xy := Eq.trans (hF.z haw (by rw [kaw]; rfl)) hf3
    have z73 : q_is (q_z f65 aw 0) xc := Eq.trans (hF.z haw (by rw [kaw]; rfl)) hf4
    have z74 : q_ir (q_r f65 mo 13) sr := Eq.trans (hF.r hmo (by rw [kmo]; rfl)) hr0
    have z75 : q_ir (q_r f65 mo 24) hp := Eq.trans (hF.r hmo (by rw [kmo]; rfl)) hr1
    have z76 : q_ir (q_r f65 mo 25) dy := Eq.trans (hF.r hmo (by rw [kmo]; rfl)) hr2
    have z77 : q_ir (q_r f65 mo 16) aw := Eq.trans (hF.r hmo (by rw [kmo]; rfl)) hr3
    refine lv_istore (lv' := [(4, .int (q_i y66)), (0, .ref mo), (1, .int (q_i a0)), (2, .int (q_i b0)), (3, .int (q_i c0))]) cx.1 cx.2.1 dX12_byMessage_23 hl (by decide) rfl (fun ls hl => ?_)
    refine q_ald_n cx dX12_byMessage_25 rfl (lv_at hl 1 rfl) ?_
    refine q_ald_n cx dX12_byMessage_26 rfl (lv_at hl 1 rfl) ?_
    refine lv_iload cx.1 cx.2.1 dX12_byMessage_27 (lv_at hl 0 rfl) ?_
    refine q_cVi (As := [.int (q_i y66)]) (rest := [.ref mo]) cx hB (fun _ h => h) hN hmo kmo (by decide) rfl (r_there l g hN hB.2.1 mo hmo kmo y66 (by omega) (by omega) sr hsr ksr hp hhp khp dy hdy kdy xt (by omega) (by omega) (xm + 1) (by omega) (by omega) z70 z68 z74 z75 z76 g69) q_cX12_408 q_dX12_there (by decide) rfl rfl hl.1 rfl (Nat.le_of_ble_eq_true rfl) dX12_byMessage_29 (fun y79 H locs f78 ry79 h80 hF hB => ?_)
    obtain ⟨ly79, uy79, z81, g82⟩ := h80
    have z83 : q_is (q_z f78 sr 0) xc := Eq.trans (hF.z hsr (by rw [ksr]; rfl)) z71
    have z84 : q_is (q_z f78 aw 2) xy := Eq.trans (hF.z haw (by rw [kaw]; rfl)) z72
    have z85 : q_is (q_z f78 aw 0) xc := Eq.trans (hF.z haw (by rw [kaw]; rfl)) z73
    have z86 : q_is (q_z f78 sr 4) (xm + 1) := Eq.trans (hF.z hsr (by rw [ksr]; rfl)) z68
    have z87 : q_ir (q_r f78 mo 13) sr := Eq.trans (hF.r hmo (by rw [kmo]; rfl)) z74
    have z88 : q_ir (q_r f78 mo 24) hp := Eq.trans (hF.r hmo (by rw [kmo]; rfl)) z75
    have z89 : q_ir (q_r f78 mo 25) dy := Eq.trans (hF.r hmo (by rw [kmo]; rfl)) z76
    have z90 : q_ir (q_r f78 mo 16) aw := Eq.trans (hF.r hmo (by rw [kmo]; rfl)) z77
    refine q_cVi (As := [.int (q_i y79)]) (rest := []) cx hB (fun _ h => h) hN hmo kmo (by decide) rfl (r_comesBack l g hN hB.2.1 mo hmo kmo y79 (by omega) (by omega) sr hsr ksr aw haw kaw xy (by omega) (by omega) xc (by omega) (by omega) z84 z85 z87 z90) q_cX12_411 q_dX12_comesBack (by decide) rfl rfl hl.1 rfl (Nat.le_of_ble_eq_true rfl) dX12_byMessage_32 (fun y92 H locs f91 ry92 h93 hF hB => ?_)
    obtain ⟨qy92, lz94, uz94, lz95, uz95, z96, g97⟩ := h93
    have z98 : q_is (q_z f91 aw 2) xy := Eq.trans (hF.z haw (by rw [kaw]; rfl)) z84
    have z99 : q_is (q_z f91 aw 0) xc := Eq.trans (hF.z haw (by rw [kaw]; rfl)) z85
    have z100 : q_ir (q_r f91 mo 13) sr := Eq.trans (hF.r hmo (by rw [kmo]; rfl)) z87
    have z101 : q_ir (q_r f91 mo 24) hp := Eq.trans (hF.r hmo (by rw [kmo]; rfl)) z88
    have z102 : q_ir (q_r f91 mo 25) dy := Eq.trans (hF.r hmo (by rw [kmo]; rfl)) z89
    have z103 : q_ir (q_r f91 mo 16) aw := Eq.trans (hF.r hmo (by rw [kmo]; rfl)) z90
    obtain ⟨x104, ex104⟩ : ∃ zz, q_is (q_z f91 sr 3) zz := ⟨_, q_isr _⟩
    obtain ⟨lx104, ux104⟩ := q_isb ex104 ⟨lz94, uz94⟩
    obtain ⟨x105, ex105⟩ : ∃ zz, q_is (q_z f91 sr 4) zz := ⟨_, q_isr _⟩
    obtain ⟨lx105, ux105⟩ := q_isb ex105 ⟨lz95, uz95⟩
    refine q_iret cx hr hlk hB dX12_byMessage_35 ⟨by omega, by omega⟩ ?_
    exact ⟨(by omega), (by omega), (q_isl ex104 (by omega)), (q_isu ex104 (by omega)), (q_isl ex105 (by omega)), (q_isu ex105 (by omega)), z96, g97⟩
  · refine q_ald_n cx dX12_byMessage_9 rfl (lv_at hl 0 rfl) ?_
    refine q_iconst cx dX12_byMessage_10 ?_
    refine q_cVi (As := [.int (q_i (-1))]) (rest := []) cx hB (fun _ h => h) hN hmo kmo (by decide) rfl (r_comesBack l g hN hB.2.1 mo hmo kmo (-1) (by decide) (by decide) sr hsr ksr aw haw kaw xy (by omega) (by omega) xc (by omega) (by omega) hf3 hf4 hr0 hr3) q_cX12_411 q_dX12_comesBack (by decide) rfl rfl hl.1 rfl (Nat.le_of_ble_eq_true rfl) dX12_byMessage_11 (fun y107 H locs f106 ry107 h108 hF hB => ?_)
    obtain ⟨qy107, lz109, uz109, lz110, uz110, z111, g112⟩ := h108
    have z113 : q_is (q_z f106 aw 2) xy := Eq.trans (hF.z haw (by rw [kaw]; rfl)) hf3
    have z114 : q_is (q_z f106 aw 0) xc := Eq.trans (hF.z haw (by rw [kaw]; rfl)) hf4
    have z115 : q_ir (q_r f106 mo 13) sr := Eq.trans (hF.r hmo (by rw [kmo]; rfl)) hr0
    have z116 : q_ir (q_r f106 mo 24) hp := Eq.trans (hF.r hmo (by rw [kmo]; rfl)) hr1
    have z117 : q_ir (q_r f106 mo 25) dy := Eq.trans (hF.r hmo (by rw [kmo]; rfl)) hr2
    have z118 : q_ir (q_r f106 mo 16) aw := Eq.trans (hF.r hmo (by rw [kmo]; rfl)) hr3
    obtain ⟨x119, ex119⟩ : ∃ zz, q_is (q_z f106 sr 3) zz := ⟨_, q_isr _⟩
    obtain ⟨lx119, ux119⟩ := q_isb ex119 ⟨lz109, uz109⟩
    obtain ⟨x120, ex120⟩ : ∃ zz, q_is (q_z f106 sr 4) zz := ⟨_, q_isr _⟩
    obtain ⟨lx120, ux120⟩ := q_isb ex120 ⟨lz110, uz110⟩
    subst qy107
    refine q_iret cx hr hlk hB dX12_byMessage_14 ⟨by decide, by decide⟩ ?_
    exact ⟨(by decide), (by decide), (q_isl ex119 (by omega)), (q_isu ex119 (by omega)), (q_isl ex120 (by omega)), (q_isu ex120 (by omega)), z111, g112⟩
set_option maxHeartbeats 4000000 in
set_option maxRecDepth 100000 in
theorem r_arrives (l : Launch) (g : q_G) {K : Nat → Nat} {L : List Nat} (hN : L.Nodup) {f : Nat → va_E} (hT : q_Ty g K L f) (mo : Nat) (hmo : mo ∈ L) (kmo : K mo = 12) (a0 : Int) (la0 : (-2147483648) ≤ a0) (ua0 : a0 ≤ 2147483647) (sr : Nat) (hsr : sr ∈ L) (ksr : K sr = 151) (hp : Nat) (hhp : hp ∈ L) (khp : K hp = 159) (dy : Nat) (hdy : dy ∈ L) (kdy : K dy = 160) (aw : Nat) (haw : aw ∈ L) (kaw : K aw = 154) (xt : Int) (lxt : 0 ≤ xt) (uxt : xt ≤ 9999) (xm : Int) (lxm : 0 ≤ xm) (uxm : xm ≤ 60) (xc : Int) (lxc : 0 ≤ xc) (uxc : xc ≤ 10) (hf0 : q_is (q_z f sr 3) xt) (hf1 : q_is (q_z f sr 4) xm) (hf2 : q_is (q_z f sr 0) xc) (hr0 : q_ir (q_r f mo 13) sr) (hr1 : q_ir (q_r f mo 24) hp) (hr2 : q_ir (q_r f mo 25) dy) (hr3 : q_ir (q_r f mo 16) aw) (hgr : q_gr f sr) : q_Ct l g K L yX12_arrives cX12_arrives 2 (some .int) 10 228 [.ref mo, .int (q_i a0)] f [(12, 0, 0), (12, 26, 28), (151, 0, 657), (154, 0, 657), (159, 0, 9), (160, 0, 9)] (q_Pi (fun (z : Int) (f1 : Nat → va_E) => (-1) ≤ z ∧ z ≤ 200 ∧ 0 ≤ q_z f1 sr 3 ∧ q_z f1 sr 3 ≤ 9999 ∧ 0 ≤ q_z f1 sr 4 ∧ q_z f1 sr 4 ≤ 60 ∧ q_is (q_z f1 sr 0) xc ∧ q_gr f1 sr)) := by
  refine q_ofb (by decide +kernel) hN hT (Nat.le_of_ble_eq_true rfl) ?_
  intro p e s m below meth c ls cx hr hlk hB hl
  have hl : lv_has ls 2 [(0, .ref mo), (1, .int (q_i a0))] := hl
  obtain ⟨H, hH⟩ : ∃ H : Heap, H = s.heap := ⟨_, rfl⟩
  obtain ⟨locs, hlocs⟩ : ∃ z : List Loc, z = [] := ⟨_, rfl⟩
  rw [← hH, ← hlocs] at hB
  rw [← hH, ← hlocs]
  refine q_ald_n cx dX12_arrives_0 rfl (lv_at hl 0 rfl) ?_
  refine q_ald_n cx dX12_arrives_1 rfl (lv_at hl 0 rfl) ?_
  refine q_ild_n cx dX12_arrives_2 rfl (lv_at hl 1 rfl) ?_
  refine q_cVi (As := [.int (q_i a0)]) (rest := [.ref mo]) cx hB (fun _ h => h) hN hmo kmo (by decide) rfl (r_isMessage l g hN hB.2.1 mo hmo kmo a0 (by omega) (by omega) sr hsr ksr xm (by omega) (by omega) hf1 hr0 hgr) q_cX12_373 q_dX12_isMessage (by decide) rfl rfl hl.1 rfl (Nat.le_of_ble_eq_true rfl) dX12_arrives_3 (fun y80 H locs f79 ry80 h81 hF hB => ?_)
  rcases h81 with h82 | h83
  · obtain ⟨rfl, qy80, t84, t85⟩ := h82
    subst qy80
    refine q_cVi (As := [.int (q_i 1)]) (rest := []) cx hB (fun _ h => h) hN hmo kmo (by decide) rfl (r_goes1 l g hN hB.2.1 mo hmo kmo 1 (by decide) (by decide)) q_cX12_85 q_dX12_goes (by decide) rfl rfl hl.1 rfl (Nat.le_of_ble_eq_true rfl) dX12_arrives_6 (fun y87 H locs f86 ry87 h88 hF hB => ?_)
    obtain ⟨qy87, z89⟩ := h88
    have z90 : q_is (q_z f86 sr 3) xt := Eq.trans (hF.z hsr (by rw [ksr]; rfl)) hf0
    have z91 : q_is (q_z f86 sr 4) xm := Eq.trans (hF.z hsr (by rw [ksr]; rfl)) hf1
    have z92 : q_is (q_z f86 sr 0) xc := Eq.trans (hF.z hsr (by rw [ksr]; rfl)) hf2
    have z93 : q_ir (q_r f86 mo 13) sr := Eq.trans (hF.r hmo (by rw [kmo]; rfl)) hr0
    have z94 : q_ir (q_r f86 mo 24) hp := Eq.trans (hF.r hmo (by rw [kmo]; rfl)) hr1
    have z95 : q_ir (q_r f86 mo 25) dy := Eq.trans (hF.r hmo (by rw [kmo]; rfl)) hr2
    have z96 : q_ir (q_r f86 mo 16) aw := Eq.trans (hF.r hmo (by rw [kmo]; rfl)) hr3
    have g97 : q_gr f86 sr := q_gr_fr hgr (fun i9 _ => hF.z hsr (by rw [ksr]; rfl))
    subst qy87
    refine q_ifne (tgt := 14) cx ⟨by decide, by decide⟩ dX12_arrives_9 (by decide) (fun c98 => ?_) (fun c98 => ?_)
    · refine q_ald_n cx dX12_arrives_14 rfl (lv_at hl 0 rfl) ?_
      refine q_cVv (As := []) (rest := []) cx hB (fun _ h => h) hN hmo kmo (by decide) rfl (r_leaves l g hN hB.2.1 mo hmo kmo sr hsr ksr aw haw kaw xt (by omega) (by omega) xm (by omega) (by omega) xc (by omega) (by omega) z90 z91 z92 z93 z96 g97) q_cX12_405 q_dX12_leaves (by decide) rfl rfl hl.1 rfl (Nat.le_of_ble_eq_true rfl) dX12_arrives_15 (fun H locs f99 h101 hF hB => ?_)
      obtain ⟨lz102, uz102, z103⟩ := h101
      have z104 : q_is (q_z f99 sr 3) xt := Eq.trans (hF.z hsr (by rw [ksr]; rfl)) z90
      have z105 : q_is (q_z f99 sr 4) xm := Eq.trans (hF.z hsr (by rw [ksr]; rfl)) z91
      have z106 : q_is (q_z f99 sr 0) xc := Eq.trans (hF.z hsr (by rw [ksr]; rfl)) z92
      have z107 : q_is (q_z f99 mo 0) 0 := Eq.trans (hF.z hmo (by rw [kmo]; rfl)) z89
      have z108 : q_ir (q_r f99 mo 13) sr := Eq.trans (hF.r hmo (by rw [kmo]; rfl)) z93
      have z109 : q_ir (q_r f99 mo 24) hp := Eq.trans (hF.r hmo (by rw [kmo]; rfl)) z94
      have z110 : q_ir (q_r f99 mo 25) dy := Eq.trans (hF.r hmo (by rw [kmo]; rfl)) z95
      have z111 : q_ir (q_r f99 mo 16) aw := Eq.trans (hF.r hmo (by rw [kmo]; rfl)) z96
      have g112 : q_gr f99 sr := q_gr_fr g97 (fun i9 _ => hF.z hsr (by rw [ksr]; rfl))
      obtain ⟨x113, ex113⟩ : ∃ zz, q_is (q_z f99 aw 2) zz := ⟨_, q_isr _⟩
      obtain ⟨lx113, ux113⟩ := q_isb ex113 ⟨lz102, uz102⟩
      refine q_ald_n cx dX12_arrives_18 rfl (lv_at hl 0 rfl) ?_
      refine q_ald_n cx dX12_arrives_19 rfl (lv_at hl 0 rfl) ?_
      refine q_ild_n cx dX12_arrives_20 rfl (lv_at hl 1 rfl) ?_
      refine q_cVi (As := [.int (q_i a0)]) (rest := [.ref mo]) cx hB (fun _ h => h) hN hmo kmo (by decide) rfl (r_there l g hN hB.2.1 mo hmo kmo a0 (by omega) (by omega) sr hsr ksr hp hhp khp dy hdy kdy xt (by omega) (by omega) xm (by omega) (by omega) z104 z105 z108 z109 z110 g112) q_cX12_408 q_dX12_there (by decide) rfl rfl hl.1 rfl (Nat.le_of_ble_eq_true rfl) dX12_arrives_21 (fun y115 H locs f114 ry115 h116 hF hB => ?_)
      obtain ⟨ly115, uy115, z117, g118⟩ := h116
      have z119 : q_is (q_z f114 sr 4) xm := Eq.trans (hF.z hsr (by rw [ksr]; rfl)) z105
      have z120 : q_is (q_z f114 sr 0) xc := Eq.trans (hF.z hsr (by rw [ksr]; rfl)) z106
      have z121 : q_is (q_z f114 mo 0) 0 := Eq.trans (hF.z hmo (by rw [kmo]; rfl)) z107
      have z122 : q_is (q_z f114 aw 2) x113 := Eq.trans (hF.z haw (by rw [kaw]; rfl)) ex113
      have z123 : q_is (q_z f114 aw 0) xc := Eq.trans (hF.z haw (by rw [kaw]; rfl)) z103
      have z124 : q_ir (q_r f114 mo 13) sr := Eq.trans (hF.r hmo (by rw [kmo]; rfl)) z108
      have z125 : q_ir (q_r f114 mo 24) hp := Eq.trans (hF.r hmo (by rw [kmo]; rfl)) z109
      have z126 : q_ir (q_r f114 mo 25) dy := Eq.trans (hF.r hmo (by rw [kmo]; rfl)) z110
      have z127 : q_ir (q_r f114 mo 16) aw := Eq.trans (hF.r hmo (by rw [kmo]; rfl)) z111
      refine q_cVi (As := [.int (q_i y115)]) (rest := []) cx hB (fun _ h => h) hN hmo kmo (by decide) rfl (r_comesBack l g hN hB.2.1 mo hmo kmo y115 (by omega) (by omega) sr hsr ksr aw haw kaw x113 (by omega) (by omega) xc (by omega) (by omega) z122 z123 z124 z127) q_cX12_411 q_dX12_comesBack (by decide) rfl rfl hl.1 rfl (Nat.le_of_ble_eq_true rfl) dX12_arrives_24 (fun y129 H locs f128 ry129 h130 hF hB => ?_)
      obtain ⟨qy129, lz131, uz131, lz132, uz132, z133, g134⟩ := h130
      have z135 : q_is (q_z f128 mo 0) 0 := Eq.trans (hF.z hmo (by rw [kmo]; rfl)) z121
      have z136 : q_is (q_z f128 aw 2) x113 := Eq.trans (hF.z haw (by rw [kaw]; rfl)) z122
      have z137 : q_is (q_z f128 aw 0) xc := Eq.trans (hF.z haw (by rw [kaw]; rfl)) z123
      have z138 : q_ir (q_r f128 mo 13) sr := Eq.trans (hF.r hmo (by rw [kmo]; rfl)) z124
      have z139 : q_ir (q_r f128 mo 24) hp := Eq.trans (hF.r hmo (by rw [kmo]; rfl)) z125
      have z140 : q_ir (q_r f128 mo 25) dy := Eq.trans (hF.r hmo (by rw [kmo]; rfl)) z126
      have z141 : q_ir (q_r f128 mo 16) aw := Eq.trans (hF.r hmo (by rw [kmo]; rfl)) z127
      obtain ⟨x142, ex142⟩ : ∃ zz, q_is (q_z f128 sr 3) zz := ⟨_, q_isr _⟩
      obtain ⟨lx142, ux142⟩ := q_isb ex142 ⟨lz131, uz131⟩
      obtain ⟨x143, ex143⟩ : ∃ zz, q_is (q_z f128 sr 4) zz := ⟨_, q_isr _⟩
      obtain ⟨lx143, ux143⟩ := q_isb ex143 ⟨lz132, uz132⟩
      refine q_iret cx hr hlk hB dX12_arrives_27 ⟨by omega, by omega⟩ ?_
      exact ⟨(by omega), (by omega), (q_isl ex142 (by omega)), (q_isu ex142 (by omega)), (q_isl ex143 (by omega)), (q_isu ex143 (by omega)), z133, g134⟩
    · exact absurd c98 (by omega)
  · obtain ⟨rfl, qy80⟩ := h83
    subst qy80
    refine q_cVi (As := [.int (q_i 0)]) (rest := []) cx hB (fun _ h => h) hN hmo kmo (by decide) rfl (r_goes0 l g hN hB.2.1 mo hmo kmo 0 (by decide) (by decide)) q_cX12_85 q_dX12_goes (by decide) rfl rfl hl.1 rfl (Nat.le_of_ble_eq_true rfl) dX12_arrives_6 (fun y145 H locs f144 ry145 h146 hF hB => ?_)
    obtain ⟨qy145, z147⟩ := h146
    have z148 : q_is (q_z f144 sr 3) xt := Eq.trans (hF.z hsr (by rw [ksr]; rfl)) hf0
    have z149 : q_is (q_z f144 sr 4) xm := Eq.trans (hF.z hsr (by rw [ksr]; rfl)) hf1
    have z150 : q_is (q_z f144 sr 0) xc := Eq.trans (hF.z hsr (by rw [ksr]; rfl)) hf2
    have z151 : q_ir (q_r f144 mo 13) sr := Eq.trans (hF.r hmo (by rw [kmo]; rfl)) hr0
    have z152 : q_ir (q_r f144 mo 24) hp := Eq.trans (hF.r hmo (by rw [kmo]; rfl)) hr1
    have z153 : q_ir (q_r f144 mo 25) dy := Eq.trans (hF.r hmo (by rw [kmo]; rfl)) hr2
    have z154 : q_ir (q_r f144 mo 16) aw := Eq.trans (hF.r hmo (by rw [kmo]; rfl)) hr3
    have g155 : q_gr f144 sr := q_gr_fr hgr (fun i9 _ => hF.z hsr (by rw [ksr]; rfl))
    subst qy145
    refine q_ifne (tgt := 14) cx ⟨by decide, by decide⟩ dX12_arrives_9 (by decide) (fun c156 => ?_) (fun c156 => ?_)
    · exact absurd c156 (by omega)
    · refine q_iconst cx dX12_arrives_12 ?_
      refine q_iret cx hr hlk hB dX12_arrives_13 ⟨by decide, by decide⟩ ?_
      exact ⟨(by decide), (by decide), (q_isl z148 (by omega)), (q_isu z148 (by omega)), (q_isl z149 (by omega)), (q_isu z149 (by omega)), z150, g155⟩
set_option maxHeartbeats 4000000 in
set_option maxRecDepth 100000 in
theorem r_wouldArrive (l : Launch) (g : q_G) {K : Nat → Nat} {L : List Nat} (hN : L.Nodup) {f : Nat → va_E} (hT : q_Ty g K L f) (mo : Nat) (hmo : mo ∈ L) (kmo : K mo = 12) (a0 : Int) (la0 : (-2147483648) ≤ a0) (ua0 : a0 ≤ 2147483647) (b0 : Int) (lb0 : (-2147483648) ≤ b0) (ub0 : b0 ≤ 2147483647) (c0 : Int) (lc0 : 0 ≤ c0) (uc0 : c0 ≤ 1) (sr : Nat) (hsr : sr ∈ L) (ksr : K sr = 151) (hp : Nat) (hhp : hp ∈ L) (khp : K hp = 159) (dy : Nat) (hdy : dy ∈ L) (kdy : K dy = 160) (aw : Nat) (haw : aw ∈ L) (kaw : K aw = 154) (xt : Int) (lxt : 0 ≤ xt) (uxt : xt ≤ 9999) (xm : Int) (lxm : 0 ≤ xm) (uxm : xm ≤ 60) (xc : Int) (lxc : 0 ≤ xc) (uxc : xc ≤ 10) (hf0 : q_is (q_z f sr 3) xt) (hf1 : q_is (q_z f sr 4) xm) (hf2 : q_is (q_z f sr 0) xc) (hr0 : q_ir (q_r f mo 13) sr) (hr1 : q_ir (q_r f mo 24) hp) (hr2 : q_ir (q_r f mo 25) dy) (hr3 : q_ir (q_r f mo 16) aw) (hgr : q_gr f sr) : q_Ct l g K L yX12_wouldArrive cX12_wouldArrive 4 (some .int) 11 252 [.ref mo, .int (q_i a0), .int (q_i b0), .int (q_i c0)] f [(12, 0, 0), (12, 26, 28), (151, 0, 657), (154, 0, 657), (159, 0, 9), (160, 0, 9)] (q_Pi (fun (z : Int) (f1 : Nat → va_E) => (-1) ≤ z ∧ z ≤ 200 ∧ 0 ≤ q_z f1 sr 3 ∧ q_z f1 sr 3 ≤ 9999 ∧ 0 ≤ q_z f1 sr 4 ∧ q_z f1 sr 4 ≤ 60 ∧ q_is (q_z f1 sr 0) xc ∧ q_gr f1 sr)) := by
  refine q_ofb (by decide +kernel) hN hT (Nat.le_of_ble_eq_true rfl) ?_
  intro p e s m below meth c ls cx hr hlk hB hl
  have hl : lv_has ls 4 [(0, .ref mo), (1, .int (q_i a0)), (2, .int (q_i b0)), (3, .int (q_i c0))] := hl
  obtain ⟨H, hH⟩ : ∃ H : Heap, H = s.heap := ⟨_, rfl⟩
  obtain ⟨locs, hlocs⟩ : ∃ z : List Loc, z = [] := ⟨_, rfl⟩
  rw [← hH, ← hlocs] at hB
  rw [← hH, ← hlocs]
  refine q_ald_n cx dX12_wouldArrive_0 rfl (lv_at hl 0 rfl) ?_
  refine q_ald_n cx dX12_wouldArrive_1 rfl (lv_at hl 0 rfl) ?_
  refine q_ild_n cx dX12_wouldArrive_2 rfl (lv_at hl 1 rfl) ?_
  refine q_cVi (As := [.int (q_i a0)]) (rest := [.ref mo]) cx hB (fun _ h => h) hN hmo kmo (by decide) rfl (r_isNode l g hN hB.2.1 mo hmo kmo a0 (by omega) (by omega) sr hsr ksr hr0) q_cX12_355 q_dX12_isNode (by decide) rfl rfl hl.1 rfl (Nat.le_of_ble_eq_true rfl) dX12_wouldArrive_3 (fun y132 H locs f131 ry132 h133 hF hB => ?_)
  rcases h133 with h134 | h135
  · obtain ⟨rfl, qy132, t136, t137⟩ := h134
    subst qy132
    refine q_ifeq (tgt := 21) cx ⟨by decide, by decide⟩ dX12_wouldArrive_6 (by decide) (fun c138 => ?_) (fun c138 => ?_)
    · exact absurd c138 (by omega)
    · refine q_ald_n cx dX12_wouldArrive_9 rfl (lv_at hl 0 rfl) ?_
      refine q_ild_n cx dX12_wouldArrive_10 rfl (lv_at hl 2 rfl) ?_
      refine q_cVi (As := [.int (q_i b0)]) (rest := [.ref mo]) cx hB (fun _ h => h) hN hmo kmo (by decide) rfl (r_isNode l g hN hB.2.1 mo hmo kmo b0 (by omega) (by omega) sr hsr ksr hr0) q_cX12_355 q_dX12_isNode (by decide) rfl rfl hl.1 rfl (Nat.le_of_ble_eq_true rfl) dX12_wouldArrive_11 (fun y140 H locs f139 ry140 h141 hF hB => ?_)
      rcases h141 with h142 | h143
      · obtain ⟨rfl, qy140, t144, t145⟩ := h142
        subst qy140
        refine q_ifeq (tgt := 21) cx ⟨by decide, by decide⟩ dX12_wouldArrive_14 (by decide) (fun c146 => ?_) (fun c146 => ?_)
        · exact absurd c146 (by omega)
        · refine q_iconst cx dX12_wouldArrive_17 ?_
          refine lv_goto (tgt := 22) cx.1 cx.2.1 dX12_wouldArrive_18 (by decide) ?_
          refine q_ild_n cx dX12_wouldArrive_22 rfl (lv_at hl 1 rfl) ?_
          refine q_ild_n cx dX12_wouldArrive_23 rfl (lv_at hl 2 rfl) ?_
          refine q_iceq (tgt := 31) cx ⟨by omega, by omega⟩ ⟨by omega, by omega⟩ dX12_wouldArrive_24 (by decide) (fun c147 => ?_) (fun c147 => ?_)
          · refine q_iconst cx dX12_wouldArrive_31 ?_
            refine q_cVi (As := [.int (q_i 1), .int (q_i 0)]) (rest := []) cx hB (fun _ h => h) hN hmo kmo (by decide) rfl (r_goesBoth1 l g hN hB.2.1 mo hmo kmo 1 (by decide) (by decide) 0 (by decide) (by decide)) q_cX12_358 q_dX12_goesBoth (by decide) rfl rfl hl.1 rfl (Nat.le_of_ble_eq_true rfl) dX12_wouldArrive_32 (fun y149 H locs f148 ry149 h150 hF hB => ?_)
            obtain ⟨qy149, z151⟩ := h150
            have z152 : q_is (q_z f148 sr 3) xt := Eq.trans (hF.z hsr (by rw [ksr]; rfl)) hf0
            have z153 : q_is (q_z f148 sr 4) xm := Eq.trans (hF.z hsr (by rw [ksr]; rfl)) hf1
            have z154 : q_is (q_z f148 sr 0) xc := Eq.trans (hF.z hsr (by rw [ksr]; rfl)) hf2
            have z155 : q_ir (q_r f148 mo 13) sr := Eq.trans (hF.r hmo (by rw [kmo]; rfl)) hr0
            have z156 : q_ir (q_r f148 mo 24) hp := Eq.trans (hF.r hmo (by rw [kmo]; rfl)) hr1
            have z157 : q_ir (q_r f148 mo 25) dy := Eq.trans (hF.r hmo (by rw [kmo]; rfl)) hr2
            have z158 : q_ir (q_r f148 mo 16) aw := Eq.trans (hF.r hmo (by rw [kmo]; rfl)) hr3
            have g159 : q_gr f148 sr := q_gr_fr hgr (fun i9 _ => hF.z hsr (by rw [ksr]; rfl))
            subst qy149
            refine q_ifne (tgt := 40) cx ⟨by decide, by decide⟩ dX12_wouldArrive_35 (by decide) (fun c160 => ?_) (fun c160 => ?_)
            · exact absurd c160 (by omega)
            · refine q_iconst cx dX12_wouldArrive_38 ?_
              refine q_iret cx hr hlk hB dX12_wouldArrive_39 ⟨by decide, by decide⟩ ?_
              exact ⟨(by decide), (by decide), (q_isl z152 (by omega)), (q_isu z152 (by omega)), (q_isl z153 (by omega)), (q_isu z153 (by omega)), z154, g159⟩
          · refine q_iconst cx dX12_wouldArrive_27 ?_
            refine lv_goto (tgt := 32) cx.1 cx.2.1 dX12_wouldArrive_28 (by decide) ?_
            refine q_cVi (As := [.int (q_i 1), .int (q_i 1)]) (rest := []) cx hB (fun _ h => h) hN hmo kmo (by decide) rfl (r_goesBoth2 l g hN hB.2.1 mo hmo kmo 1 (by decide) (by decide) 1 (by decide) (by decide)) q_cX12_358 q_dX12_goesBoth (by decide) rfl rfl hl.1 rfl (Nat.le_of_ble_eq_true rfl) dX12_wouldArrive_32 (fun y162 H locs f161 ry162 h163 hF hB => ?_)
            obtain ⟨qy162, z164⟩ := h163
            have z165 : q_is (q_z f161 sr 3) xt := Eq.trans (hF.z hsr (by rw [ksr]; rfl)) hf0
            have z166 : q_is (q_z f161 sr 4) xm := Eq.trans (hF.z hsr (by rw [ksr]; rfl)) hf1
            have z167 : q_is (q_z f161 sr 0) xc := Eq.trans (hF.z hsr (by rw [ksr]; rfl)) hf2
            have z168 : q_ir (q_r f161 mo 13) sr := Eq.trans (hF.r hmo (by rw [kmo]; rfl)) hr0
            have z169 : q_ir (q_r f161 mo 24) hp := Eq.trans (hF.r hmo (by rw [kmo]; rfl)) hr1
            have z170 : q_ir (q_r f161 mo 25) dy := Eq.trans (hF.r hmo (by rw [kmo]; rfl)) hr2
            have z171 : q_ir (q_r f161 mo 16) aw := Eq.trans (hF.r hmo (by rw [kmo]; rfl)) hr3
            have g172 : q_gr f161 sr := q_gr_fr hgr (fun i9 _ => hF.z hsr (by rw [ksr]; rfl))
            subst qy162
            refine q_ifne (tgt := 40) cx ⟨by decide, by decide⟩ dX12_wouldArrive_35 (by decide) (fun c173 => ?_) (fun c173 => ?_)
            · refine q_ald_n cx dX12_wouldArrive_40 rfl (lv_at hl 0 rfl) ?_
              refine q_cVv (As := []) (rest := []) cx hB (fun _ h => h) hN hmo kmo (by decide) rfl (r_leaves l g hN hB.2.1 mo hmo kmo sr hsr ksr aw haw kaw xt (by omega) (by omega) xm (by omega) (by omega) xc (by omega) (by omega) z165 z166 z167 z168 z171 g172) q_cX12_405 q_dX12_leaves (by decide) rfl rfl hl.1 rfl (Nat.le_of_ble_eq_true rfl) dX12_wouldArrive_41 (fun H locs f174 h176 hF hB => ?_)
              obtain ⟨lz177, uz177, z178⟩ := h176
              have z179 : q_is (q_z f174 sr 3) xt := Eq.trans (hF.z hsr (by rw [ksr]; rfl)) z165
              have z180 : q_is (q_z f174 sr 4) xm := Eq.trans (hF.z hsr (by rw [ksr]; rfl)) z166
              have z181 : q_is (q_z f174 sr 0) xc := Eq.trans (hF.z hsr (by rw [ksr]; rfl)) z167
              have z182 : q_is (q_z f174 mo 0) 0 := Eq.trans (hF.z hmo (by rw [kmo]; rfl)) z164
              have z183 : q_ir (q_r f174 mo 13) sr := Eq.trans (hF.r hmo (by rw [kmo]; rfl)) z168
              have z184 : q_ir (q_r f174 mo 24) hp := Eq.trans (hF.r hmo (by rw [kmo]; rfl)) z169
              have z185 : q_ir (q_r f174 mo 25) dy := Eq.trans (hF.r hmo (by rw [kmo]; rfl)) z170
              have z186 : q_ir (q_r f174 mo 16) aw := Eq.trans (hF.r hmo (by rw [kmo]; rfl)) z171
              have g187 : q_gr f174 sr := q_gr_fr g172 (fun i9 _ => hF.z hsr (by rw [ksr]; rfl))
              obtain ⟨x188, ex188⟩ : ∃ zz, q_is (q_z f174 aw 2) zz := ⟨_, q_isr _⟩
              obtain ⟨lx188, ux188⟩ := q_isb ex188 ⟨lz177, uz177⟩
              refine q_ald_n cx dX12_wouldArrive_44 rfl (lv_at hl 0 rfl) ?_
              refine q_ild_n cx dX12_wouldArrive_45 rfl (lv_at hl 1 rfl) ?_
              refine q_ild_n cx dX12_wouldArrive_46 rfl (lv_at hl 2 rfl) ?_
              refine q_ild_n cx dX12_wouldArrive_47 rfl (lv_at hl 3 rfl) ?_
              refine q_cVi (As := [.int (q_i a0), .int (q_i b0), .int (q_i c0)]) (rest := []) cx hB (fun _ h => h) hN hmo kmo (by decide) rfl (r_byMessage l g hN hB.2.1 mo hmo kmo a0 (by omega) (by omega) b0 (by omega) (by omega) c0 (by omega) (by omega) sr hsr ksr hp hhp khp dy hdy kdy aw haw kaw xt (by omega) (by omega) xm (by omega) (by omega) xc (by omega) (by omega) x188 (by omega) (by omega) z179 z180 z181 ex188 z178 z183 z184 z185 z186 g187) q_cX12_421 q_dX12_byMessage (by decide) rfl rfl hl.1 rfl (Nat.le_of_ble_eq_true rfl) dX12_wouldArrive_48 (fun y190 H locs f189 ry190 h191 hF hB => ?_)
              obtain ⟨ly190, uy190, lz192, uz192, lz193, uz193, z194, g195⟩ := h191
              have z196 : q_is (q_z f189 mo 0) 0 := Eq.trans (hF.z hmo (by rw [kmo]; rfl)) z182
              have z197 : q_is (q_z f189 aw 2) x188 := Eq.trans (hF.z haw (by rw [kaw]; rfl)) ex188
              have z198 : q_is (q_z f189 aw 0) xc := Eq.trans (hF.z haw (by rw [kaw]; rfl)) z178
              have z199 : q_ir (q_r f189 mo 13) sr := Eq.trans (hF.r hmo (by rw [kmo]; rfl)) z183
              have z200 : q_ir (q_r f189 mo 24) hp := Eq.trans (hF.r hmo (by rw [kmo]; rfl)) z184
              have z201 : q_ir (q_r f189 mo 25) dy := Eq.trans (hF.r hmo (by rw [kmo]; rfl)) z185
              have z202 : q_ir (q_r f189 mo 16) aw := Eq.trans (hF.r hmo (by rw [kmo]; rfl)) z186
              obtain ⟨x203, ex203⟩ : ∃ zz, q_is (q_z f189 sr 3) zz := ⟨_, q_isr _⟩
              obtain ⟨lx203, ux203⟩ := q_isb ex203 ⟨lz192, uz192⟩
              obtain ⟨x204, ex204⟩ : ∃ zz, q_is (q_z f189 sr 4) zz := ⟨_, q_isr _⟩
              obtain ⟨lx204, ux204⟩ := q_isb ex204 ⟨lz193, uz193⟩
              refine q_iret cx hr hlk hB dX12_wouldArrive_51 ⟨by omega, by omega⟩ ?_
              exact ⟨(by omega), (by omega), (q_isl ex203 (by omega)), (q_isu ex203 (by omega)), (q_isl ex204 (by omega)), (q_isu ex204 (by omega)), z194, g195⟩
            · exact absurd c173 (by omega)
      · obtain ⟨rfl, qy140⟩ := h143
        subst qy140
        refine q_ifeq (tgt := 21) cx ⟨by decide, by decide⟩ dX12_wouldArrive_14 (by decide) (fun c205 => ?_) (fun c205 => ?_)
        · refine q_iconst cx dX12_wouldArrive_21 ?_
          refine q_ild_n cx dX12_wouldArrive_22 rfl (lv_at hl 1 rfl) ?_
          refine q_ild_n cx dX12_wouldArrive_23 rfl (lv_at hl 2 rfl) ?_
          refine q_iceq (tgt := 31) cx ⟨by omega, by omega⟩ ⟨by omega, by omega⟩ dX12_wouldArrive_24 (by decide) (fun c206 => ?_) (fun c206 => ?_)
          · refine q_iconst cx dX12_wouldArrive_31 ?_
            refine q_cVi (As := [.int (q_i 0), .int (q_i 0)]) (rest := []) cx hB (fun _ h => h) hN hmo kmo (by decide) rfl (r_goesBoth0 l g hN hB.2.1 mo hmo kmo 0 (by decide) (by decide) 0 (by decide) (by decide)) q_cX12_358 q_dX12_goesBoth (by decide) rfl rfl hl.1 rfl (Nat.le_of_ble_eq_true rfl) dX12_wouldArrive_32 (fun y208 H locs f207 ry208 h209 hF hB => ?_)
            obtain ⟨qy208, z210⟩ := h209
            have z211 : q_is (q_z f207 sr 3) xt := Eq.trans (hF.z hsr (by rw [ksr]; rfl)) hf0
            have z212 : q_is (q_z f207 sr 4) xm := Eq.trans (hF.z hsr (by rw [ksr]; rfl)) hf1
            have z213 : q_is (q_z f207 sr 0) xc := Eq.trans (hF.z hsr (by rw [ksr]; rfl)) hf2
            have z214 : q_ir (q_r f207 mo 13) sr := Eq.trans (hF.r hmo (by rw [kmo]; rfl)) hr0
            have z215 : q_ir (q_r f207 mo 24) hp := Eq.trans (hF.r hmo (by rw [kmo]; rfl)) hr1
            have z216 : q_ir (q_r f207 mo 25) dy := Eq.trans (hF.r hmo (by rw [kmo]; rfl)) hr2
            have z217 : q_ir (q_r f207 mo 16) aw := Eq.trans (hF.r hmo (by rw [kmo]; rfl)) hr3
            have g218 : q_gr f207 sr := q_gr_fr hgr (fun i9 _ => hF.z hsr (by rw [ksr]; rfl))
            subst qy208
            refine q_ifne (tgt := 40) cx ⟨by decide, by decide⟩ dX12_wouldArrive_35 (by decide) (fun c219 => ?_) (fun c219 => ?_)
            · exact absurd c219 (by omega)
            · refine q_iconst cx dX12_wouldArrive_38 ?_
              refine q_iret cx hr hlk hB dX12_wouldArrive_39 ⟨by decide, by decide⟩ ?_
              exact ⟨(by decide), (by decide), (q_isl z211 (by omega)), (q_isu z211 (by omega)), (q_isl z212 (by omega)), (q_isu z212 (by omega)), z213, g218⟩
          · refine q_iconst cx dX12_wouldArrive_27 ?_
            refine lv_goto (tgt := 32) cx.1 cx.2.1 dX12_wouldArrive_28 (by decide) ?_
            refine q_cVi (As := [.int (q_i 0), .int (q_i 1)]) (rest := []) cx hB (fun _ h => h) hN hmo kmo (by decide) rfl (r_goesBoth0 l g hN hB.2.1 mo hmo kmo 0 (by decide) (by decide) 1 (by decide) (by decide)) q_cX12_358 q_dX12_goesBoth (by decide) rfl rfl hl.1 rfl (Nat.le_of_ble_eq_true rfl) dX12_wouldArrive_32 (fun y221 H locs f220 ry221 h222 hF hB => ?_)
            obtain ⟨qy221, z223⟩ := h222
            have z224 : q_is (q_z f220 sr 3) xt := Eq.trans (hF.z hsr (by rw [ksr]; rfl)) hf0
            have z225 : q_is (q_z f220 sr 4) xm := Eq.trans (hF.z hsr (by rw [ksr]; rfl)) hf1
            have z226 : q_is (q_z f220 sr 0) xc := Eq.trans (hF.z hsr (by rw [ksr]; rfl)) hf2
            have z227 : q_ir (q_r f220 mo 13) sr := Eq.trans (hF.r hmo (by rw [kmo]; rfl)) hr0
            have z228 : q_ir (q_r f220 mo 24) hp := Eq.trans (hF.r hmo (by rw [kmo]; rfl)) hr1
            have z229 : q_ir (q_r f220 mo 25) dy := Eq.trans (hF.r hmo (by rw [kmo]; rfl)) hr2
            have z230 : q_ir (q_r f220 mo 16) aw := Eq.trans (hF.r hmo (by rw [kmo]; rfl)) hr3
            have g231 : q_gr f220 sr := q_gr_fr hgr (fun i9 _ => hF.z hsr (by rw [ksr]; rfl))
            subst qy221
            refine q_ifne (tgt := 40) cx ⟨by decide, by decide⟩ dX12_wouldArrive_35 (by decide) (fun c232 => ?_) (fun c232 => ?_)
            · exact absurd c232 (by omega)
            · refine q_iconst cx dX12_wouldArrive_38 ?_
              refine q_iret cx hr hlk hB dX12_wouldArrive_39 ⟨by decide, by decide⟩ ?_
              exact ⟨(by decide), (by decide), (q_isl z224 (by omega)), (q_isu z224 (by omega)), (q_isl z225 (by omega)), (q_isu z225 (by omega)), z226, g231⟩
        · exact absurd c205 (by omega)
  · obtain ⟨rfl, qy132⟩ := h135
    subst qy132
    refine q_ifeq (tgt := 21) cx ⟨by decide, by decide⟩ dX12_wouldArrive_6 (by decide) (fun c233 => ?_) (fun c233 => ?_)
    · refine q_iconst cx dX12_wouldArrive_21 ?_
      refine q_ild_n cx dX12_wouldArrive_22 rfl (lv_at hl 1 rfl) ?_
      refine q_ild_n cx dX12_wouldArrive_23 rfl (lv_at hl 2 rfl) ?_
      refine q_iceq (tgt := 31) cx ⟨by omega, by omega⟩ ⟨by omega, by omega⟩ dX12_wouldArrive_24 (by decide) (fun c234 => ?_) (fun c234 => ?_)
      · refine q_iconst cx dX12_wouldArrive_31 ?_
        refine q_cVi (As := [.int (q_i 0), .int (q_i 0)]) (rest := []) cx hB (fun _ h => h) hN hmo kmo (by decide) rfl (r_goesBoth0 l g hN hB.2.1 mo hmo kmo 0 (by decide) (by decide) 0 (by decide) (by decide)) q_cX12_358 q_dX12_goesBoth (by decide) rfl rfl hl.1 rfl (Nat.le_of_ble_eq_true rfl) dX12_wouldArrive_32 (fun y236 H locs f235 ry236 h237 hF hB => ?_)
        obtain ⟨qy236, z238⟩ := h237
        have z239 : q_is (q_z f235 sr 3) xt := Eq.trans (hF.z hsr (by rw [ksr]; rfl)) hf0
        have z240 : q_is (q_z f235 sr 4) xm := Eq.trans (hF.z hsr (by rw [ksr]; rfl)) hf1
        have z241 : q_is (q_z f235 sr 0) xc := Eq.trans (hF.z hsr (by rw [ksr]; rfl)) hf2
        have z242 : q_ir (q_r f235 mo 13) sr := Eq.trans (hF.r hmo (by rw [kmo]; rfl)) hr0
        have z243 : q_ir (q_r f235 mo 24) hp := Eq.trans (hF.r hmo (by rw [kmo]; rfl)) hr1
        have z244 : q_ir (q_r f235 mo 25) dy := Eq.trans (hF.r hmo (by rw [kmo]; rfl)) hr2
        have z245 : q_ir (q_r f235 mo 16) aw := Eq.trans (hF.r hmo (by rw [kmo]; rfl)) hr3
        have g246 : q_gr f235 sr := q_gr_fr hgr (fun i9 _ => hF.z hsr (by rw [ksr]; rfl))
        subst qy236
        refine q_ifne (tgt := 40) cx ⟨by decide, by decide⟩ dX12_wouldArrive_35 (by decide) (fun c247 => ?_) (fun c247 => ?_)
        · exact absurd c247 (by omega)
        · refine q_iconst cx dX12_wouldArrive_38 ?_
          refine q_iret cx hr hlk hB dX12_wouldArrive_39 ⟨by decide, by decide⟩ ?_
          exact ⟨(by decide), (by decide), (q_isl z239 (by omega)), (q_isu z239 (by omega)), (q_isl z240 (by omega)), (q_isu z240 (by omega)), z241, g246⟩
      · refine q_iconst cx dX12_wouldArrive_27 ?_
        refine lv_goto (tgt := 32) cx.1 cx.2.1 dX12_wouldArrive_28 (by decide) ?_
        refine q_cVi (As := [.int (q_i 0), .int (q_i 1)]) (rest := []) cx hB (fun _ h => h) hN hmo kmo (by decide) rfl (r_goesBoth0 l g hN hB.2.1 mo hmo kmo 0 (by decide) (by decide) 1 (by decide) (by decide)) q_cX12_358 q_dX12_goesBoth (by decide) rfl rfl hl.1 rfl (Nat.le_of_ble_eq_true rfl) dX12_wouldArrive_32 (fun y249 H locs f248 ry249 h250 hF hB => ?_)
        obtain ⟨qy249, z251⟩ := h250
        have z252 : q_is (q_z f248 sr 3) xt := Eq.trans (hF.z hsr (by rw [ksr]; rfl)) hf0
        have z253 : q_is (q_z f248 sr 4) xm := Eq.trans (hF.z hsr (by rw [ksr]; rfl)) hf1
        have z254 : q_is (q_z f248 sr 0) xc := Eq.trans (hF.z hsr (by rw [ksr]; rfl)) hf2
        have z255 : q_ir (q_r f248 mo 13) sr := Eq.trans (hF.r hmo (by rw [kmo]; rfl)) hr0
        have z256 : q_ir (q_r f248 mo 24) hp := Eq.trans (hF.r hmo (by rw [kmo]; rfl)) hr1
        have z257 : q_ir (q_r f248 mo 25) dy := Eq.trans (hF.r hmo (by rw [kmo]; rfl)) hr2
        have z258 : q_ir (q_r f248 mo 16) aw := Eq.trans (hF.r hmo (by rw [kmo]; rfl)) hr3
        have g259 : q_gr f248 sr := q_gr_fr hgr (fun i9 _ => hF.z hsr (by rw [ksr]; rfl))
        subst qy249
        refine q_ifne (tgt := 40) cx ⟨by decide, by decide⟩ dX12_wouldArrive_35 (by decide) (fun c260 => ?_) (fun c260 => ?_)
        · exact absurd c260 (by omega)
        · refine q_iconst cx dX12_wouldArrive_38 ?_
          refine q_iret cx hr hlk hB dX12_wouldArrive_39 ⟨by decide, by decide⟩ ?_
          exact ⟨(by decide), (by decide), (q_isl z252 (by omega)), (q_isu z252 (by omega)), (q_isl z253 (by omega)), (q_isu z253 (by omega)), z254, g259⟩
    · exact absurd c233 (by omega)
set_option maxHeartbeats 4000000 in
set_option maxRecDepth 100000 in
theorem r_outIn (l : Launch) (g : q_G) {K : Nat → Nat} {L : List Nat} (hN : L.Nodup) {f : Nat → va_E} (hT : q_Ty g K L f) (mo : Nat) (hmo : mo ∈ L) (kmo : K mo = 12) (a0 : Int) (la0 : (-2147483648) ≤ a0) (ua0 : a0 ≤ 2147483647) (sr : Nat) (hsr : sr ∈ L) (ksr : K sr = 151) (hp : Nat) (hhp : hp ∈ L) (khp : K hp = 159) (dy : Nat) (hdy : dy ∈ L) (kdy : K dy = 160) (aw : Nat) (haw : aw ∈ L) (kaw : K aw = 154) (xt : Int) (lxt : 0 ≤ xt) (uxt : xt ≤ 9999) (xm : Int) (lxm : 0 ≤ xm) (uxm : xm ≤ 60) (xc : Int) (lxc : 0 ≤ xc) (uxc : xc ≤ 10) (hf0 : q_is (q_z f sr 3) xt) (hf1 : q_is (q_z f sr 4) xm) (hf2 : q_is (q_z f sr 0) xc) (hr0 : q_ir (q_r f mo 13) sr) (hr1 : q_ir (q_r f mo 24) hp) (hr2 : q_ir (q_r f mo 25) dy) (hr3 : q_ir (q_r f mo 16) aw) (hgr : q_gr f sr) : q_Ct l g K L yX12_outIn cX12_outIn 4 (some .int) 9 205 [.ref mo, .int (q_i a0)] f [(12, 0, 0), (12, 26, 28), (151, 0, 657), (154, 0, 657), (159, 0, 9), (160, 0, 9)] (q_Pi (fun (z : Int) (f1 : Nat → va_E) => (-1) ≤ z ∧ z ≤ 200 ∧ 0 ≤ q_z f1 sr 3 ∧ q_z f1 sr 3 ≤ 9999 ∧ 0 ≤ q_z f1 sr 4 ∧ q_z f1 sr 4 ≤ 60 ∧ q_is (q_z f1 sr 0) xc ∧ q_gr f1 sr)) := by
  refine q_ofb (by decide +kernel) hN hT (Nat.le_of_ble_eq_true rfl) ?_
  intro p e s m below meth c ls cx hr hlk hB hl
  have hl : lv_has ls 4 [(0, .ref mo), (1, .int (q_i a0))] := hl
  have J22 : ∀ (n : Nat) (f22 : Nat → va_E) (v22_2 : Int) (lv22_2 : 0 ≤ v22_2) (uv22_2 : v22_2 ≤ 200) (v22_3 : Int) (lv22_3 : (-2147483648) ≤ v22_3) (uv22_3 : v22_3 ≤ 2147483647) (w22_aw_2 : Int) (lw22_aw_2 : 4 ≤ w22_aw_2) (uw22_aw_2 : w22_aw_2 ≤ 60) (w22_sr_3 : Int) (lw22_sr_3 : 0 ≤ w22_sr_3) (uw22_sr_3 : w22_sr_3 ≤ 10199) (bla0 : 0 ≤ a0) (bua0 : a0 ≤ 9) (hj_sr_4 : q_is (q_z f22 sr 4) xm) (hj_sr_0 : q_is (q_z f22 sr 0) xc) (hj_aw_2 : q_is (q_z f22 aw 2) w22_aw_2) (hj_aw_0 : q_is (q_z f22 aw 0) xc) (hj_sr_3 : q_is (q_z f22 sr 3) w22_sr_3) (hq_mo_13 : q_ir (q_r f22 mo 13) sr) (hq_mo_24 : q_ir (q_r f22 mo 24) hp) (hq_mo_25 : q_ir (q_r f22 mo 25) dy) (hq_mo_16 : q_ir (q_r f22 mo 16) aw) (hgr22 : q_gr f22 sr) (hrl22_0 : 0 ≤ 1 * w22_sr_3 + -1 * xt + -1 * v22_2 + 0 ∧ 1 * w22_sr_3 + -1 * xt + -1 * v22_2 + 0 ≤ 0) (hrl22_1 : 0 ≤ 1 * v22_2 + 0 ∧ 1 * v22_2 + 0 ≤ 200) (hmu : (Int.toNat (201 - v22_2)) < n) (H : Heap) (locs : List Loc) (hB : q_B g K L (fun q => q ∈ L) [(12, 0, 0), (12, 26, 28), (151, 0, 657), (154, 0, 657), (159, 0, 9), (160, 0, 9)] f f22 s H locs) (ls : Array Slot) (hl : lv_has ls 4 [(0, .ref mo), (1, .int (q_i a0)), (2, .int (q_i v22_2)), (3, .int (q_i v22_3))]), W p l e { frames := 9, cells := 0, slots := 0, locals := 205 } s m ([.ref mo, .int (q_i a0)] : List Value).toArray below meth c H locs 0 0 (MQ below (q_Q g K L [(12, 0, 0), (12, 26, 28), (151, 0, 657), (154, 0, 657), (159, 0, 9), (160, 0, 9)] f (q_Pi (fun (z : Int) (f1 : Nat → va_E) => (-1) ≤ z ∧ z ≤ 200 ∧ 0 ≤ q_z f1 sr 3 ∧ q_z f1 sr 3 ≤ 9999 ∧ 0 ≤ q_z f1 sr 4 ∧ q_z f1 sr 4 ≤ 60 ∧ q_is (q_z f1 sr 0) xc ∧ q_gr f1 sr))) ([.ref mo, .int (q_i a0)] : List Value).toArray s 0 0 (fun q => q ∈ L)) (F0 m 22 ls []) := by
    intro n
    induction n with
    | zero =>
      intro f22 v22_2 lv22_2 uv22_2 v22_3 lv22_3 uv22_3 w22_aw_2 lw22_aw_2 uw22_aw_2 w22_sr_3 lw22_sr_3 uw22_sr_3 bla0 bua0 hj_sr_4 hj_sr_0 hj_aw_2 hj_aw_0 hj_sr_3 hq_mo_13 hq_mo_24 hq_mo_25 hq_mo_16 hgr22 hrl22_0 hrl22_1 hmu
      exact absurd hmu (Nat.not_lt_zero _)
    | succ n ih22 =>
      intro f22 v22_2 lv22_2 uv22_2 v22_3 lv22_3 uv22_3 w22_aw_2 lw22_aw_2 uw22_aw_2 w22_sr_3 lw22_sr_3 uw22_sr_3 bla0 bua0 hj_sr_4 hj_sr_0 hj_aw_2 hj_aw_0 hj_sr_3 hq_mo_13 hq_mo_24 hq_mo_25 hq_mo_16 hgr22 hrl22_0 hrl22_1 hmu H locs hB ls hl
      refine q_ild_n cx dX12_outIn_22 rfl (lv_at hl 2 rfl) ?_
      refine q_sipush cx dX12_outIn_23 rfl ?_
      refine q_icge (tgt := 50) cx ⟨by omega, by omega⟩ ⟨by decide, by decide⟩ dX12_outIn_26 (by decide) (fun c224 => ?_) (fun c224 => ?_)
      · refine q_ald_n cx dX12_outIn_50 rfl (lv_at hl 0 rfl) ?_
        refine q_ald_n cx dX12_outIn_51 rfl (lv_at hl 0 rfl) ?_
        refine q_ild_n cx dX12_outIn_52 rfl (lv_at hl 1 rfl) ?_
        refine q_cVi (As := [.int (q_i a0)]) (rest := [.ref mo]) cx hB (fun _ h => h) hN hmo kmo (by decide) rfl (r_isOut l g hN hB.2.1 mo hmo kmo a0 (by omega) (by omega) sr hsr ksr hq_mo_13 hgr22) q_cX12_271 q_dX12_isOut (by decide) rfl rfl hl.1 rfl (Nat.le_of_ble_eq_true rfl) dX12_outIn_53 (fun y226 H locs f225 ry226 h227 hF hB => ?_)
        obtain ⟨rfl, ly226, uy226⟩ := h227
        refine q_ifeq (tgt := 63) cx ⟨by omega, by omega⟩ dX12_outIn_56 (by decide) (fun c228 => ?_) (fun c228 => ?_)
        · refine q_iconst cx dX12_outIn_63 ?_
          refine q_cVi (As := [.int (q_i (-1))]) (rest := []) cx hB (fun _ h => h) hN hmo kmo (by decide) rfl (r_comesBack l g hN hB.2.1 mo hmo kmo (-1) (by decide) (by decide) sr hsr ksr aw haw kaw w22_aw_2 (by omega) (by omega) xc (by omega) (by omega) hj_aw_2 hj_aw_0 hq_mo_13 hq_mo_16) q_cX12_411 q_dX12_comesBack (by decide) rfl rfl hl.1 rfl (Nat.le_of_ble_eq_true rfl) dX12_outIn_64 (fun y230 H locs f229 ry230 h231 hF hB => ?_)
          obtain ⟨qy230, lz232, uz232, lz233, uz233, z234, g235⟩ := h231
          have z236 : q_is (q_z f229 aw 2) w22_aw_2 := Eq.trans (hF.z haw (by rw [kaw]; rfl)) hj_aw_2
          have z237 : q_is (q_z f229 aw 0) xc := Eq.trans (hF.z haw (by rw [kaw]; rfl)) hj_aw_0
          have z238 : q_ir (q_r f229 mo 13) sr := Eq.trans (hF.r hmo (by rw [kmo]; rfl)) hq_mo_13
          have z239 : q_ir (q_r f229 mo 24) hp := Eq.trans (hF.r hmo (by rw [kmo]; rfl)) hq_mo_24
          have z240 : q_ir (q_r f229 mo 25) dy := Eq.trans (hF.r hmo (by rw [kmo]; rfl)) hq_mo_25
          have z241 : q_ir (q_r f229 mo 16) aw := Eq.trans (hF.r hmo (by rw [kmo]; rfl)) hq_mo_16
          obtain ⟨x242, ex242⟩ : ∃ zz, q_is (q_z f229 sr 3) zz := ⟨_, q_isr _⟩
          obtain ⟨lx242, ux242⟩ := q_isb ex242 ⟨lz232, uz232⟩
          obtain ⟨x243, ex243⟩ : ∃ zz, q_is (q_z f229 sr 4) zz := ⟨_, q_isr _⟩
          obtain ⟨lx243, ux243⟩ := q_isb ex243 ⟨lz233, uz233⟩
          subst qy230
          refine q_iret cx hr hlk hB dX12_outIn_67 ⟨by decide, by decide⟩ ?_
          exact ⟨(by decide), (by decide), (q_isl ex242 (by omega)), (q_isu ex242 (by omega)), (q_isl ex243 (by omega)), (q_isu ex243 (by omega)), z234, g235⟩
        · refine q_ild_n cx dX12_outIn_59 rfl (lv_at hl 2 rfl) ?_
          refine lv_goto (tgt := 64) cx.1 cx.2.1 dX12_outIn_60 (by decide) ?_
          refine q_cVi (As := [.int (q_i v22_2)]) (rest := []) cx hB (fun _ h => h) hN hmo kmo (by decide) rfl (r_comesBack l g hN hB.2.1 mo hmo kmo v22_2 (by omega) (by omega) sr hsr ksr aw haw kaw w22_aw_2 (by omega) (by omega) xc (by omega) (by omega) hj_aw_2 hj_aw_0 hq_mo_13 hq_mo_16) q_cX12_411 q_dX12_comesBack (by decide) rfl rfl hl.1 rfl (Nat.le_of_ble_eq_true rfl) dX12_outIn_64 (fun y245 H locs f244 ry245 h246 hF hB => ?_)
          obtain ⟨qy245, lz247, uz247, lz248, uz248, z249, g250⟩ := h246
          have z251 : q_is (q_z f244 aw 2) w22_aw_2 := Eq.trans (hF.z haw (by rw [kaw]; rfl)) hj_aw_2
          have z252 : q_is (q_z f244 aw 0) xc := Eq.trans (hF.z haw (by rw [kaw]; rfl)) hj_aw_0
          have z253 : q_ir (q_r f244 mo 13) sr := Eq.trans (hF.r hmo (by rw [kmo]; rfl)) hq_mo_13
          have z254 : q_ir (q_r f244 mo 24) hp := Eq.trans (hF.r hmo (by rw [kmo]; rfl)) hq_mo_24
          have z255 : q_ir (q_r f244 mo 25) dy := Eq.trans (hF.r hmo (by rw [kmo]; rfl)) hq_mo_25
          have z256 : q_ir (q_r f244 mo 16) aw := Eq.trans (hF.r hmo (by rw [kmo]; rfl)) hq_mo_16
          obtain ⟨x257, ex257⟩ : ∃ zz, q_is (q_z f244 sr 3) zz := ⟨_, q_isr _⟩
          obtain ⟨lx257, ux257⟩ := q_isb ex257 ⟨lz247, uz247⟩
          obtain ⟨x258, ex258⟩ : ∃ zz, q_is (q_z f244 sr 4) zz := ⟨_, q_isr _⟩
          obtain ⟨lx258, ux258⟩ := q_isb ex258 ⟨lz248, uz248⟩
          refine q_iret cx hr hlk hB dX12_outIn_67 ⟨by omega, by omega⟩ ?_
          exact ⟨(by omega), (by omega), (q_isl ex257 (by omega)), (q_isu ex257 (by omega)), (q_isl ex258 (by omega)), (q_isu ex258 (by omega)), z249, g250⟩
      · refine q_ald_n cx dX12_outIn_29 rfl (lv_at hl 0 rfl) ?_
        refine q_ild_n cx dX12_outIn_30 rfl (lv_at hl 1 rfl) ?_
        refine q_cVi (As := [.int (q_i a0)]) (rest := []) cx hB (fun _ h => h) hN hmo kmo (by decide) rfl (r_isOut l g hN hB.2.1 mo hmo kmo a0 (by omega) (by omega) sr hsr ksr hq_mo_13 hgr22) q_cX12_271 q_dX12_isOut (by decide) rfl rfl hl.1 rfl (Nat.le_of_ble_eq_true rfl) dX12_outIn_31 (fun y260 H locs f259 ry260 h261 hF hB => ?_)
        obtain ⟨rfl, ly260, uy260⟩ := h261
        refine q_ifne (tgt := 50) cx ⟨by omega, by omega⟩ dX12_outIn_34 (by decide) (fun c262 => ?_) (fun c262 => ?_)
        · refine q_ald_n cx dX12_outIn_50 rfl (lv_at hl 0 rfl) ?_
          refine q_ald_n cx dX12_outIn_51 rfl (lv_at hl 0 rfl) ?_
          refine q_ild_n cx dX12_outIn_52 rfl (lv_at hl 1 rfl) ?_
          refine q_cVi (As := [.int (q_i a0)]) (rest := [.ref mo]) cx hB (fun _ h => h) hN hmo kmo (by decide) rfl (r_isOut l g hN hB.2.1 mo hmo kmo a0 (by omega) (by omega) sr hsr ksr hq_mo_13 hgr22) q_cX12_271 q_dX12_isOut (by decide) rfl rfl hl.1 rfl (Nat.le_of_ble_eq_true rfl) dX12_outIn_53 (fun y264 H locs f263 ry264 h265 hF hB => ?_)
          obtain ⟨rfl, ly264, uy264⟩ := h265
          refine q_ifeq (tgt := 63) cx ⟨by omega, by omega⟩ dX12_outIn_56 (by decide) (fun c266 => ?_) (fun c266 => ?_)
          · refine q_iconst cx dX12_outIn_63 ?_
            refine q_cVi (As := [.int (q_i (-1))]) (rest := []) cx hB (fun _ h => h) hN hmo kmo (by decide) rfl (r_comesBack l g hN hB.2.1 mo hmo kmo (-1) (by decide) (by decide) sr hsr ksr aw haw kaw w22_aw_2 (by omega) (by omega) xc (by omega) (by omega) hj_aw_2 hj_aw_0 hq_mo_13 hq_mo_16) q_cX12_411 q_dX12_comesBack (by decide) rfl rfl hl.1 rfl (Nat.le_of_ble_eq_true rfl) dX12_outIn_64 (fun y268 H locs f267 ry268 h269 hF hB => ?_)
            obtain ⟨qy268, lz270, uz270, lz271, uz271, z272, g273⟩ := h269
            have z274 : q_is (q_z f267 aw 2) w22_aw_2 := Eq.trans (hF.z haw (by rw [kaw]; rfl)) hj_aw_2
            have z275 : q_is (q_z f267 aw 0) xc := Eq.trans (hF.z haw (by rw [kaw]; rfl)) hj_aw_0
            have z276 : q_ir (q_r f267 mo 13) sr := Eq.trans (hF.r hmo (by rw [kmo]; rfl)) hq_mo_13
            have z277 : q_ir (q_r f267 mo 24) hp := Eq.trans (hF.r hmo (by rw [kmo]; rfl)) hq_mo_24
            have z278 : q_ir (q_r f267 mo 25) dy := Eq.trans (hF.r hmo (by rw [kmo]; rfl)) hq_mo_25
            have z279 : q_ir (q_r f267 mo 16) aw := Eq.trans (hF.r hmo (by rw [kmo]; rfl)) hq_mo_16
            obtain ⟨x280, ex280⟩ : ∃ zz, q_is (q_z f267 sr 3) zz := ⟨_, q_isr _⟩
            obtain ⟨lx280, ux280⟩ := q_isb ex280 ⟨lz270, uz270⟩
            obtain ⟨x281, ex281⟩ : ∃ zz, q_is (q_z f267 sr 4) zz := ⟨_, q_isr _⟩
            obtain ⟨lx281, ux281⟩ := q_isb ex281 ⟨lz271, uz271⟩
            subst qy268
            refine q_iret cx hr hlk hB dX12_outIn_67 ⟨by decide, by decide⟩ ?_
            exact ⟨(by decide), (by decide), (q_isl ex280 (by omega)), (q_isu ex280 (by omega)), (q_isl ex281 (by omega)), (q_isu ex281 (by omega)), z272, g273⟩
          · refine q_ild_n cx dX12_outIn_59 rfl (lv_at hl 2 rfl) ?_
            refine lv_goto (tgt := 64) cx.1 cx.2.1 dX12_outIn_60 (by decide) ?_
            refine q_cVi (As := [.int (q_i v22_2)]) (rest := []) cx hB (fun _ h => h) hN hmo kmo (by decide) rfl (r_comesBack l g hN hB.2.1 mo hmo kmo v22_2 (by omega) (by omega) sr hsr ksr aw haw kaw w22_aw_2 (by omega) (by omega) xc (by omega) (by omega) hj_aw_2 hj_aw_0 hq_mo_13 hq_mo_16) q_cX12_411 q_dX12_comesBack (by decide) rfl rfl hl.1 rfl (Nat.le_of_ble_eq_true rfl) dX12_outIn_64 (fun y283 H locs f282 ry283 h284 hF hB => ?_)
            obtain ⟨qy283, lz285, uz285, lz286, uz286, z287, g288⟩ := h284
            have z289 : q_is (q_z f282 aw 2) w22_aw_2 := Eq.trans (hF.z haw (by rw [kaw]; rfl)) hj_aw_2
            have z290 : q_is (q_z f282 aw 0) xc := Eq.trans (hF.z haw (by rw [kaw]; rfl)) hj_aw_0
            have z291 : q_ir (q_r f282 mo 13) sr := Eq.trans (hF.r hmo (by rw [kmo]; rfl)) hq_mo_13
            have z292 : q_ir (q_r f282 mo 24) hp := Eq.trans (hF.r hmo (by rw [kmo]; rfl)) hq_mo_24
            have z293 : q_ir (q_r f282 mo 25) dy := Eq.trans (hF.r hmo (by rw [kmo]; rfl)) hq_mo_25
            have z294 : q_ir (q_r f282 mo 16) aw := Eq.trans (hF.r hmo (by rw [kmo]; rfl)) hq_mo_16
            obtain ⟨x295, ex295⟩ : ∃ zz, q_is (q_z f282 sr 3) zz := ⟨_, q_isr _⟩
            obtain ⟨lx295, ux295⟩ := q_isb ex295 ⟨lz285, uz285⟩
            obtain ⟨x296, ex296⟩ : ∃ zz, q_is (q_z f282 sr 4) zz := ⟨_, q_isr _⟩
            obtain ⟨lx296, ux296⟩ := q_isb ex296 ⟨lz286, uz286⟩
            refine q_iret cx hr hlk hB dX12_outIn_67 ⟨by omega, by omega⟩ ?_
            exact ⟨(by omega), (by omega), (q_isl ex295 (by omega)), (q_isu ex295 (by omega)), (q_isl ex296 (by omega)), (q_isu ex296 (by omega)), z287, g288⟩
        · refine q_ild_n cx dX12_outIn_37 rfl (lv_at hl 3 rfl) ?_
          refine q_ald_n cx dX12_outIn_38 rfl (lv_at hl 0 rfl) ?_
          refine q_cVi (As := []) (rest := [.int (q_i v22_3)]) cx hB (fun _ h => h) hN hmo kmo (by decide) rfl (r_ticksOnce l g hN hB.2.1 mo hmo kmo sr hsr ksr hp hhp khp dy hdy kdy w22_sr_3 (by omega) (by omega) xm (by omega) (by omega) hj_sr_3 hj_sr_4 hq_mo_13 hq_mo_24 hq_mo_25 hgr22) q_cX12_338 q_dX12_ticksOnce (by decide) rfl rfl hl.1 rfl (Nat.le_of_ble_eq_true rfl) dX12_outIn_39 (fun y298 H locs f297 ry298 h299 hF hB => ?_)
          obtain ⟨z300, z301, g302⟩ := h299
          have z303 : q_is (q_z f297 sr 4) xm := Eq.trans (hF.z hsr (by rw [ksr]; rfl)) hj_sr_4
          have z304 : q_is (q_z f297 sr 0) xc := Eq.trans (hF.z hsr (by rw [ksr]; rfl)) hj_sr_0
          have z305 : q_is (q_z f297 aw 2) w22_aw_2 := Eq.trans (hF.z haw (by rw [kaw]; rfl)) hj_aw_2
          have z306 : q_is (q_z f297 aw 0) xc := Eq.trans (hF.z haw (by rw [kaw]; rfl)) hj_aw_0
          have z307 : q_ir (q_r f297 mo 13) sr := Eq.trans (hF.r hmo (by rw [kmo]; rfl)) hq_mo_13
          have z308 : q_ir (q_r f297 mo 24) hp := Eq.trans (hF.r hmo (by rw [kmo]; rfl)) hq_mo_24
          have z309 : q_ir (q_r f297 mo 25) dy := Eq.trans (hF.r hmo (by rw [kmo]; rfl)) hq_mo_25
          have z310 : q_ir (q_r f297 mo 16) aw := Eq.trans (hF.r hmo (by rw [kmo]; rfl)) hq_mo_16
          refine q_iadd cx dX12_outIn_42 ?_
          refine q_any (fun y311 ry311 ey311 => ?_)
          refine lv_istore_n (lv' := [(3, .int (q_i y311)), (0, .ref mo), (1, .int (q_i a0)), (2, .int (q_i v22_2))]) cx.1 cx.2.1 dX12_outIn_43 rfl hl (by decide) rfl (fun ls hl => ?_)
          refine q_iinc (lv' := [(2, .int (q_i (v22_2 + 1))), (3, .int (q_i y311)), (0, .ref mo), (1, .int (q_i a0))]) cx dX12_outIn_44 hl (k := 3) rfl (by decide) rfl (fun ls hl => ?_)
          refine lv_goto (tgt := 22) cx.1 cx.2.1 dX12_outIn_47 (by decide) ?_
          exact ih22 f297 (v22_2 + 1) (by omega) (by omega) y311 (by omega) (by omega) w22_aw_2 (by omega) (by omega) (w22_sr_3 + 1) (by omega) (by omega) (by omega) (by omega) z301 z304 z305 z306 z300 z307 z308 z309 z310 g302 (by omega) (by omega) (by omega) H locs hB ls (lv_sub hl [2, 3, 0, 1] rfl)
  obtain ⟨H, hH⟩ : ∃ H : Heap, H = s.heap := ⟨_, rfl⟩
  obtain ⟨locs, hlocs⟩ : ∃ z : List Loc, z = [] := ⟨_, rfl⟩
  rw [← hH, ← hlocs] at hB
  rw [← hH, ← hlocs]
  refine q_ald_n cx dX12_outIn_0 rfl (lv_at hl 0 rfl) ?_
  refine q_ald_n cx dX12_outIn_1 rfl (lv_at hl 0 rfl) ?_
  refine q_ild_n cx dX12_outIn_2 rfl (lv_at hl 1 rfl) ?_
  refine q_cVi (As := [.int (q_i a0)]) (rest := [.ref mo]) cx hB (fun _ h => h) hN hmo kmo (by decide) rfl (r_isNode l g hN hB.2.1 mo hmo kmo a0 (by omega) (by omega) sr hsr ksr hr0) q_cX12_355 q_dX12_isNode (by decide) rfl rfl hl.1 rfl (Nat.le_of_ble_eq_true rfl) dX12_outIn_3 (fun y313 H locs f312 ry313 h314 hF hB => ?_)
  rcases h314 with h315 | h316
  · obtain ⟨rfl, qy313, t317, t318⟩ := h315
    subst qy313
    refine q_cVi (As := [.int (q_i 1)]) (rest := []) cx hB (fun _ h => h) hN hmo kmo (by decide) rfl (r_goes1 l g hN hB.2.1 mo hmo kmo 1 (by decide) (by decide)) q_cX12_85 q_dX12_goes (by decide) rfl rfl hl.1 rfl (Nat.le_of_ble_eq_true rfl) dX12_outIn_6 (fun y320 H locs f319 ry320 h321 hF hB => ?_)
    obtain ⟨qy320, z322⟩ := h321
    have z323 : q_is (q_z f319 sr 3) xt := Eq.trans (hF.z hsr (by rw [ksr]; rfl)) hf0
    have z324 : q_is (q_z f319 sr 4) xm := Eq.trans (hF.z hsr (by rw [ksr]; rfl)) hf1
    have z325 : q_is (q_z f319 sr 0) xc := Eq.trans (hF.z hsr (by rw [ksr]; rfl)) hf2
    have z326 : q_ir (q_r f319 mo 13) sr := Eq.trans (hF.r hmo (by rw [kmo]; rfl)) hr0
    have z327 : q_ir (q_r f319 mo 24) hp := Eq.trans (hF.r hmo (by rw [kmo]; rfl)) hr1
    have z328 : q_ir (q_r f319 mo 25) dy := Eq.trans (hF.r hmo (by rw [kmo]; rfl)) hr2
    have z329 : q_ir (q_r f319 mo 16) aw := Eq.trans (hF.r hmo (by rw [kmo]; rfl)) hr3
    have g330 : q_gr f319 sr := q_gr_fr hgr (fun i9 _ => hF.z hsr (by rw [ksr]; rfl))
    subst qy320
    refine q_ifne (tgt := 14) cx ⟨by decide, by decide⟩ dX12_outIn_9 (by decide) (fun c331 => ?_) (fun c331 => ?_)
    · refine q_ald_n cx dX12_outIn_14 rfl (lv_at hl 0 rfl) ?_
      refine q_cVv (As := []) (rest := []) cx hB (fun _ h => h) hN hmo kmo (by decide) rfl (r_leaves l g hN hB.2.1 mo hmo kmo sr hsr ksr aw haw kaw xt (by omega) (by omega) xm (by omega) (by omega) xc (by omega) (by omega) z323 z324 z325 z326 z329 g330) q_cX12_405 q_dX12_leaves (by decide) rfl rfl hl.1 rfl (Nat.le_of_ble_eq_true rfl) dX12_outIn_15 (fun H locs f332 h334 hF hB => ?_)
      obtain ⟨lz335, uz335, z336⟩ := h334
      have z337 : q_is (q_z f332 sr 3) xt := Eq.trans (hF.z hsr (by rw [ksr]; rfl)) z323
      have z338 : q_is (q_z f332 sr 4) xm := Eq.trans (hF.z hsr (by rw [ksr]; rfl)) z324
      have z339 : q_is (q_z f332 sr 0) xc := Eq.trans (hF.z hsr (by rw [ksr]; rfl)) z325
      have z340 : q_is (q_z f332 mo 0) 0 := Eq.trans (hF.z hmo (by rw [kmo]; rfl)) z322
      have z341 : q_ir (q_r f332 mo 13) sr := Eq.trans (hF.r hmo (by rw [kmo]; rfl)) z326
      have z342 : q_ir (q_r f332 mo 24) hp := Eq.trans (hF.r hmo (by rw [kmo]; rfl)) z327
      have z343 : q_ir (q_r f332 mo 25) dy := Eq.trans (hF.r hmo (by rw [kmo]; rfl)) z328
      have z344 : q_ir (q_r f332 mo 16) aw := Eq.trans (hF.r hmo (by rw [kmo]; rfl)) z329
      have g345 : q_gr f332 sr := q_gr_fr g330 (fun i9 _ => hF.z hsr (by rw [ksr]; rfl))
      obtain ⟨x346, ex346⟩ : ∃ zz, q_is (q_z f332 aw 2) zz := ⟨_, q_isr _⟩
      obtain ⟨lx346, ux346⟩ := q_isb ex346 ⟨lz335, uz335⟩
      refine q_iconst cx dX12_outIn_18 ?_
      refine lv_istore_n (lv' := [(2, .int (q_i 0)), (0, .ref mo), (1, .int (q_i a0))]) cx.1 cx.2.1 dX12_outIn_19 rfl hl (by decide) rfl (fun ls hl => ?_)
      refine q_iconst cx dX12_outIn_20 ?_
      refine lv_istore_n (lv' := [(3, .int (q_i 0)), (2, .int (q_i 0)), (0, .ref mo), (1, .int (q_i a0))]) cx.1 cx.2.1 dX12_outIn_21 rfl hl (by decide) rfl (fun ls hl => ?_)
      exact J22 ((Int.toNat (201 - 0)) + 1) f332 0 (by decide) (by decide) 0 (by decide) (by decide) x346 (by omega) (by omega) xt (by omega) (by omega) (by omega) (by omega) z338 z339 ex346 z336 z337 z341 z342 z343 z344 g345 (by omega) (by omega) (Nat.lt_succ_self _) H locs hB ls (lv_sub hl [2, 3, 1, 0] rfl)
    · exact absurd c331 (by omega)
  · obtain ⟨rfl, qy313⟩ := h316
    subst qy313
    refine q_cVi (As := [.int (q_i 0)]) (rest := []) cx hB (fun _ h => h) hN hmo kmo (by decide) rfl (r_goes0 l g hN hB.2.1 mo hmo kmo 0 (by decide) (by decide)) q_cX12_85 q_dX12_goes (by decide) rfl rfl hl.1 rfl (Nat.le_of_ble_eq_true rfl) dX12_outIn_6 (fun y348 H locs f347 ry348 h349 hF hB => ?_)
    obtain ⟨qy348, z350⟩ := h349
    have z351 : q_is (q_z f347 sr 3) xt := Eq.trans (hF.z hsr (by rw [ksr]; rfl)) hf0
    have z352 : q_is (q_z f347 sr 4) xm := Eq.trans (hF.z hsr (by rw [ksr]; rfl)) hf1
    have z353 : q_is (q_z f347 sr 0) xc := Eq.trans (hF.z hsr (by rw [ksr]; rfl)) hf2
    have z354 : q_ir (q_r f347 mo 13) sr := Eq.trans (hF.r hmo (by rw [kmo]; rfl)) hr0
    have z355 : q_ir (q_r f347 mo 24) hp := Eq.trans (hF.r hmo (by rw [kmo]; rfl)) hr1
    have z356 : q_ir (q_r f347 mo 25) dy := Eq.trans (hF.r hmo (by rw [kmo]; rfl)) hr2
    have z357 : q_ir (q_r f347 mo 16) aw := Eq.trans (hF.r hmo (by rw [kmo]; rfl)) hr3
    have g358 : q_gr f347 sr := q_gr_fr hgr (fun i9 _ => hF.z hsr (by rw [ksr]; rfl))
    subst qy348
    refine q_ifne (tgt := 14) cx ⟨by decide, by decide⟩ dX12_outIn_9 (by decide) (fun c359 => ?_) (fun c359 => ?_)
    · exact absurd c359 (by omega)
    · refine q_iconst cx dX12_outIn_12 ?_
      refine q_iret cx hr hlk hB dX12_outIn_13 ⟨by decide, by decide⟩ ?_
      exact ⟨(by decide), (by decide), (q_isl z351 (by omega)), (q_isu z351 (by omega)), (q_isl z352 (by omega)), (q_isu z352 (by omega)), z353, g358⟩
