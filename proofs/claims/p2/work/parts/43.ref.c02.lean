set_option maxHeartbeats 4000000 in
set_option maxRecDepth 100000 in
theorem r_looksAt (l : Launch) (g : q_G) {K : Nat → Nat} {L : List Nat} (hN : L.Nodup) {f : Nat → va_E} (hT : q_Ty g K L f) (mo : Nat) (hmo : mo ∈ L) (kmo : K mo = 12) (a0 : Int) (la0 : 0 ≤ a0) (ua0 : a0 ≤ 15) (sr : Nat) (hsr : sr ∈ L) (ksr : K sr = 151) (dy : Nat) (hdy : dy ∈ L) (kdy : K dy = 160) (hr0 : q_ir (q_r f mo 13) sr) (hr1 : q_ir (q_r f mo 25) dy) (hgr : q_gr f sr) : q_Ct l g K L yX12_looksAt cX12_looksAt 7 none 3 67 [.ref mo, .int (q_i a0)] f [(151, 9, 9), (151, 11, 83), (151, 92, 169)] (q_Pv (fun (f1 : Nat → va_E) => q_gr f1 sr)) := by
  refine q_ofb (by decide +kernel) hN hT (Nat.le_of_ble_eq_true rfl) ?_
  intro p e s m below meth c ls cx hr hlk hB hl
  have hl : lv_has ls 7 [(0, .ref mo), (1, .int (q_i a0))] := hl
  obtain ⟨H, hH⟩ : ∃ H : Heap, H = s.heap := ⟨_, rfl⟩
  obtain ⟨locs, hlocs⟩ : ∃ z : List Loc, z = [] := ⟨_, rfl⟩
  rw [← hH, ← hlocs] at hB
  rw [← hH, ← hlocs]
  refine q_ald_n cx dX12_looksAt_0 rfl (lv_at hl 0 rfl) ?_
  refine q_ild_n cx dX12_looksAt_1 rfl (lv_at hl 1 rfl) ?_
  refine q_iconst cx dX12_looksAt_2 ?_
  refine q_cVi (As := [.int (q_i a0), .int (q_i 0)]) (rest := []) cx hB (fun _ h => h) hN hmo kmo (by decide) rfl (r_ofLink0 l g hN hB.2.1 mo hmo kmo a0 (by omega) (by omega) 0 (by decide) (by decide) sr hsr ksr hr0 hgr) q_cX12_210 q_dX12_ofLink (by decide) rfl rfl hl.1 rfl (Nat.le_of_ble_eq_true rfl) dX12_looksAt_3 (fun y93 H locs f92 ry93 h94 hF hB => ?_)
  obtain ⟨rfl, ly93, uy93⟩ := h94
  refine lv_istore_n (lv' := [(2, .int (q_i y93)), (0, .ref mo), (1, .int (q_i a0))]) cx.1 cx.2.1 dX12_looksAt_6 rfl hl (by decide) rfl (fun ls hl => ?_)
  refine q_ald_n cx dX12_looksAt_7 rfl (lv_at hl 1 rfl) ?_
  refine q_ild_n cx dX12_looksAt_8 rfl (lv_at hl 2 rfl) ?_
  refine q_iconst cx dX12_looksAt_9 ?_
  refine q_cVi (As := [.int (q_i a0), .int (q_i 1)]) (rest := []) cx hB (fun _ h => h) hN hmo kmo (by decide) rfl (r_ofLink1 l g hN hB.2.1 mo hmo kmo a0 (by omega) (by omega) 1 (by decide) (by decide) sr hsr ksr hr0 hgr) q_cX12_210 q_dX12_ofLink (by decide) rfl rfl hl.1 rfl (Nat.le_of_ble_eq_true rfl) dX12_looksAt_10 (fun y96 H locs f95 ry96 h97 hF hB => ?_)
  obtain ⟨rfl, ly96, uy96⟩ := h97
  refine lv_istore_n (lv' := [(3, .int (q_i y96)), (2, .int (q_i y93)), (0, .ref mo), (1, .int (q_i a0))]) cx.1 cx.2.1 dX12_looksAt_13 rfl hl (by decide) rfl (fun ls hl => ?_)
  refine q_ald_n cx dX12_looksAt_14 rfl (lv_at hl 2 rfl) ?_
  refine q_ild_n cx dX12_looksAt_15 rfl (lv_at hl 1 rfl) ?_
  refine q_cVi (As := [.int (q_i y93)]) (rest := []) cx hB (fun _ h => h) hN hmo kmo (by decide) rfl (r_isOut l g hN hB.2.1 mo hmo kmo y93 (by omega) (by omega) sr hsr ksr hr0 hgr) q_cX12_271 q_dX12_isOut (by decide) rfl rfl hl.1 rfl (Nat.le_of_ble_eq_true rfl) dX12_looksAt_16 (fun y99 H locs f98 ry99 h100 hF hB => ?_)
  obtain ⟨rfl, ly99, uy99⟩ := h100
  refine q_ifne (tgt := 30) cx ⟨by omega, by omega⟩ dX12_looksAt_19 (by decide) (fun c101 => ?_) (fun c101 => ?_)
  · refine q_vret cx hr hlk hB dX12_looksAt_30 ?_
    exact hgr
  · refine q_ald_n cx dX12_looksAt_22 rfl (lv_at hl 2 rfl) ?_
    refine q_ild_n cx dX12_looksAt_23 rfl (lv_at hl 0 rfl) ?_
    refine q_cVi (As := [.int (q_i y96)]) (rest := []) cx hB (fun _ h => h) hN hmo kmo (by decide) rfl (r_isOut l g hN hB.2.1 mo hmo kmo y96 (by omega) (by omega) sr hsr ksr hr0 hgr) q_cX12_271 q_dX12_isOut (by decide) rfl rfl hl.1 rfl (Nat.le_of_ble_eq_true rfl) dX12_looksAt_24 (fun y103 H locs f102 ry103 h104 hF hB => ?_)
    obtain ⟨rfl, ly103, uy103⟩ := h104
    refine q_ifeq (tgt := 31) cx ⟨by omega, by omega⟩ dX12_looksAt_27 (by decide) (fun c105 => ?_) (fun c105 => ?_)
    · refine q_ald_n cx dX12_looksAt_31 rfl (lv_at hl 2 rfl) ?_
      obtain ⟨x106, ex106⟩ : ∃ zz, q_is (q_z f mo 26) zz := ⟨_, rfl⟩
      refine q_gX12_283 cx hB hmo kmo ex106 dX12_looksAt_32 (fun lb107 ub107 => ?_)
      refine q_ild_n cx dX12_looksAt_35 rfl (lv_at hl 1 rfl) ?_
      refine q_cSi (As := [.int (q_i x106), .int (q_i y93)]) (rest := []) cx hB (fun _ h => h) hN (r_has l g hN hB.2.1 x106 (by omega) (by omega) y93 (by omega) (by omega)) q_cX12_185 q_dX12_has (by decide) rfl rfl hl.1 rfl (Nat.le_of_ble_eq_true rfl) dX12_looksAt_36 (fun y109 H locs f108 ry109 h110 hF hB => ?_)
      obtain ⟨rfl, ly109, uy109⟩ := h110
      refine lv_istore (lv' := [(4, .int (q_i y109)), (3, .int (q_i y96)), (2, .int (q_i y93)), (0, .ref mo), (1, .int (q_i a0))]) cx.1 cx.2.1 dX12_looksAt_39 hl (by decide) rfl (fun ls hl => ?_)
      refine q_ald_n cx dX12_looksAt_41 rfl (lv_at hl 3 rfl) ?_
      refine q_gX12_283 cx hB hmo kmo ex106 dX12_looksAt_42 (fun lb111 ub111 => ?_)
      refine q_ild_n cx dX12_looksAt_45 rfl (lv_at hl 1 rfl) ?_
      refine q_cSi (As := [.int (q_i x106), .int (q_i y96)]) (rest := []) cx hB (fun _ h => h) hN (r_has l g hN hB.2.1 x106 (by omega) (by omega) y96 (by omega) (by omega)) q_cX12_185 q_dX12_has (by decide) rfl rfl hl.1 rfl (Nat.le_of_ble_eq_true rfl) dX12_looksAt_46 (fun y113 H locs f112 ry113 h114 hF hB => ?_)
      obtain ⟨rfl, ly113, uy113⟩ := h114
      refine lv_istore (lv' := [(5, .int (q_i y113)), (4, .int (q_i y109)), (3, .int (q_i y96)), (2, .int (q_i y93)), (0, .ref mo), (1, .int (q_i a0))]) cx.1 cx.2.1 dX12_looksAt_49 hl (by decide) rfl (fun ls hl => ?_)
      refine lv_iload cx.1 cx.2.1 dX12_looksAt_51 (lv_at hl 1 rfl) ?_
      refine q_ifeq (tgt := 66) cx ⟨by omega, by omega⟩ dX12_looksAt_53 (by decide) (fun c115 => ?_) (fun c115 => ?_)
      · refine lv_iload cx.1 cx.2.1 dX12_looksAt_66 (lv_at hl 1 rfl) ?_
        refine lv_iload cx.1 cx.2.1 dX12_looksAt_68 (lv_at hl 0 rfl) ?_
        refine q_icne (tgt := 74) cx ⟨by omega, by omega⟩ ⟨by omega, by omega⟩ dX12_looksAt_70 (by decide) (fun c116 => ?_) (fun c116 => ?_)
        · refine lv_iload cx.1 cx.2.1 dX12_looksAt_74 (lv_at hl 1 rfl) ?_
          refine q_ifeq (tgt := 88) cx ⟨by omega, by omega⟩ dX12_looksAt_76 (by decide) (fun c117 => ?_) (fun c117 => ?_)
          · refine q_ald_n cx dX12_looksAt_88 rfl (lv_at hl 4 rfl) ?_
            refine q_gX12_48 cx hB hmo kmo hr1 dX12_looksAt_89 (fun hb118 kb118 => ?_)
            refine q_ild_n cx dX12_looksAt_92 rfl (lv_at hl 2 rfl) ?_
            obtain ⟨x119, ex119⟩ : ∃ zz, q_is (q_z f dy (Int.toNat y96)) zz := ⟨_, rfl⟩
            refine q_iald (lo := 0) (hi := 59) (n := 10) cx hB hdy kdy (by decide) rfl rfl (by omega) (by omega) (by decide) rfl ex119 dX12_looksAt_93 (fun lb120 ub120 => ?_)
            refine lv_istore (lv' := [(6, .int (q_i x119)), (5, .int (q_i y113)), (4, .int (q_i y109)), (3, .int (q_i y96)), (2, .int (q_i y93)), (0, .ref mo), (1, .int (q_i a0))]) cx.1 cx.2.1 dX12_looksAt_94 hl (by decide) rfl (fun ls hl => ?_)
            refine lv_iload cx.1 cx.2.1 dX12_looksAt_96 (lv_at hl 0 rfl) ?_
            refine q_ald_n cx dX12_looksAt_98 rfl (lv_at hl 5 rfl) ?_
            refine q_ild_n cx dX12_looksAt_99 rfl (lv_at hl 4 rfl) ?_
            refine q_iconst cx dX12_looksAt_100 ?_
            refine q_cVi (As := [.int (q_i y93), .int (q_i 0)]) (rest := [.int (q_i x119)]) cx hB (fun _ h => h) hN hmo kmo (by decide) rfl (r_ofNode0 l g hN hB.2.1 mo hmo kmo y93 (by omega) (by omega) 0 (by decide) (by decide) sr hsr ksr hr0 hgr) q_cX12_256 q_dX12_ofNode (by decide) rfl rfl hl.1 rfl (Nat.le_of_ble_eq_true rfl) dX12_looksAt_101 (fun y122 H locs f121 ry122 h123 hF hB => ?_)
            obtain ⟨rfl, ly122, uy122, t124⟩ := h123
            refine q_iceq (tgt := 118) cx ⟨by omega, by omega⟩ ⟨by omega, by omega⟩ dX12_looksAt_104 (by decide) (fun c125 => ?_) (fun c125 => ?_)
            · refine q_ald_n cx dX12_looksAt_118 rfl (lv_at hl 5 rfl) ?_
              refine q_ild_n cx dX12_looksAt_119 rfl (lv_at hl 6 rfl) ?_
              refine q_ild_n cx dX12_looksAt_120 rfl (lv_at hl 4 rfl) ?_
              refine q_ild_n cx dX12_looksAt_121 rfl (lv_at hl 3 rfl) ?_
              refine q_cVv (As := [.int (q_i a0), .int (q_i y93), .int (q_i y96)]) (rest := []) cx hB (fun _ h => h) hN hmo kmo (by decide) rfl (r_misses l g hN hB.2.1 mo hmo kmo a0 (by omega) (by omega) y93 (by omega) (by omega) y96 (by omega) (by omega) sr hsr ksr hr0 hgr) q_cX12_305 q_dX12_misses (by decide) rfl rfl hl.1 rfl (Nat.le_of_ble_eq_true rfl) dX12_looksAt_122 (fun H locs f126 h128 hF hB => ?_)
              have g129 := h128
              have z130 : q_is (q_z f126 mo 26) x106 := Eq.trans (hF.z hmo (by rw [kmo]; rfl)) ex106
              have z131 : q_ir (q_r f126 mo 13) sr := Eq.trans (hF.r hmo (by rw [kmo]; rfl)) hr0
              have z132 : q_ir (q_r f126 mo 25) dy := Eq.trans (hF.r hmo (by rw [kmo]; rfl)) hr1
              refine q_vret cx hr hlk hB dX12_looksAt_125 ?_
              exact g129
            · refine lv_iload cx.1 cx.2.1 dX12_looksAt_107 (lv_at hl 0 rfl) ?_
              refine q_ald_n cx dX12_looksAt_109 rfl (lv_at hl 5 rfl) ?_
              refine q_ild_n cx dX12_looksAt_110 rfl (lv_at hl 3 rfl) ?_
              refine q_iconst cx dX12_looksAt_111 ?_
              refine q_cVi (As := [.int (q_i y96), .int (q_i 0)]) (rest := [.int (q_i x119)]) cx hB (fun _ h => h) hN hmo kmo (by decide) rfl (r_ofNode0 l g hN hB.2.1 mo hmo kmo y96 (by omega) (by omega) 0 (by decide) (by decide) sr hsr ksr hr0 hgr) q_cX12_256 q_dX12_ofNode (by decide) rfl rfl hl.1 rfl (Nat.le_of_ble_eq_true rfl) dX12_looksAt_112 (fun y134 H locs f133 ry134 h135 hF hB => ?_)
              obtain ⟨rfl, ly134, uy134, t136⟩ := h135
              refine q_icne (tgt := 125) cx ⟨by omega, by omega⟩ ⟨by omega, by omega⟩ dX12_looksAt_115 (by decide) (fun c137 => ?_) (fun c137 => ?_)
              · refine q_vret cx hr hlk hB dX12_looksAt_125 ?_
                exact hgr
              · refine q_ald_n cx dX12_looksAt_118 rfl (lv_at hl 5 rfl) ?_
                refine q_ild_n cx dX12_looksAt_119 rfl (lv_at hl 6 rfl) ?_
                refine q_ild_n cx dX12_looksAt_120 rfl (lv_at hl 4 rfl) ?_
                refine q_ild_n cx dX12_looksAt_121 rfl (lv_at hl 3 rfl) ?_
                refine q_cVv (As := [.int (q_i a0), .int (q_i y93), .int (q_i y96)]) (rest := []) cx hB (fun _ h => h) hN hmo kmo (by decide) rfl (r_misses l g hN hB.2.1 mo hmo kmo a0 (by omega) (by omega) y93 (by omega) (by omega) y96 (by omega) (by omega) sr hsr ksr hr0 hgr) q_cX12_305 q_dX12_misses (by decide) rfl rfl hl.1 rfl (Nat.le_of_ble_eq_true rfl) dX12_looksAt_122 (fun H locs f138 h140 hF hB => ?_)
                have g141 := h140
                have z142 : q_is (q_z f138 mo 26) x106 := Eq.trans (hF.z hmo (by rw [kmo]; rfl)) ex106
                have z143 : q_ir (q_r f138 mo 13) sr := Eq.trans (hF.r hmo (by rw [kmo]; rfl)) hr0
                have z144 : q_ir (q_r f138 mo 25) dy := Eq.trans (hF.r hmo (by rw [kmo]; rfl)) hr1
                refine q_vret cx hr hlk hB dX12_looksAt_125 ?_
                exact g141
          · exact absurd c117 (by omega)
        · refine q_vret cx hr hlk hB dX12_looksAt_73 ?_
          exact hgr
      · refine lv_iload cx.1 cx.2.1 dX12_looksAt_56 (lv_at hl 0 rfl) ?_
        refine q_ifeq (tgt := 66) cx ⟨by omega, by omega⟩ dX12_looksAt_58 (by decide) (fun c145 => ?_) (fun c145 => ?_)
        · refine lv_iload cx.1 cx.2.1 dX12_looksAt_66 (lv_at hl 1 rfl) ?_
          refine lv_iload cx.1 cx.2.1 dX12_looksAt_68 (lv_at hl 0 rfl) ?_
          refine q_icne (tgt := 74) cx ⟨by omega, by omega⟩ ⟨by omega, by omega⟩ dX12_looksAt_70 (by decide) (fun c146 => ?_) (fun c146 => ?_)
          · refine lv_iload cx.1 cx.2.1 dX12_looksAt_74 (lv_at hl 1 rfl) ?_
            refine q_ifeq (tgt := 88) cx ⟨by omega, by omega⟩ dX12_looksAt_76 (by decide) (fun c147 => ?_) (fun c147 => ?_)
            · exact absurd c147 (by omega)
            · refine q_ald_n cx dX12_looksAt_79 rfl (lv_at hl 4 rfl) ?_
              refine q_gX12_48 cx hB hmo kmo hr1 dX12_looksAt_80 (fun hb148 kb148 => ?_)
              refine q_ild_n cx dX12_looksAt_83 rfl (lv_at hl 3 rfl) ?_
              obtain ⟨x149, ex149⟩ : ∃ zz, q_is (q_z f dy (Int.toNat y93)) zz := ⟨_, rfl⟩
              refine q_iald (lo := 0) (hi := 59) (n := 10) cx hB hdy kdy (by decide) rfl rfl (by omega) (by omega) (by decide) rfl ex149 dX12_looksAt_84 (fun lb150 ub150 => ?_)
              refine lv_goto (tgt := 94) cx.1 cx.2.1 dX12_looksAt_85 (by decide) ?_
              refine lv_istore (lv' := [(6, .int (q_i x149)), (5, .int (q_i y113)), (4, .int (q_i y109)), (3, .int (q_i y96)), (2, .int (q_i y93)), (0, .ref mo), (1, .int (q_i a0))]) cx.1 cx.2.1 dX12_looksAt_94 hl (by decide) rfl (fun ls hl => ?_)
              refine lv_iload cx.1 cx.2.1 dX12_looksAt_96 (lv_at hl 0 rfl) ?_
              refine q_ald_n cx dX12_looksAt_98 rfl (lv_at hl 5 rfl) ?_
              refine q_ild_n cx dX12_looksAt_99 rfl (lv_at hl 4 rfl) ?_
              refine q_iconst cx dX12_looksAt_100 ?_
              refine q_cVi (As := [.int (q_i y93), .int (q_i 0)]) (rest := [.int (q_i x149)]) cx hB (fun _ h => h) hN hmo kmo (by decide) rfl (r_ofNode0 l g hN hB.2.1 mo hmo kmo y93 (by omega) (by omega) 0 (by decide) (by decide) sr hsr ksr hr0 hgr) q_cX12_256 q_dX12_ofNode (by decide) rfl rfl hl.1 rfl (Nat.le_of_ble_eq_true rfl) dX12_looksAt_101 (fun y152 H locs f151 ry152 h153 hF hB => ?_)
              obtain ⟨rfl, ly152, uy152, t154⟩ := h153
              refine q_iceq (tgt := 118) cx ⟨by omega, by omega⟩ ⟨by omega, by omega⟩ dX12_looksAt_104 (by decide) (fun c155 => ?_) (fun c155 => ?_)
              · refine q_ald_n cx dX12_looksAt_118 rfl (lv_at hl 5 rfl) ?_
                refine q_ild_n cx dX12_looksAt_119 rfl (lv_at hl 6 rfl) ?_
                refine q_ild_n cx dX12_looksAt_120 rfl (lv_at hl 4 rfl) ?_
                refine q_ild_n cx dX12_looksAt_121 rfl (lv_at hl 3 rfl) ?_
                refine q_cVv (As := [.int (q_i a0), .int (q_i y93), .int (q_i y96)]) (rest := []) cx hB (fun _ h => h) hN hmo kmo (by decide) rfl (r_misses l g hN hB.2.1 mo hmo kmo a0 (by omega) (by omega) y93 (by omega) (by omega) y96 (by omega) (by omega) sr hsr ksr hr0 hgr) q_cX12_305 q_dX12_misses (by decide) rfl rfl hl.1 rfl (Nat.le_of_ble_eq_true rfl) dX12_looksAt_122 (fun H locs f156 h158 hF hB => ?_)
                have g159 := h158
                have z160 : q_is (q_z f156 mo 26) x106 := Eq.trans (hF.z hmo (by rw [kmo]; rfl)) ex106
                have z161 : q_ir (q_r f156 mo 13) sr := Eq.trans (hF.r hmo (by rw [kmo]; rfl)) hr0
                have z162 : q_ir (q_r f156 mo 25) dy := Eq.trans (hF.r hmo (by rw [kmo]; rfl)) hr1
                refine q_vret cx hr hlk hB dX12_looksAt_125 ?_
                exact g159
              · refine lv_iload cx.1 cx.2.1 dX12_looksAt_107 (lv_at hl 0 rfl) ?_
                refine q_ald_n cx dX12_looksAt_109 rfl (lv_at hl 5 rfl) ?_
                refine q_ild_n cx dX12_looksAt_110 rfl (lv_at hl 3 rfl) ?_
                refine q_iconst cx dX12_looksAt_111 ?_
                refine q_cVi (As := [.int (q_i y96), .int (q_i 0)]) (rest := [.int (q_i x149)]) cx hB (fun _ h => h) hN hmo kmo (by decide) rfl (r_ofNode0 l g hN hB.2.1 mo hmo kmo y96 (by omega) (by omega) 0 (by decide) (by decide) sr hsr ksr hr0 hgr) q_cX12_256 q_dX12_ofNode (by decide) rfl rfl hl.1 rfl (Nat.le_of_ble_eq_true rfl) dX12_looksAt_112 (fun y164 H locs f163 ry164 h165 hF hB => ?_)
                obtain ⟨rfl, ly164, uy164, t166⟩ := h165
                refine q_icne (tgt := 125) cx ⟨by omega, by omega⟩ ⟨by omega, by omega⟩ dX12_looksAt_115 (by decide) (fun c167 => ?_) (fun c167 => ?_)
                · refine q_vret cx hr hlk hB dX12_looksAt_125 ?_
                  exact hgr
                · refine q_ald_n cx dX12_looksAt_118 rfl (lv_at hl 5 rfl) ?_
                  refine q_ild_n cx dX12_looksAt_119 rfl (lv_at hl 6 rfl) ?_
                  refine q_ild_n cx dX12_looksAt_120 rfl (lv_at hl 4 rfl) ?_
                  refine q_ild_n cx dX12_looksAt_121 rfl (lv_at hl 3 rfl) ?_
                  refine q_cVv (As := [.int (q_i a0), .int (q_i y93), .int (q_i y96)]) (rest := []) cx hB (fun _ h => h) hN hmo kmo (by decide) rfl (r_misses l g hN hB.2.1 mo hmo kmo a0 (by omega) (by omega) y93 (by omega) (by omega) y96 (by omega) (by omega) sr hsr ksr hr0 hgr) q_cX12_305 q_dX12_misses (by decide) rfl rfl hl.1 rfl (Nat.le_of_ble_eq_true rfl) dX12_looksAt_122 (fun H locs f168 h170 hF hB => ?_)
                  have g171 := h170
                  have z172 : q_is (q_z f168 mo 26) x106 := Eq.trans (hF.z hmo (by rw [kmo]; rfl)) ex106
                  have z173 : q_ir (q_r f168 mo 13) sr := Eq.trans (hF.r hmo (by rw [kmo]; rfl)) hr0
                  have z174 : q_ir (q_r f168 mo 25) dy := Eq.trans (hF.r hmo (by rw [kmo]; rfl)) hr1
                  refine q_vret cx hr hlk hB dX12_looksAt_125 ?_
                  exact g171
          · exact absurd c146 (by omega)
        · refine q_ald_n cx dX12_looksAt_61 rfl (lv_at hl 4 rfl) ?_
          refine q_ild_n cx dX12_looksAt_62 rfl (lv_at hl 5 rfl) ?_
          refine q_cVv (As := [.int (q_i a0)]) (rest := []) cx hB (fun _ h => h) hN hmo kmo (by decide) rfl (r_meets l g hN hB.2.1 mo hmo kmo a0 (by omega) (by omega) sr hsr ksr hr0 hgr) q_cX12_302 q_dX12_meets (by decide) rfl rfl hl.1 rfl (Nat.le_of_ble_eq_true rfl) dX12_looksAt_63 (fun H locs f175 h177 hF hB => ?_)
          have g178 := h177
          have z179 : q_is (q_z f175 mo 26) x106 := Eq.trans (hF.z hmo (by rw [kmo]; rfl)) ex106
          have z180 : q_ir (q_r f175 mo 13) sr := Eq.trans (hF.r hmo (by rw [kmo]; rfl)) hr0
          have z181 : q_ir (q_r f175 mo 25) dy := Eq.trans (hF.r hmo (by rw [kmo]; rfl)) hr1
          refine lv_iload cx.1 cx.2.1 dX12_looksAt_66 (lv_at hl 1 rfl) ?_
          refine lv_iload cx.1 cx.2.1 dX12_looksAt_68 (lv_at hl 0 rfl) ?_
          refine q_icne (tgt := 74) cx ⟨by omega, by omega⟩ ⟨by omega, by omega⟩ dX12_looksAt_70 (by decide) (fun c182 => ?_) (fun c182 => ?_)
          · exact absurd c182 (by omega)
          · refine q_vret cx hr hlk hB dX12_looksAt_73 ?_
            exact g178
    · refine q_vret cx hr hlk hB dX12_looksAt_30 ?_
      exact hgr
