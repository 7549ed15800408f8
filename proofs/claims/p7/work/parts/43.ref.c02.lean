set_option maxHeartbeats 4000000 in
set_option maxRecDepth 100000 in
theorem r_looksAt (l : Launch) (g : q_G) {K : Nat → Nat} {L : List Nat} (hN : L.Nodup) {f : Nat → va_E} (hT : q_Ty g K L f) (mo : Nat) (hmo : mo ∈ L) (kmo : K mo = 12) (a0 : Int) (la0 : 0 ≤ a0) (ua0 : a0 ≤ 15) (sr : Nat) (hsr : sr ∈ L) (ksr : K sr = 151) (dy : Nat) (hdy : dy ∈ L) (kdy : K dy = 160) (hr0 : q_ir (q_r f mo 13) sr) (hr1 : q_ir (q_r f mo 25) dy) (hgr : q_gr f sr) : q_Ct l g K L yX12_looksAt cX12_looksAt 7 none 3 67 [.ref mo, .int (q_i a0)] f [(151, 9, 9), (151, 11, 83), (151, 92, 169)] (q_Pv (fun (f1 : Nat → va_E) => q_gr f1 sr)) := by
  refine q_ofb (by decide +kernel) hN hT (Nat.le_of_ble_eq_true rfl) ?_
  intro p e s m below meth c ls cx hr hlk hB hl
  have hl : lv_has ls 7 [(0, .ref mo), (1, .int (q_i a0))] := hl
  obtain ⟨H, hH⟩ : ∃ H : Heap, H = s.heap := ⟨_, rfl⟩
  obtain ⟨locs, hlocs⟩ : ∃ z : List Loc, z = [] := ⟨_, rfl⟩
  rw [← hH, ← hlocs] at hB
  rw [← hH, ← hlocs]
  refine q_ald_n cx dX12_looksAt_0 rfl (lv_at hl 0 rfl) ?_
  refine q_ild_n cx dX12_looksAt_1 rfl (lv_at hl 1 rfl) ?_
  refine q_iconst cx dX12_looksAt_2 ?_
  refine q_cVi (As := [.int (q_i a0), .int (q_i 0)]) (rest := []) cx hB (fun _ h => h) hN hmo kmo (by decide) rfl (r_ofLink0 l g hN hB.2.1 mo hmo kmo a0 (by omega) (by omega) 0 (by decide) (by decide) sr hsr ksr hr0 hgr) q_cX12_210 q_dX12_ofLink (by decide) rfl rfl hl.1 rfl (Nat.le_of_ble_eq_true rfl) dX12_looksAt_3 (fun y89 H locs f88 ry89 h90 hF hB => ?_)
  obtain ⟨rfl, ly89, uy89⟩ := h90
  refine lv_istore_n (lv' := [(2, .int (q_i y89)), (0, .ref mo), (1, .int (q_i a0))]) cx.1 cx.2.1 dX12_looksAt_6 rfl hl (by decide) rfl (fun ls hl => ?_)
  refine q_ald_n cx dX12_looksAt_7 rfl (lv_at hl 1 rfl) ?_
  refine q_ild_n cx dX12_looksAt_8 rfl (lv_at hl 2 rfl) ?_
  refine q_iconst cx dX12_looksAt_9 ?_
  refine q_cVi (As := [.int (q_i a0), .int (q_i 1)]) (rest := []) cx hB (fun _ h => h) hN hmo kmo (by decide) rfl (r_ofLink1 l g hN hB.2.1 mo hmo kmo a0 (by omega) (by omega) 1 (by decide) (by decide) sr hsr ksr hr0 hgr) q_cX12_210 q_dX12_ofLink (by decide) rfl rfl hl.1 rfl (Nat.le_of_ble_eq_true rfl) dX12_looksAt_10 (fun y92 H locs f91 ry92 h93 hF hB => ?_)
  obtain ⟨rfl, ly92, uy92⟩ := h93
  refine lv_istore_n (lv' := [(3, .int (q_i y92)), (2, .int (q_i y89)), (0, .ref mo), (1, .int (q_i a0))]) cx.1 cx.2.1 dX12_looksAt_13 rfl hl (by decide) rfl (fun ls hl => ?_)
  refine q_ald_n cx dX12_looksAt_14 rfl (lv_at hl 2 rfl) ?_
  refine q_ild_n cx dX12_looksAt_15 rfl (lv_at hl 1 rfl) ?_
  refine q_cVi (As := [.int (q_i y89)]) (rest := []) cx hB (fun _ h => h) hN hmo kmo (by decide) rfl (r_isOut l g hN hB.2.1 mo hmo kmo y89 (by omega) (by omega) sr hsr ksr hr0 hgr) q_cX12_271 q_dX12_isOut (by decide) rfl rfl hl.1 rfl (Nat.le_of_ble_eq_true rfl) dX12_looksAt_16 (fun y95 H locs f94 ry95 h96 hF hB => ?_)
  obtain ⟨rfl, ly95, uy95⟩ := h96
  refine q_ifne (tgt := 30) cx ⟨by omega, by omega⟩ dX12_looksAt_19 (by decide) (fun c97 => ?_) (fun c97 => ?_)
  · refine q_vret cx hr hlk hB dX12_looksAt_30 ?_
    exact hgr
  · refine q_ald_n cx dX12_looksAt_22 rfl (lv_at hl 2 rfl) ?_
    refine q_ild_n cx dX12_looksAt_23 rfl (lv_at hl 0 rfl) ?_
    refine q_cVi (As := [.int (q_i y92)]) (rest := []) cx hB (fun _ h => h) hN hmo kmo (by decide) rfl (r_isOut l g hN hB.2.1 mo hmo kmo y92 (by omega) (by omega) sr hsr ksr hr0 hgr) q_cX12_271 q_dX12_isOut (by decide) rfl rfl hl.1 rfl (Nat.le_of_ble_eq_true rfl) dX12_looksAt_24 (fun y99 H locs f98 ry99 h100 hF hB => ?_)
    obtain ⟨rfl, ly99, uy99⟩ := h100
    refine q_ifeq (tgt := 31) cx ⟨by omega, by omega⟩ dX12_looksAt_27 (by decide) (fun c101 => ?_) (fun c101 => ?_)
    · refine q_ald_n cx dX12_looksAt_31 rfl (lv_at hl 2 rfl) ?_
      obtain ⟨x102, ex102⟩ : ∃ zz, q_is (q_z f mo 26) zz := ⟨_, q_isr _⟩
      refine q_gX12_283 cx hB hmo kmo ex102 dX12_looksAt_32 (fun lb103 ub103 => ?_)
      refine q_ild_n cx dX12_looksAt_35 rfl (lv_at hl 1 rfl) ?_
      refine q_cSi (As := [.int (q_i x102), .int (q_i y89)]) (rest := []) cx hB (fun _ h => h) hN (r_has l g hN hB.2.1 x102 (by omega) (by omega) y89 (by omega) (by omega)) q_cX12_185 q_dX12_has (by decide) rfl rfl hl.1 rfl (Nat.le_of_ble_eq_true rfl) dX12_looksAt_36 (fun y105 H locs f104 ry105 h106 hF hB => ?_)
      obtain ⟨rfl, ly105, uy105⟩ := h106
      refine lv_istore (lv' := [(4, .int (q_i y105)), (3, .int (q_i y92)), (2, .int (q_i y89)), (0, .ref mo), (1, .int (q_i a0))]) cx.1 cx.2.1 dX12_looksAt_39 hl (by decide) rfl (fun ls hl => ?_)
      refine q_ald_n cx dX12_looksAt_41 rfl (lv_at hl 3 rfl) ?_
      refine q_gX12_283 cx hB hmo kmo ex102 dX12_looksAt_42 (fun lb107 ub107 => ?_)
      refine q_ild_n cx dX12_looksAt_45 rfl (lv_at hl 1 rfl) ?_
      refine q_cSi (As := [.int (q_i x102), .int (q_i y92)]) (rest := []) cx hB (fun _ h => h) hN (r_has l g hN hB.2.1 x102 (by omega) (by omega) y92 (by omega) (by omega)) q_cX12_185 q_dX12_has (by decide) rfl rfl hl.1 rfl (Nat.le_of_ble_eq_true rfl) dX12_looksAt_46 (fun y109 H locs f108 ry109 h110 hF hB => ?_)
      obtain ⟨rfl, ly109, uy109⟩ := h110
      refine lv_istore (lv' := [(5, .int (q_i y109)), (4, .int (q_i y105)), (3, .int (q_i y92)), (2, .int (q_i y89)), (0, .ref mo), (1, .int (q_i a0))]) cx.1 cx.2.1 dX12_looksAt_49 hl (by decide) rfl (fun ls hl => ?_)
      refine lv_iload cx.1 cx.2.1 dX12_looksAt_51 (lv_at hl 1 rfl) ?_
      refine q_ifeq (tgt := 66) cx ⟨by omega, by omega⟩ dX12_looksAt_53 (by decide) (fun c111 => ?_) (fun c111 => ?_)
      · refine lv_iload cx.1 cx.2.1 dX12_looksAt_66 (lv_at hl 1 rfl) ?_
        refine lv_iload cx.1 cx.2.1 dX12_looksAt_68 (lv_at hl 0 rfl) ?_
        refine q_icne (tgt := 74) cx ⟨by omega, by omega⟩ ⟨by omega, by omega⟩ dX12_looksAt_70 (by decide) (fun c112 => ?_) (fun c112 => ?_)
        · refine lv_iload cx.1 cx.2.1 dX12_looksAt_74 (lv_at hl 1 rfl) ?_
          refine q_ifeq (tgt := 88) cx ⟨by omega, by omega⟩ dX12_looksAt_76 (by decide) (fun c113 => ?_) (fun c113 => ?_)
          · refine q_ald_n cx dX12_looksAt_88 rfl (lv_at hl 4 rfl) ?_
            refine q_gX12_48 cx hB hmo kmo hr1 dX12_looksAt_89 (fun hb114 kb114 => ?_)
            refine q_ild_n cx dX12_looksAt_92 rfl (lv_at hl 2 rfl) ?_
            obtain ⟨x115, ex115⟩ : ∃ zz, q_is (q_z f dy (Int.toNat y92)) zz := ⟨_, q_isr _⟩
            refine q_iald (lo := 0) (hi := 59) (n := 10) cx hB hdy kdy (by decide) rfl rfl (by omega) (by omega) (by decide) rfl ex115 dX12_looksAt_93 (fun lb116 ub116 => ?_)
            refine lv_istore (lv' := [(6, .int (q_i x115)), (5, .int (q_i y109)), (4, .int (q_i y105)), (3, .int (q_i y92)), (2, .int (q_i y89)), (0, .ref mo), (1, .int (q_i a0))]) cx.1 cx.2.1 dX12_looksAt_94 hl (by decide) rfl (fun ls hl => ?_)
            refine lv_iload cx.1 cx.2.1 dX12_looksAt_96 (lv_at hl 0 rfl) ?_
            refine q_ald_n cx dX12_looksAt_98 rfl (lv_at hl 5 rfl) ?_
            refine q_ild_n cx dX12_looksAt_99 rfl (lv_at hl 4 rfl) ?_
            refine q_iconst cx dX12_looksAt_100 ?_
            refine q_cVi (As := [.int (q_i y89), .int (q_i 0)]) (rest := [.int (q_i x115)]) cx hB (fun _ h => h) hN hmo kmo (by decide) rfl (r_ofNode0 l g hN hB.2.1 mo hmo kmo y89 (by omega) (by omega) 0 (by decide) (by decide) sr hsr ksr hr0 hgr) q_cX12_256 q_dX12_ofNode (by decide) rfl rfl hl.1 rfl (Nat.le_of_ble_eq_true rfl) dX12_looksAt_101 (fun y118 H locs f117 ry118 h119 hF hB => ?_)
            obtain ⟨rfl, ly118, uy118⟩ := h119
            refine q_iceq (tgt := 118) cx ⟨by omega, by omega⟩ ⟨by omega, by omega⟩ dX12_looksAt_104 (by decide) (fun c120 => ?_) (fun c120 => ?_)
            · refine q_ald_n cx dX12_looksAt_118 rfl (lv_at hl 5 rfl) ?_
              refine q_ild_n cx dX12_looksAt_119 rfl (lv_at hl 6 rfl) ?_
              refine q_ild_n cx dX12_looksAt_120 rfl (lv_at hl 4 rfl) ?_
              refine q_ild_n cx dX12_looksAt_121 rfl (lv_at hl 3 rfl) ?_
              refine q_cVv (As := [.int (q_i a0), .int (q_i y89), .int (q_i y92)]) (rest := []) cx hB (fun _ h => h) hN hmo kmo (by decide) rfl (r_misses l g hN hB.2.1 mo hmo kmo a0 (by omega) (by omega) y89 (by omega) (by omega) y92 (by omega) (by omega) sr hsr ksr hr0 hgr) q_cX12_305 q_dX12_misses (by decide) rfl rfl hl.1 rfl (Nat.le_of_ble_eq_true rfl) dX12_looksAt_122 (fun H locs f121 h123 hF hB => ?_)
              have g124 := h123
              have z125 : q_is (q_z f121 mo 26) x102 := Eq.trans (hF.z hmo (by rw [kmo]; rfl)) ex102
              have z126 : q_ir (q_r f121 mo 13) sr := Eq.trans (hF.r hmo (by rw [kmo]; rfl)) hr0
              have z127 : q_ir (q_r f121 mo 25) dy := Eq.trans (hF.r hmo (by rw [kmo]; rfl)) hr1
              refine q_vret cx hr hlk hB dX12_looksAt_125 ?_
              exact g124
            · refine lv_iload cx.1 cx.2.1 dX12_looksAt_107 (lv_at hl 0 rfl) ?_
              refine q_ald_n cx dX12_looksAt_109 rfl (lv_at hl 5 rfl) ?_
              refine q_ild_n cx dX12_looksAt_110 rfl (lv_at hl 3 rfl) ?_
              refine q_iconst cx dX12_looksAt_111 ?_
              refine q_cVi (As := [.int (q_i y92), .int (q_i 0)]) (rest := [.int (q_i x115)]) cx hB (fun _ h => h) hN hmo kmo (by decide) rfl (r_ofNode0 l g hN hB.2.1 mo hmo kmo y92 (by omega) (by omega) 0 (by decide) (by decide) sr hsr ksr hr0 hgr) q_cX12_256 q_dX12_ofNode (by decide) rfl rfl hl.1 rfl (Nat.le_of_ble_eq_true rfl) dX12_looksAt_112 (fun y129 H locs f128 ry129 h130 hF hB => ?_)
              obtain ⟨rfl, ly129, uy129⟩ := h130
              refine q_icne (tgt := 125) cx ⟨by omega, by omega⟩ ⟨by omega, by omega⟩ dX12_looksAt_115 (by decide) (fun c131 => ?_) (fun c131 => ?_)
              · refine q_vret cx hr hlk hB dX12_looksAt_125 ?_
                exact hgr
              · refine q_ald_n cx dX12_looksAt_118 rfl (lv_at hl 5 rfl) ?_
                refine q_ild_n cx dX12_looksAt_119 rfl (lv_at hl 6 rfl) ?_
                refine q_ild_n cx dX12_looksAt_120 rfl (lv_at hl 4 rfl) ?_
                refine q_ild_n cx dX12_looksAt_121 rfl (lv_at hl 3 rfl) ?_
                refine q_cVv (As := [.int (q_i a0), .int (q_i y89), .int (q_i y92)]) (rest := []) cx hB (fun _ h => h) hN hmo kmo (by decide) rfl (r_misses l g hN hB.2.1 mo hmo kmo a0 (by omega) (by omega) y89 (by omega) (by omega) y92 (by omega) (by omega) sr hsr ksr hr0 hgr) q_cX12_305 q_dX12_misses (by decide) rfl rfl hl.1 rfl (Nat.le_of_ble_eq_true rfl) dX12_looksAt_122 (fun H locs f132 h134 hF hB => ?_)
                have g135 := h134
                have z136 : q_is (q_z f132 mo 26) x102 := Eq.trans (hF.z hmo (by rw [kmo]; rfl)) ex102
                have z137 : q_ir (q_r f132 mo 13) sr := Eq.trans (hF.r hmo (by rw [kmo]; rfl)) hr0
                have z138 : q_ir (q_r f132 mo 25) dy := Eq.trans (hF.r hmo (by rw [kmo]; rfl)) hr1
                refine q_vret cx hr hlk hB dX12_looksAt_125 ?_
                exact g135
          · exact absurd c113 (by omega)
        · refine q_vret cx hr hlk hB dX12_looksAt_73 ?_
          exact hgr
      · refine lv_iload cx.1 cx.2.1 dX12_looksAt_56 (lv_at hl 0 rfl) ?_
        refine q_ifeq (tgt := 66) cx ⟨by omega, by omega⟩ dX12_looksAt_58 (by decide) (fun c139 => ?_) (fun c139 => ?_)
        · refine lv_iload cx.1 cx.2.1 dX12_looksAt_66 (lv_at hl 1 rfl) ?_
          refine lv_iload cx.1 cx.2.1 dX12_looksAt_68 (lv_at hl 0 rfl) ?_
          refine q_icne (tgt := 74) cx ⟨by omega, by omega⟩ ⟨by omega, by omega⟩ dX12_looksAt_70 (by decide) (fun c140 => ?_) (fun c140 => ?_)
          · refine lv_iload cx.1 cx.2.1 dX12_looksAt_74 (lv_at hl 1 rfl) ?_
            refine q_ifeq (tgt := 88) cx ⟨by omega, by omega⟩ dX12_looksAt_76 (by decide) (fun c141 => ?_) (fun c141 => ?_)
            · exact absurd c141 (by omega)
            · refine q_ald_n cx dX12_looksAt_79 rfl (lv_at hl 4 rfl) ?_
              refine q_gX12_48 cx hB hmo kmo hr1 dX12_looksAt_80 (fun hb142 kb142 => ?_)
              refine q_ild_n cx dX12_looksAt_83 rfl (lv_at hl 3 rfl) ?_
              obtain ⟨x143, ex143⟩ : ∃ zz, q_is (q_z f dy (Int.toNat y89)) zz := ⟨_, q_isr _⟩
              refine q_iald (lo := 0) (hi := 59) (n := 10) cx hB hdy kdy (by decide) rfl rfl (by omega) (by omega) (by decide) rfl ex143 dX12_looksAt_84 (fun lb144 ub144 => ?_)
              refine lv_goto (tgt := 94) cx.1 cx.2.1 dX12_looksAt_85 (by decide) ?_
              refine lv_istore (lv' := [(6, .int (q_i x143)), (5, .int (q_i y109)), (4, .int (q_i y105)), (3, .int (q_i y92)), (2, .int (q_i y89)), (0, .ref mo), (1, .int (q_i a0))]) cx.1 cx.2.1 dX12_looksAt_94 hl (by decide) rfl (fun ls hl => ?_)
              refine lv_iload cx.1 cx.2.1 dX12_looksAt_96 (lv_at hl 0 rfl) ?_
              refine q_ald_n cx dX12_looksAt_98 rfl (lv_at hl 5 rfl) ?_
              refine q_ild_n cx dX12_looksAt_99 rfl (lv_at hl 4 rfl) ?_
              refine q_iconst cx dX12_looksAt_100 ?_
              refine q_cVi (As := [.int (q_i y89), .int (q_i 0)]) (rest := [.int (q_i x143)]) cx hB (fun _ h => h) hN hmo kmo (by decide) rfl (r_ofNode0 l g hN hB.2.1 mo hmo kmo y89 (by omega) (by omega) 0 (by decide) (by decide) sr hsr ksr hr0 hgr) q_cX12_256 q_dX12_ofNode (by decide) rfl rfl hl.1 rfl (Nat.le_of_ble_eq_true rfl) dX12_looksAt_101 (fun y146 H locs f145 ry146 h147 hF hB => ?_)
              obtain ⟨rfl, ly146, uy146⟩ := h147
              refine q_iceq (tgt := 118) cx ⟨by omega, by omega⟩ ⟨by omega, by omega⟩ dX12_looksAt_104 (by decide) (fun c148 => ?_) (fun c148 => ?_)
              · refine q_ald_n cx dX12_looksAt_118 rfl (lv_at hl 5 rfl) ?_
                refine q_ild_n cx dX12_looksAt_119 rfl (lv_at hl 6 rfl) ?_
                refine q_ild_n cx dX12_looksAt_120 rfl (lv_at hl 4 rfl) ?_
                refine q_ild_n cx dX12_looksAt_121 rfl (lv_at hl 3 rfl) ?_
                refine q_cVv (As := [.int (q_i a0), .int (q_i y89), .int (q_i y92)]) (rest := []) cx hB (fun _ h => h) hN hmo kmo (by decide) rfl (r_misses l g hN hB.2.1 mo hmo kmo a0 (by omega) (by omega) y89 (by omega) (by omega) y92 (by omega) (by omega) sr hsr ksr hr0 hgr) q_cX12_305 q_dX12_misses (by decide) rfl rfl hl.1 rfl (Nat.le_of_ble_eq_true rfl) dX12_looksAt_122 (fun H locs f149 h151 hF hB => ?_)
                have g152 := h151
                have z153 : q_is (q_z f149 mo 26) x102 := Eq.trans (hF.z hmo (by rw [kmo]; rfl)) ex102
                have z154 : q_ir (q_r f149 mo 13) sr := Eq.trans (hF.r hmo (by rw [kmo]; rfl)) hr0
                have z155 : q_ir (q_r f149 mo 25) dy := Eq.trans (hF.r hmo (by rw [kmo]; rfl)) hr1
                refine q_vret cx hr hlk hB dX12_looksAt_125 ?_
                exact g152
              · refine lv_iload cx.1 cx.2.1 dX12_looksAt_107 (lv_at hl 0 rfl) ?_
                refine q_ald_n cx dX12_looksAt_109 rfl (lv_at hl 5 rfl) ?_
                refine q_ild_n cx dX12_looksAt_110 rfl (lv_at hl 3 rfl) ?_
                refine q_iconst cx dX12_looksAt_111 ?_
                refine q_cVi (As := [.int (q_i y92), .int (q_i 0)]) (rest := [.int (q_i x143)]) cx hB (fun _ h => h) hN hmo kmo (by decide) rfl (r_ofNode0 l g hN hB.2.1 mo hmo kmo y92 (by omega) (by omega) 0 (by decide) (by decide) sr hsr ksr hr0 hgr) q_cX12_256 q_dX12_ofNode (by decide) rfl rfl hl.1 rfl (Nat.le_of_ble_eq_true rfl) dX12_looksAt_112 (fun y157 H locs f156 ry157 h158 hF hB => ?_)
                obtain ⟨rfl, ly157, uy157⟩ := h158
                refine q_icne (tgt := 125) cx ⟨by omega, by omega⟩ ⟨by omega, by omega⟩ dX12_looksAt_115 (by decide) (fun c159 => ?_) (fun c159 => ?_)
                · refine q_vret cx hr hlk hB dX12_looksAt_125 ?_
                  exact hgr
                · refine q_ald_n cx dX12_looksAt_118 rfl (lv_at hl 5 rfl) ?_
                  refine q_ild_n cx dX12_looksAt_119 rfl (lv_at hl 6 rfl) ?_
                  refine q_ild_n cx dX12_looksAt_120 rfl (lv_at hl 4 rfl) ?_
                  refine q_ild_n cx dX12_looksAt_121 rfl (lv_at hl 3 rfl) ?_
                  refine q_cVv (As := [.int (q_i a0), .int (q_i y89), .int (q_i y92)]) (rest := []) cx hB (fun _ h => h) hN hmo kmo (by decide) rfl (r_misses l g hN hB.2.1 mo hmo kmo a0 (by omega) (by omega) y89 (by omega) (by omega) y92 (by omega) (by omega) sr hsr ksr hr0 hgr) q_cX12_305 q_dX12_misses (by decide) rfl rfl hl.1 rfl (Nat.le_of_ble_eq_true rfl) dX12_looksAt_122 (fun H locs f160 h162 hF hB => ?_)
                  have g163 := h162
                  have z164 : q_is (q_z f160 mo 26) x102 := Eq.trans (hF.z hmo (by rw [kmo]; rfl)) ex102
                  have z165 : q_ir (q_r f160 mo 13) sr := Eq.trans (hF.r hmo (by rw [kmo]; rfl)) hr0
                  have z166 : q_ir (q_r f160 mo 25) dy := Eq.trans (hF.r hmo (by rw [kmo]; rfl)) hr1
                  refine q_vret cx hr hlk hB dX12_looksAt_125 ?_
                  exact g163
          · exact absurd c140 (by omega)
        · refine q_ald_n cx dX12_looksAt_61 rfl (lv_at hl 4 rfl) ?_
          refine q_ild_n cx dX12_looksAt_62 rfl (lv_at hl 5 rfl) ?_
          refine q_cVv (As := [.int (q_i a0)]) (rest := []) cx hB (fun _ h => h) hN hmo kmo (by decide) rfl (r_meets l g hN hB.2.1 mo hmo kmo a0 (by omega) (by omega) sr hsr ksr hr0 hgr) q_cX12_302 q_dX12_meets (by decide) rfl rfl hl.1 rfl (Nat.le_of_ble_eq_true rfl) dX12_looksAt_63 (fun H locs f167 h169 hF hB => ?_)
          have g170 := h169
          have z171 : q_is (q_z f167 mo 26) x102 := Eq.trans (hF.z hmo (by rw [kmo]; rfl)) ex102
          have z172 : q_ir (q_r f167 mo 13) sr := Eq.trans (hF.r hmo (by rw [kmo]; rfl)) hr0
          have z173 : q_ir (q_r f167 mo 25) dy := Eq.trans (hF.r hmo (by rw [kmo]; rfl)) hr1
          refine lv_iload cx.1 cx.2.1 dX12_looksAt_66 (lv_at hl 1 rfl) ?_
          refine lv_iload cx.1 cx.2.1 dX12_looksAt_68 (lv_at hl 0 rfl) ?_
          refine q_icne (tgt := 74) cx ⟨by omega, by omega⟩ ⟨by omega, by omega⟩ dX12_looksAt_70 (by decide) (fun c174 => ?_) (fun c174 => ?_)
          · exact absurd c174 (by omega)
          · refine q_vret cx hr hlk hB dX12_looksAt_73 ?_
            exact g170
    · refine q_vret cx hr hlk hB dX12_looksAt_30 ?_
      exact hgr
