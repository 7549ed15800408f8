set_option maxHeartbeats 4000000 in
set_option maxRecDepth 100000 in
theorem f_mfour (l : Launch) (g : q_G) {K : Nat → Nat} {L : List Nat} (hN : L.Nodup) {f : Nat → va_E} (hT : q_Ty g K L f) (mo : Nat) (hmo : mo ∈ L) (kmo : K mo = 12) (a0 : Int) (la0 : (-2147483648) ≤ a0) (ua0 : a0 ≤ 2147483647) (bu : Nat) (hbu : bu ∈ L) (kbu : K bu = 150) (xn : Int) (lxn : 0 ≤ xn) (uxn : xn ≤ 596) (hf0 : q_is (q_z f mo 2) xn) (hr0 : q_ir (q_r f mo 1) bu) : q_Ct l g K L yX12_four cX12_four 3 none 0 0 [.ref mo, .int (q_i a0)] f [(12, 2, 2), (150, 0, 599)] (q_Pv (fun (f1 : Nat → va_E) => q_is (q_z f1 mo 2) (xn + 4) ∧ (tk_wr f f1 bu xn (fun k9 => tk_u (tk_g4 a0 k9)) 4))) := by
  refine q_ofb (by decide +kernel) hN hT (Nat.le_of_ble_eq_true rfl) ?_
  intro p e s m below meth c ls cx hr hlk hB hl
  have hl : lv_has ls 3 [(0, .ref mo), (1, .int (q_i a0))] := hl
  obtain ⟨H, hH⟩ : ∃ H : Heap, H = s.heap := ⟨_, rfl⟩
  obtain ⟨locs, hlocs⟩ : ∃ z : List Loc, z = [] := ⟨_, rfl⟩
  rw [← hH, ← hlocs] at hB
  rw [← hH, ← hlocs]
  have hwr0 : tk_wr f f bu xn (fun k9 => tk_u (tk_g4 a0 k9)) 0 := tk_wr_0
  refine q_bipush cx dX12_four_0 rfl ?_
  refine lv_istore_n (lv' := [(2, .int (q_i 24)), (0, .ref mo), (1, .int (q_i a0))]) cx.1 cx.2.1 dX12_four_2 rfl hl (by decide) rfl (fun ls hl => ?_)
  refine q_ild_n cx dX12_four_3 rfl (lv_at hl 0 rfl) ?_
  refine q_iflt (tgt := 39) cx ⟨by decide, by decide⟩ dX12_four_4 (by decide) (fun c66 => ?_) (fun c66 => ?_)
  · exact absurd c66 (by omega)
  · refine q_ald_n cx dX12_four_7 rfl (lv_at hl 1 rfl) ?_
    refine q_gX12_7 cx hB hmo kmo hr0 dX12_four_8 (fun hb67 kb67 => ?_)
    refine q_ald_n cx dX12_four_11 rfl (lv_at hl 1 rfl) ?_
    refine q_gX12_82 cx hB hmo kmo hf0 dX12_four_12 (fun lb68 ub68 => ?_)
    refine q_ild_n cx dX12_four_15 rfl (lv_at hl 2 rfl) ?_
    refine q_ild_n cx dX12_four_16 rfl (lv_at hl 0 rfl) ?_
    refine q_ishr cx dX12_four_17 (fun y69 ry69 ey69 => ?_)
    refine q_sipush cx dX12_four_18 rfl ?_
    refine q_iandm cx 8 (by decide) rfl dX12_four_21 (fun y70 ly70 uy70 ey70 => ?_)
    refine q_iast (lo := 0) (hi := 255) (n := 600) cx hB hbu kbu (by decide) rfl rfl (by omega) (by omega) (by decide) rfl ⟨by omega, by omega⟩ (by omega) (by omega) (q_inWi (lo := 0) (hi := 596) (by decide) (by omega) (by omega)) dX12_four_22 (fun H locs f71 ef71 z72 hB => ?_)
    have z73 : q_is (q_z f71 mo 2) xn := by rw [ef71, q_setz (Or.inl (fun q => by rw [q, kbu] at kmo; exact absurd kmo (by decide)))]; exact hf0
    have z74 : q_ir (q_r f71 mo 1) bu := by rw [ef71, q_setr (Or.inl (fun q => by rw [q, kbu] at kmo; exact absurd kmo (by decide)))]; exact hr0
    have g75 : tk_wr f f71 bu xn (fun k9 => tk_u (tk_g4 a0 k9)) 1 := tk_wr_put hwr0 ef71 z72 (by omega) (by omega) (tk_by9 (by omega) (by omega) ey69 ey70)
    refine q_ald_n cx dX12_four_23 rfl (lv_at hl 1 rfl) ?_
    refine lv_dup cx.1 cx.2.1 dX12_four_24 rfl ?_
    refine q_gX12_82 cx hB hmo kmo z73 dX12_four_25 (fun lb76 ub76 => ?_)
    refine q_iconst cx dX12_four_28 ?_
    refine q_iadd cx dX12_four_29 ?_
    refine q_pX12_82 cx hB hmo kmo ⟨by omega, by omega⟩ (by omega) (by omega) rfl dX12_four_30 (fun H locs f77 ef77 z78 hB => ?_)
    have z79 : q_is (q_z f77 bu (Int.toNat xn)) y70 := by rw [ef77, q_setz (Or.inl (fun q => by rw [q, kmo] at kbu; exact absurd kbu (by decide)))]; exact z72
    have z80 : q_ir (q_r f77 mo 1) bu := by rw [ef77, q_setr (Or.inr (by decide))]; exact z74
    have g81 : tk_wr f f77 bu xn (fun k9 => tk_u (tk_g4 a0 k9)) 1 := tk_wr_tr g75 (fun i9 => by rw [ef77, q_setz (Or.inl (fun q => by rw [q, kmo] at kbu; exact absurd kbu (by decide)))])
    refine q_iinc (lv' := [(2, .int (q_i (24 + (-8)))), (0, .ref mo), (1, .int (q_i a0))]) cx dX12_four_33 hl (k := 0) rfl (by decide) rfl (fun ls hl => ?_)
    refine lv_goto (tgt := 3) cx.1 cx.2.1 dX12_four_36 (by decide) ?_
    refine q_ild_n cx dX12_four_3 rfl (lv_at hl 0 rfl) ?_
    refine q_iflt (tgt := 39) cx ⟨by decide, by decide⟩ dX12_four_4 (by decide) (fun c82 => ?_) (fun c82 => ?_)
    · exact absurd c82 (by omega)
    · refine q_ald_n cx dX12_four_7 rfl (lv_at hl 1 rfl) ?_
      refine q_gX12_7 cx hB hmo kmo z80 dX12_four_8 (fun hb83 kb83 => ?_)
      refine q_ald_n cx dX12_four_11 rfl (lv_at hl 1 rfl) ?_
      refine q_gX12_82 cx hB hmo kmo z78 dX12_four_12 (fun lb84 ub84 => ?_)
      refine q_ild_n cx dX12_four_15 rfl (lv_at hl 2 rfl) ?_
      refine q_ild_n cx dX12_four_16 rfl (lv_at hl 0 rfl) ?_
      refine q_ishr cx dX12_four_17 (fun y85 ry85 ey85 => ?_)
      refine q_sipush cx dX12_four_18 rfl ?_
      refine q_iandm cx 8 (by decide) rfl dX12_four_21 (fun y86 ly86 uy86 ey86 => ?_)
      refine q_iast (lo := 0) (hi := 255) (n := 600) cx hB hbu kbu (by decide) rfl rfl (by omega) (by omega) (by decide) rfl ⟨by omega, by omega⟩ (by omega) (by omega) (q_inWi (lo := 1) (hi := 597) (by decide) (by omega) (by omega)) dX12_four_22 (fun H locs f87 ef87 z88 hB => ?_)
      have z89 : q_is (q_z f87 mo 2) (xn + 1) := by rw [ef87, q_setz (Or.inl (fun q => by rw [q, kbu] at kmo; exact absurd kmo (by decide)))]; exact z78
      have z90 : q_ir (q_r f87 mo 1) bu := by rw [ef87, q_setr (Or.inl (fun q => by rw [q, kbu] at kmo; exact absurd kmo (by decide)))]; exact z80
      have g91 : tk_wr f f87 bu xn (fun k9 => tk_u (tk_g4 a0 k9)) 2 := tk_wr_put g81 ef87 z88 (by omega) (by omega) (tk_by9 (by omega) (by omega) ey85 ey86)
      refine q_ald_n cx dX12_four_23 rfl (lv_at hl 1 rfl) ?_
      refine lv_dup cx.1 cx.2.1 dX12_four_24 rfl ?_
      refine q_gX12_82 cx hB hmo kmo z89 dX12_four_25 (fun lb92 ub92 => ?_)
      refine q_iconst cx dX12_four_28 ?_
      refine q_iadd cx dX12_four_29 ?_
      refine q_pX12_82 cx hB hmo kmo ⟨by omega, by omega⟩ (by omega) (by omega) rfl dX12_four_30 (fun H locs f93 ef93 z94 hB => ?_)
      have z95 : q_is (q_z f93 bu (Int.toNat (xn + 1))) y86 := by rw [ef93, q_setz (Or.inl (fun q => by rw [q, kmo] at kbu; exact absurd kbu (by decide)))]; exact z88
      have z96 : q_ir (q_r f93 mo 1) bu := by rw [ef93, q_setr (Or.inr (by decide))]; exact z90
      have g97 : tk_wr f f93 bu xn (fun k9 => tk_u (tk_g4 a0 k9)) 2 := tk_wr_tr g91 (fun i9 => by rw [ef93, q_setz (Or.inl (fun q => by rw [q, kmo] at kbu; exact absurd kbu (by decide)))])
      refine q_iinc (lv' := [(2, .int (q_i ((24 + (-8)) + (-8)))), (0, .ref mo), (1, .int (q_i a0))]) cx dX12_four_33 hl (k := 0) rfl (by decide) rfl (fun ls hl => ?_)
      refine lv_goto (tgt := 3) cx.1 cx.2.1 dX12_four_36 (by decide) ?_
      refine q_ild_n cx dX12_four_3 rfl (lv_at hl 0 rfl) ?_
      refine q_iflt (tgt := 39) cx ⟨by decide, by decide⟩ dX12_four_4 (by decide) (fun c98 => ?_) (fun c98 => ?_)
      · exact absurd c98 (by omega)
      · refine q_ald_n cx dX12_four_7 rfl (lv_at hl 1 rfl) ?_
        refine q_gX12_7 cx hB hmo kmo z96 dX12_four_8 (fun hb99 kb99 => ?_)
        refine q_ald_n cx dX12_four_11 rfl (lv_at hl 1 rfl) ?_
        refine q_gX12_82 cx hB hmo kmo z94 dX12_four_12 (fun lb100 ub100 => ?_)
        refine q_ild_n cx dX12_four_15 rfl (lv_at hl 2 rfl) ?_
        refine q_ild_n cx dX12_four_16 rfl (lv_at hl 0 rfl) ?_
        refine q_ishr cx dX12_four_17 (fun y101 ry101 ey101 => ?_)
        refine q_sipush cx dX12_four_18 rfl ?_
        refine q_iandm cx 8 (by decide) rfl dX12_four_21 (fun y102 ly102 uy102 ey102 => ?_)
        refine q_iast (lo := 0) (hi := 255) (n := 600) cx hB hbu kbu (by decide) rfl rfl (by omega) (by omega) (by decide) rfl ⟨by omega, by omega⟩ (by omega) (by omega) (q_inWi (lo := 2) (hi := 598) (by decide) (by omega) (by omega)) dX12_four_22 (fun H locs f103 ef103 z104 hB => ?_)
        have z105 : q_is (q_z f103 mo 2) ((xn + 1) + 1) := by rw [ef103, q_setz (Or.inl (fun q => by rw [q, kbu] at kmo; exact absurd kmo (by decide)))]; exact z94
        have z106 : q_ir (q_r f103 mo 1) bu := by rw [ef103, q_setr (Or.inl (fun q => by rw [q, kbu] at kmo; exact absurd kmo (by decide)))]; exact z96
        have g107 : tk_wr f f103 bu xn (fun k9 => tk_u (tk_g4 a0 k9)) 3 := tk_wr_put g97 ef103 z104 (by omega) (by omega) (tk_by9 (by omega) (by omega) ey101 ey102)
        refine q_ald_n cx dX12_four_23 rfl (lv_at hl 1 rfl) ?_
        refine lv_dup cx.1 cx.2.1 dX12_four_24 rfl ?_
        refine q_gX12_82 cx hB hmo kmo z105 dX12_four_25 (fun lb108 ub108 => ?_)
        refine q_iconst cx dX12_four_28 ?_
        refine q_iadd cx dX12_four_29 ?_
        refine q_pX12_82 cx hB hmo kmo ⟨by omega, by omega⟩ (by omega) (by omega) rfl dX12_four_30 (fun H locs f109 ef109 z110 hB => ?_)
        have z111 : q_is (q_z f109 bu (Int.toNat ((xn + 1) + 1))) y102 := by rw [ef109, q_setz (Or.inl (fun q => by rw [q, kmo] at kbu; exact absurd kbu (by decide)))]; exact z104
        have z112 : q_ir (q_r f109 mo 1) bu := by rw [ef109, q_setr (Or.inr (by decide))]; exact z106
        have g113 : tk_wr f f109 bu xn (fun k9 => tk_u (tk_g4 a0 k9)) 3 := tk_wr_tr g107 (fun i9 => by rw [ef109, q_setz (Or.inl (fun q => by rw [q, kmo] at kbu; exact absurd kbu (by decide)))])
        refine q_iinc (lv' := [(2, .int (q_i (((24 + (-8)) + (-8)) + (-8)))), (0, .ref mo), (1, .int (q_i a0))]) cx dX12_four_33 hl (k := 0) rfl (by decide) rfl (fun ls hl => ?_)
        refine lv_goto (tgt := 3) cx.1 cx.2.1 dX12_four_36 (by decide) ?_
        refine q_ild_n cx dX12_four_3 rfl (lv_at hl 0 rfl) ?_
        refine q_iflt (tgt := 39) cx ⟨by decide, by decide⟩ dX12_four_4 (by decide) (fun c114 => ?_) (fun c114 => ?_)
        · exact absurd c114 (by omega)
        · refine q_ald_n cx dX12_four_7 rfl (lv_at hl 1 rfl) ?_
          refine q_gX12_7 cx hB hmo kmo z112 dX12_four_8 (fun hb115 kb115 => ?_)
          refine q_ald_n cx dX12_four_11 rfl (lv_at hl 1 rfl) ?_
          refine q_gX12_82 cx hB hmo kmo z110 dX12_four_12 (fun lb116 ub116 => ?_)
          refine q_ild_n cx dX12_four_15 rfl (lv_at hl 2 rfl) ?_
          refine q_ild_n cx dX12_four_16 rfl (lv_at hl 0 rfl) ?_
          refine q_ishr cx dX12_four_17 (fun y117 ry117 ey117 => ?_)
          refine q_sipush cx dX12_four_18 rfl ?_
          refine q_iandm cx 8 (by decide) rfl dX12_four_21 (fun y118 ly118 uy118 ey118 => ?_)
          refine q_iast (lo := 0) (hi := 255) (n := 600) cx hB hbu kbu (by decide) rfl rfl (by omega) (by omega) (by decide) rfl ⟨by omega, by omega⟩ (by omega) (by omega) (q_inWi (lo := 3) (hi := 599) (by decide) (by omega) (by omega)) dX12_four_22 (fun H locs f119 ef119 z120 hB => ?_)
          have z121 : q_is (q_z f119 mo 2) (((xn + 1) + 1) + 1) := by rw [ef119, q_setz (Or.inl (fun q => by rw [q, kbu] at kmo; exact absurd kmo (by decide)))]; exact z110
          have z122 : q_ir (q_r f119 mo 1) bu := by rw [ef119, q_setr (Or.inl (fun q => by rw [q, kbu] at kmo; exact absurd kmo (by decide)))]; exact z112
          have g123 : tk_wr f f119 bu xn (fun k9 => tk_u (tk_g4 a0 k9)) 4 := tk_wr_put g113 ef119 z120 (by omega) (by omega) (tk_by9 (by omega) (by omega) ey117 ey118)
          refine q_ald_n cx dX12_four_23 rfl (lv_at hl 1 rfl) ?_
          refine lv_dup cx.1 cx.2.1 dX12_four_24 rfl ?_
          refine q_gX12_82 cx hB hmo kmo z121 dX12_four_25 (fun lb124 ub124 => ?_)
          refine q_iconst cx dX12_four_28 ?_
          refine q_iadd cx dX12_four_29 ?_
          refine q_pX12_82 cx hB hmo kmo ⟨by omega, by omega⟩ (by omega) (by omega) rfl dX12_four_30 (fun H locs f125 ef125 z126 hB => ?_)
          have z127 : q_is (q_z f125 bu (Int.toNat (((xn + 1) + 1) + 1))) y118 := by rw [ef125, q_setz (Or.inl (fun q => by rw [q, kmo] at kbu; exact absurd kbu (by decide)))]; exact z120
          have z128 : q_ir (q_r f125 mo 1) bu := by rw [ef125, q_setr (Or.inr (by decide))]; exact z122
          have g129 : tk_wr f f125 bu xn (fun k9 => tk_u (tk_g4 a0 k9)) 4 := tk_wr_tr g123 (fun i9 => by rw [ef125, q_setz (Or.inl (fun q => by rw [q, kmo] at kbu; exact absurd kbu (by decide)))])
          refine q_iinc (lv' := [(2, .int (q_i ((((24 + (-8)) + (-8)) + (-8)) + (-8)))), (0, .ref mo), (1, .int (q_i a0))]) cx dX12_four_33 hl (k := 0) rfl (by decide) rfl (fun ls hl => ?_)
          refine lv_goto (tgt := 3) cx.1 cx.2.1 dX12_four_36 (by decide) ?_
          refine q_ild_n cx dX12_four_3 rfl (lv_at hl 0 rfl) ?_
          refine q_iflt (tgt := 39) cx ⟨by decide, by decide⟩ dX12_four_4 (by decide) (fun c130 => ?_) (fun c130 => ?_)
          · refine q_vret cx hr hlk hB dX12_four_39 ?_
            exact ⟨(Eq.trans z126 (by omega)), g129⟩
          · exact absurd c130 (by omega)
set_option maxHeartbeats 4000000 in
set_option maxRecDepth 100000 in
theorem f_append (l : Launch) (g : q_G) {K : Nat → Nat} {L : List Nat} (hN : L.Nodup) {f : Nat → va_E} (hT : q_Ty g K L f) (so : Nat) (hso : so ∈ L) (kso : K so = 8) (p0 : Int) (lp0 : (-2147483648) ≤ p0) (up0 : p0 ≤ 2147483647) (ba : Nat) (hba : ba ∈ L) (kba : K ba = 142) (xn : Int) (lxn : 0 ≤ xn) (uxn : xn ≤ 596) (hf0 : q_is (q_z f so 1) xn) (hr0 : q_ir (q_r f so 0) ba) : q_Ct l g K L yX8_append cX8_append 3 none 0 0 [.ref so, .int (q_i p0)] f [(8, 1, 1), (142, 0, 599)] (q_Pv (fun (f1 : Nat → va_E) => q_is (q_z f1 so 1) (xn + 4) ∧ (tk_wr f f1 ba xn (fun k9 => (fun q9 => q9) (tk_g4 p0 k9)) 4))) := by
  refine q_ofb (by decide +kernel) hN hT (Nat.le_of_ble_eq_true rfl) ?_
  intro p e s m below meth c ls cx hr hlk hB hl
  have hl : lv_has ls 3 [(0, .ref so), (1, .int (q_i p0))] := hl
  obtain ⟨H, hH⟩ : ∃ H : Heap, H = s.heap := ⟨_, rfl⟩
  obtain ⟨locs, hlocs⟩ : ∃ z : List Loc, z = [] := ⟨_, rfl⟩
  rw [← hH, ← hlocs] at hB
  rw [← hH, ← hlocs]
  have hwr0 : tk_wr f f ba xn (fun k9 => (fun q9 => q9) (tk_g4 p0 k9)) 0 := tk_wr_0
  refine q_bipush cx dX8_append_0 rfl ?_
  refine lv_istore_n (lv' := [(2, .int (q_i 24)), (0, .ref so), (1, .int (q_i p0))]) cx.1 cx.2.1 dX8_append_2 rfl hl (by decide) rfl (fun ls hl => ?_)
  refine q_ild_n cx dX8_append_3 rfl (lv_at hl 0 rfl) ?_
  refine q_iflt (tgt := 55) cx ⟨by decide, by decide⟩ dX8_append_4 (by decide) (fun c86 => ?_) (fun c86 => ?_)
  · exact absurd c86 (by omega)
  · refine q_ald_n cx dX8_append_7 rfl (lv_at hl 1 rfl) ?_
    refine q_gX8_19 cx hB hso kso hf0 dX8_append_8 (fun lb87 ub87 => ?_)
    refine q_iflt (tgt := 49) cx ⟨by omega, by omega⟩ dX8_append_11 (by decide) (fun c88 => ?_) (fun c88 => ?_)
    · exact absurd c88 (by omega)
    · refine q_ald_n cx dX8_append_14 rfl (lv_at hl 1 rfl) ?_
      refine q_gX8_19 cx hB hso kso hf0 dX8_append_15 (fun lb89 ub89 => ?_)
      refine q_ald_n cx dX8_append_18 rfl (lv_at hl 1 rfl) ?_
      refine q_gX8_11 cx hB hso kso hr0 dX8_append_19 (fun hb90 kb90 => ?_)
      refine q_alen (n := 600) cx hB hba kba (by decide) rfl 0 rfl rfl dX8_append_22 ?_
      refine q_icge (tgt := 49) cx ⟨by omega, by omega⟩ ⟨by decide, by decide⟩ dX8_append_23 (by decide) (fun c91 => ?_) (fun c91 => ?_)
      · exact absurd c91 (by omega)
      · refine q_ald_n cx dX8_append_26 rfl (lv_at hl 1 rfl) ?_
        refine q_gX8_11 cx hB hso kso hr0 dX8_append_27 (fun hb92 kb92 => ?_)
        refine q_ald_n cx dX8_append_30 rfl (lv_at hl 1 rfl) ?_
        refine q_gX8_19 cx hB hso kso hf0 dX8_append_31 (fun lb93 ub93 => ?_)
        refine q_ild_n cx dX8_append_34 rfl (lv_at hl 2 rfl) ?_
        refine q_ild_n cx dX8_append_35 rfl (lv_at hl 0 rfl) ?_
        refine q_ishr cx dX8_append_36 (fun y94 ry94 ey94 => ?_)
        refine q_i2b cx dX8_append_37 (fun y95 ly95 uy95 ey95 => ?_)
        refine q_bast (lo := (-128)) (hi := 127) (n := 600) cx hB hba kba (by decide) rfl rfl (by omega) (by omega) (by decide) rfl ⟨by omega, by omega⟩ (by omega) (by omega) (by omega) (by omega) (q_inWi (lo := 0) (hi := 596) (by decide) (by omega) (by omega)) dX8_append_38 (fun H locs f96 ef96 z97 hB => ?_)
        have z98 : q_is (q_z f96 so 1) xn := by rw [ef96, q_setz (Or.inl (fun q => by rw [q, kba] at kso; exact absurd kso (by decide)))]; exact hf0
        have z99 : q_ir (q_r f96 so 0) ba := by rw [ef96, q_setr (Or.inl (fun q => by rw [q, kba] at kso; exact absurd kso (by decide)))]; exact hr0
        have g100 : tk_wr f f96 ba xn (fun k9 => (fun q9 => q9) (tk_g4 p0 k9)) 1 := tk_wr_put hwr0 ef96 z97 (by omega) (by omega) (tk_by8 (by omega) (by omega) ey94 ey95)
        refine q_ald_n cx dX8_append_39 rfl (lv_at hl 1 rfl) ?_
        refine lv_dup cx.1 cx.2.1 dX8_append_40 rfl ?_
        refine q_gX8_19 cx hB hso kso z98 dX8_append_41 (fun lb101 ub101 => ?_)
        refine q_iconst cx dX8_append_44 ?_
        refine q_iadd cx dX8_append_45 ?_
        refine q_pX8_19 cx hB hso kso ⟨by omega, by omega⟩ (by omega) (by omega) rfl dX8_append_46 (fun H locs f102 ef102 z103 hB => ?_)
        have z104 : q_is (q_z f102 ba (Int.toNat xn)) y95 := by rw [ef102, q_setz (Or.inl (fun q => by rw [q, kso] at kba; exact absurd kba (by decide)))]; exact z97
        have z105 : q_ir (q_r f102 so 0) ba := by rw [ef102, q_setr (Or.inr (by decide))]; exact z99
        have g106 : tk_wr f f102 ba xn (fun k9 => (fun q9 => q9) (tk_g4 p0 k9)) 1 := tk_wr_tr g100 (fun i9 => by rw [ef102, q_setz (Or.inl (fun q => by rw [q, kso] at kba; exact absurd kba (by decide)))])
        refine q_iinc (lv' := [(2, .int (q_i (24 + (-8)))), (0, .ref so), (1, .int (q_i p0))]) cx dX8_append_49 hl (k := 0) rfl (by decide) rfl (fun ls hl => ?_)
        refine lv_goto (tgt := 3) cx.1 cx.2.1 dX8_append_52 (by decide) ?_
        refine q_ild_n cx dX8_append_3 rfl (lv_at hl 0 rfl) ?_
        refine q_iflt (tgt := 55) cx ⟨by decide, by decide⟩ dX8_append_4 (by decide) (fun c107 => ?_) (fun c107 => ?_)
        · exact absurd c107 (by omega)
        · refine q_ald_n cx dX8_append_7 rfl (lv_at hl 1 rfl) ?_
          refine q_gX8_19 cx hB hso kso z103 dX8_append_8 (fun lb108 ub108 => ?_)
          refine q_iflt (tgt := 49) cx ⟨by omega, by omega⟩ dX8_append_11 (by decide) (fun c109 => ?_) (fun c109 => ?_)
          · exact absurd c109 (by omega)
          · refine q_ald_n cx dX8_append_14 rfl (lv_at hl 1 rfl) ?_
            refine q_gX8_19 cx hB hso kso z103 dX8_append_15 (fun lb110 ub110 => ?_)
            refine q_ald_n cx dX8_append_18 rfl (lv_at hl 1 rfl) ?_
            refine q_gX8_11 cx hB hso kso z105 dX8_append_19 (fun hb111 kb111 => ?_)
            refine q_alen (n := 600) cx hB hba kba (by decide) rfl 0 rfl rfl dX8_append_22 ?_
            refine q_icge (tgt := 49) cx ⟨by omega, by omega⟩ ⟨by decide, by decide⟩ dX8_append_23 (by decide) (fun c112 => ?_) (fun c112 => ?_)
            · exact absurd c112 (by omega)
            · refine q_ald_n cx dX8_append_26 rfl (lv_at hl 1 rfl) ?_
              refine q_gX8_11 cx hB hso kso z105 dX8_append_27 (fun hb113 kb113 => ?_)
              refine q_ald_n cx dX8_append_30 rfl (lv_at hl 1 rfl) ?_
              refine q_gX8_19 cx hB hso kso z103 dX8_append_31 (fun lb114 ub114 => ?_)
              refine q_ild_n cx dX8_append_34 rfl (lv_at hl 2 rfl) ?_
              refine q_ild_n cx dX8_append_35 rfl (lv_at hl 0 rfl) ?_
              refine q_ishr cx dX8_append_36 (fun y115 ry115 ey115 => ?_)
              refine q_i2b cx dX8_append_37 (fun y116 ly116 uy116 ey116 => ?_)
              refine q_bast (lo := (-128)) (hi := 127) (n := 600) cx hB hba kba (by decide) rfl rfl (by omega) (by omega) (by decide) rfl ⟨by omega, by omega⟩ (by omega) (by omega) (by omega) (by omega) (q_inWi (lo := 1) (hi := 597) (by decide) (by omega) (by omega)) dX8_append_38 (fun H locs f117 ef117 z118 hB => ?_)
              have z119 : q_is (q_z f117 so 1) (xn + 1) := by rw [ef117, q_setz (Or.inl (fun q => by rw [q, kba] at kso; exact absurd kso (by decide)))]; exact z103
              have z120 : q_ir (q_r f117 so 0) ba := by rw [ef117, q_setr (Or.inl (fun q => by rw [q, kba] at kso; exact absurd kso (by decide)))]; exact z105
              have g121 : tk_wr f f117 ba xn (fun k9 => (fun q9 => q9) (tk_g4 p0 k9)) 2 := tk_wr_put g106 ef117 z118 (by omega) (by omega) (tk_by8 (by omega) (by omega) ey115 ey116)
              refine q_ald_n cx dX8_append_39 rfl (lv_at hl 1 rfl) ?_
              refine lv_dup cx.1 cx.2.1 dX8_append_40 rfl ?_
              refine q_gX8_19 cx hB hso kso z119 dX8_append_41 (fun lb122 ub122 => ?_)
              refine q_iconst cx dX8_append_44 ?_
              refine q_iadd cx dX8_append_45 ?_
              refine q_pX8_19 cx hB hso kso ⟨by omega, by omega⟩ (by omega) (by omega) rfl dX8_append_46 (fun H locs f123 ef123 z124 hB => ?_)
              have z125 : q_is (q_z f123 ba (Int.toNat (xn + 1))) y116 := by rw [ef123, q_setz (Or.inl (fun q => by rw [q, kso] at kba; exact absurd kba (by decide)))]; exact z118
              have z126 : q_ir (q_r f123 so 0) ba := by rw [ef123, q_setr (Or.inr (by decide))]; exact z120
              have g127 : tk_wr f f123 ba xn (fun k9 => (fun q9 => q9) (tk_g4 p0 k9)) 2 := tk_wr_tr g121 (fun i9 => by rw [ef123, q_setz (Or.inl (fun q => by rw [q, kso] at kba; exact absurd kba (by decide)))])
              refine q_iinc (lv' := [(2, .int (q_i ((24 + (-8)) + (-8)))), (0, .ref so), (1, .int (q_i p0))]) cx dX8_append_49 hl (k := 0) rfl (by decide) rfl (fun ls hl => ?_)
              refine lv_goto (tgt := 3) cx.1 cx.2.1 dX8_append_52 (by decide) ?_
              refine q_ild_n cx dX8_append_3 rfl (lv_at hl 0 rfl) ?_
              refine q_iflt (tgt := 55) cx ⟨by decide, by decide⟩ dX8_append_4 (by decide) (fun c128 => ?_) (fun c128 => ?_)
              · exact absurd c128 (by omega)
              · refine q_ald_n cx dX8_append_7 rfl (lv_at hl 1 rfl) ?_
                refine q_gX8_19 cx hB hso kso z124 dX8_append_8 (fun lb129 ub129 => ?_)
                refine q_iflt (tgt := 49) cx ⟨by omega, by omega⟩ dX8_append_11 (by decide) (fun c130 => ?_) (fun c130 => ?_)
                · exact absurd c130 (by omega)
                · refine q_ald_n cx dX8_append_14 rfl (lv_at hl 1 rfl) ?_
                  refine q_gX8_19 cx hB hso kso z124 dX8_append_15 (fun lb131 ub131 => ?_)
                  refine q_ald_n cx dX8_append_18 rfl (lv_at hl 1 rfl) ?_
                  refine q_gX8_11 cx hB hso kso z126 dX8_append_19 (fun hb132 kb132 => ?_)
                  refine q_alen (n := 600) cx hB hba kba (by decide) rfl 0 rfl rfl dX8_append_22 ?_
                  refine q_icge (tgt := 49) cx ⟨by omega, by omega⟩ ⟨by decide, by decide⟩ dX8_append_23 (by decide) (fun c133 => ?_) (fun c133 => ?_)
                  · exact absurd c133 (by omega)
                  · refine q_ald_n cx dX8_append_26 rfl (lv_at hl 1 rfl) ?_
                    refine q_gX8_11 cx hB hso kso z126 dX8_append_27 (fun hb134 kb134 => ?_)
                    refine q_ald_n cx dX8_append_30 rfl (lv_at hl 1 rfl) ?_
                    refine q_gX8_19 cx hB hso kso z124 dX8_append_31 (fun lb135 ub135 => ?_)
                    refine q_ild_n cx dX8_append_34 rfl (lv_at hl 2 rfl) ?_
                    refine q_ild_n cx dX8_append_35 rfl (lv_at hl 0 rfl) ?_
                    refine q_ishr cx dX8_append_36 (fun y136 ry136 ey136 => ?_)
                    refine q_i2b cx dX8_append_37 (fun y137 ly137 uy137 ey137 => ?_)
                    refine q_bast (lo := (-128)) (hi := 127) (n := 600) cx hB hba kba (by decide) rfl rfl (by omega) (by omega) (by decide) rfl ⟨by omega, by omega⟩ (by omega) (by omega) (by omega) (by omega) (q_inWi (lo := 2) (hi := 598) (by decide) (by omega) (by omega)) dX8_append_38 (fun H locs f138 ef138 z139 hB => ?_)
                    have z140 : q_is (q_z f138 so 1) ((xn + 1) + 1) := by rw [ef138, q_setz (Or.inl (fun q => by rw [q, kba] at kso; exact absurd kso (by decide)))]; exact z124
                    have z141 : q_ir (q_r f138 so 0) ba := by rw [ef138, q_setr (Or.inl (fun q => by rw [q, kba] at kso; exact absurd kso (by decide)))]; exact z126
                    have g142 : tk_wr f f138 ba xn (fun k9 => (fun q9 => q9) (tk_g4 p0 k9)) 3 := tk_wr_put g127 ef138 z139 (by omega) (by omega) (tk_by8 (by omega) (by omega) ey136 ey137)
                    refine q_ald_n cx dX8_append_39 rfl (lv_at hl 1 rfl) ?_
                    refine lv_dup cx.1 cx.2.1 dX8_append_40 rfl ?_
                    refine q_gX8_19 cx hB hso kso z140 dX8_append_41 (fun lb143 ub143 => ?_)
                    refine q_iconst cx dX8_append_44 ?_
                    refine q_iadd cx dX8_append_45 ?_
                    refine q_pX8_19 cx hB hso kso ⟨by omega, by omega⟩ (by omega) (by omega) rfl dX8_append_46 (fun H locs f144 ef144 z145 hB => ?_)
                    have z146 : q_is (q_z f144 ba (Int.toNat ((xn + 1) + 1))) y137 := by rw [ef144, q_setz (Or.inl (fun q => by rw [q, kso] at kba; exact absurd kba (by decide)))]; exact z139
                    have z147 : q_ir (q_r f144 so 0) ba := by rw [ef144, q_setr (Or.inr (by decide))]; exact z141
                    have g148 : tk_wr f f144 ba xn (fun k9 => (fun q9 => q9) (tk_g4 p0 k9)) 3 := tk_wr_tr g142 (fun i9 => by rw [ef144, q_setz (Or.inl (fun q => by rw [q, kso] at kba; exact absurd kba (by decide)))])
                    refine q_iinc (lv' := [(2, .int (q_i (((24 + (-8)) + (-8)) + (-8)))), (0, .ref so), (1, .int (q_i p0))]) cx dX8_append_49 hl (k := 0) rfl (by decide) rfl (fun ls hl => ?_)
                    refine lv_goto (tgt := 3) cx.1 cx.2.1 dX8_append_52 (by decide) ?_
                    refine q_ild_n cx dX8_append_3 rfl (lv_at hl 0 rfl) ?_
                    refine q_iflt (tgt := 55) cx ⟨by decide, by decide⟩ dX8_append_4 (by decide) (fun c149 => ?_) (fun c149 => ?_)
                    · exact absurd c149 (by omega)
                    · refine q_ald_n cx dX8_append_7 rfl (lv_at hl 1 rfl) ?_
                      refine q_gX8_19 cx hB hso kso z145 dX8_append_8 (fun lb150 ub150 => ?_)
                      refine q_iflt (tgt := 49) cx ⟨by omega, by omega⟩ dX8_append_11 (by decide) (fun c151 => ?_) (fun c151 => ?_)
                      · exact absurd c151 (by omega)
                      · refine q_ald_n cx dX8_append_14 rfl (lv_at hl 1 rfl) ?_
                        refine q_gX8_19 cx hB hso kso z145 dX8_append_15 (fun lb152 ub152 => ?_)
                        refine q_ald_n cx dX8_append_18 rfl (lv_at hl 1 rfl) ?_
                        refine q_gX8_11 cx hB hso kso z147 dX8_append_19 (fun hb153 kb153 => ?_)
                        refine q_alen (n := 600) cx hB hba kba (by decide) rfl 0 rfl rfl dX8_append_22 ?_
                        refine q_icge (tgt := 49) cx ⟨by omega, by omega⟩ ⟨by decide, by decide⟩ dX8_append_23 (by decide) (fun c154 => ?_) (fun c154 => ?_)
                        · exact absurd c154 (by omega)
                        · refine q_ald_n cx dX8_append_26 rfl (lv_at hl 1 rfl) ?_
                          refine q_gX8_11 cx hB hso kso z147 dX8_append_27 (fun hb155 kb155 => ?_)
                          refine q_ald_n cx dX8_append_30 rfl (lv_at hl 1 rfl) ?_
                          refine q_gX8_19 cx hB hso kso z145 dX8_append_31 (fun lb156 ub156 => ?_)
                          refine q_ild_n cx dX8_append_34 rfl (lv_at hl 2 rfl) ?_
                          refine q_ild_n cx dX8_append_35 rfl (lv_at hl 0 rfl) ?_
                          refine q_ishr cx dX8_append_36 (fun y157 ry157 ey157 => ?_)
                          refine q_i2b cx dX8_append_37 (fun y158 ly158 uy158 ey158 => ?_)
                          refine q_bast (lo := (-128)) (hi := 127) (n := 600) cx hB hba kba (by decide) rfl rfl (by omega) (by omega) (by decide) rfl ⟨by omega, by omega⟩ (by omega) (by omega) (by omega) (by omega) (q_inWi (lo := 3) (hi := 599) (by decide) (by omega) (by omega)) dX8_append_38 (fun H locs f159 ef159 z160 hB => ?_)
                          have z161 : q_is (q_z f159 so 1) (((xn + 1) + 1) + 1) := by rw [ef159, q_setz (Or.inl (fun q => by rw [q, kba] at kso; exact absurd kso (by decide)))]; exact z145
                          have z162 : q_ir (q_r f159 so 0) ba := by rw [ef159, q_setr (Or.inl (fun q => by rw [q, kba] at kso; exact absurd kso (by decide)))]; exact z147
                          have g163 : tk_wr f f159 ba xn (fun k9 => (fun q9 => q9) (tk_g4 p0 k9)) 4 := tk_wr_put g148 ef159 z160 (by omega) (by omega) (tk_by8 (by omega) (by omega) ey157 ey158)
                          refine q_ald_n cx dX8_append_39 rfl (lv_at hl 1 rfl) ?_
                          refine lv_dup cx.1 cx.2.1 dX8_append_40 rfl ?_
                          refine q_gX8_19 cx hB hso kso z161 dX8_append_41 (fun lb164 ub164 => ?_)
                          refine q_iconst cx dX8_append_44 ?_
                          refine q_iadd cx dX8_append_45 ?_
                          refine q_pX8_19 cx hB hso kso ⟨by omega, by omega⟩ (by omega) (by omega) rfl dX8_append_46 (fun H locs f165 ef165 z166 hB => ?_)
                          have z167 : q_is (q_z f165 ba (Int.toNat (((xn + 1) + 1) + 1))) y158 := by rw [ef165, q_setz (Or.inl (fun q => by rw [q, kso] at kba; exact absurd kba (by decide)))]; exact z160
                          have z168 : q_ir (q_r f165 so 0) ba := by rw [ef165, q_setr (Or.inr (by decide))]; exact z162
                          have g169 : tk_wr f f165 ba xn (fun k9 => (fun q9 => q9) (tk_g4 p0 k9)) 4 := tk_wr_tr g163 (fun i9 => by rw [ef165, q_setz (Or.inl (fun q => by rw [q, kso] at kba; exact absurd kba (by decide)))])
                          refine q_iinc (lv' := [(2, .int (q_i ((((24 + (-8)) + (-8)) + (-8)) + (-8)))), (0, .ref so), (1, .int (q_i p0))]) cx dX8_append_49 hl (k := 0) rfl (by decide) rfl (fun ls hl => ?_)
                          refine lv_goto (tgt := 3) cx.1 cx.2.1 dX8_append_52 (by decide) ?_
                          refine q_ild_n cx dX8_append_3 rfl (lv_at hl 0 rfl) ?_
                          refine q_iflt (tgt := 55) cx ⟨by decide, by decide⟩ dX8_append_4 (by decide) (fun c170 => ?_) (fun c170 => ?_)
                          · refine q_vret cx hr hlk hB dX8_append_55 ?_
                            exact ⟨(Eq.trans z166 (by omega)), g169⟩
                          · exact absurd c170 (by omega)
set_option maxHeartbeats 4000000 in
set_option maxRecDepth 100000 in
theorem f_mfeed (l : Launch) (g : q_G) {K : Nat → Nat} {L : List Nat} (hN : L.Nodup) {f : Nat → va_E} (hT : q_Ty g K L f) (mo : Nat) (hmo : mo ∈ L) (kmo : K mo = 12) (a0 : Int) (la0 : (-2147483648) ≤ a0) (ua0 : a0 ≤ 2147483647) (b0 : Int) (lb0 : (-2147483648) ≤ b0) (ub0 : b0 ≤ 2147483647) (c0 : Int) (lc0 : (-2147483648) ≤ c0) (uc0 : c0 ≤ 2147483647) (d0 : Int) (ld0 : (-2147483648) ≤ d0) (ud0 : d0 ≤ 2147483647) (e0 : Int) (le0 : (-2147483648) ≤ e0) (ue0 : e0 ≤ 2147483647) (bu : Nat) (hbu : bu ∈ L) (kbu : K bu = 150) (xn : Int) (lxn : 0 ≤ xn) (uxn : xn ≤ 580) (hf0 : q_is (q_z f mo 2) xn) (hr0 : q_ir (q_r f mo 1) bu) : q_Ct l g K L yX12_feed cX12_feed 6 (some .int) 2 41 [.ref mo, .int (q_i a0), .int (q_i b0), .int (q_i c0), .int (q_i d0), .int (q_i e0)] f [(12, 0, 0), (12, 2, 2), (150, 0, 599)] (q_Pi (fun (z : Int) (f1 : Nat → va_E) => z = (xn + 20) ∧ q_is (q_z f1 mo 2) (xn + 20) ∧ q_is (q_z f1 mo 0) 0 ∧ (tk_wr f f1 bu xn (fun k9 => tk_u (tk_g20 a0 b0 c0 d0 e0 k9)) 20))) := by
  refine q_ofb (by decide +kernel) hN hT (Nat.le_of_ble_eq_true rfl) ?_
  intro p e s m below meth c ls cx hr hlk hB hl
  have hl : lv_has ls 6 [(0, .ref mo), (1, .int (q_i a0)), (2, .int (q_i b0)), (3, .int (q_i c0)), (4, .int (q_i d0)), (5, .int (q_i e0))] := hl
  obtain ⟨H, hH⟩ : ∃ H : Heap, H = s.heap := ⟨_, rfl⟩
  obtain ⟨locs, hlocs⟩ : ∃ z : List Loc, z = [] := ⟨_, rfl⟩
  rw [← hH, ← hlocs] at hB
  rw [← hH, ← hlocs]
  have g48 : ∀ i9 : Nat, q_z f bu i9 = q_z f bu i9 := fun _ => rfl
  refine q_ald_n cx dX12_feed_0 rfl (lv_at hl 0 rfl) ?_
  refine q_ald_n cx dX12_feed_1 rfl (lv_at hl 0 rfl) ?_
  refine q_gX12_82 cx hB hmo kmo hf0 dX12_feed_2 (fun lb49 ub49 => ?_)
  refine q_bipush cx dX12_feed_5 rfl ?_
  refine q_iadd cx dX12_feed_7 ?_
  refine q_sipush cx dX12_feed_8 rfl ?_
  refine q_icgt (tgt := 18) cx ⟨by omega, by omega⟩ ⟨by decide, by decide⟩ dX12_feed_11 (by decide) (fun c50 => ?_) (fun c50 => ?_)
  · exact absurd c50 (by omega)
  · refine q_iconst cx dX12_feed_14 ?_
    refine lv_goto (tgt := 19) cx.1 cx.2.1 dX12_feed_15 (by decide) ?_
    refine q_cVi (As := [.int (q_i 1)]) (rest := []) cx hB (fun _ h => h) hN hmo kmo (by decide) rfl (r_goes1 l g hN hB.2.1 mo hmo kmo 1 (by decide) (by decide)) q_cX12_85 q_dX12_goes (by decide) rfl rfl hl.1 rfl (Nat.le_of_ble_eq_true rfl) dX12_feed_19 (fun y52 H locs f51 ry52 h53 hF hB => ?_)
    obtain ⟨qy52, z54⟩ := h53
    have z55 : q_is (q_z f51 mo 2) xn := Eq.trans (hF.z hmo (by rw [kmo]; rfl)) hf0
    have z56 : q_ir (q_r f51 mo 1) bu := Eq.trans (hF.r hmo (by rw [kmo]; rfl)) hr0
    have g57 : ∀ i9 : Nat, q_z f51 bu i9 = q_z f bu i9 := tk_wz_tr g48 (fun i9 => hF.z hbu (by rw [kbu]; rfl))
    subst qy52
    refine q_ifne (tgt := 27) cx ⟨by decide, by decide⟩ dX12_feed_22 (by decide) (fun c58 => ?_) (fun c58 => ?_)
    · refine q_ald_n cx dX12_feed_27 rfl (lv_at hl 0 rfl) ?_
      refine q_ild_n cx dX12_feed_28 rfl (lv_at hl 1 rfl) ?_
      refine q_cVv (As := [.int (q_i a0)]) (rest := []) cx hB (fun _ h => h) hN hmo kmo (by decide) rfl (f_mfour l g hN hB.2.1 mo hmo kmo a0 (by omega) (by omega) bu hbu kbu xn (by omega) (by omega) z55 z56) q_cX12_89 q_dX12_four (by decide) rfl rfl hl.1 rfl (Nat.le_of_ble_eq_true rfl) dX12_feed_29 (fun H locs f59 h61 hF hB => ?_)
      obtain ⟨z62, t63⟩ := h61
      have z64 : q_is (q_z f59 mo 0) 0 := Eq.trans (hF.z hmo (by rw [kmo]; rfl)) z54
      have z65 : q_ir (q_r f59 mo 1) bu := Eq.trans (hF.r hmo (by rw [kmo]; rfl)) z56
      refine q_ald_n cx dX12_feed_32 rfl (lv_at hl 0 rfl) ?_
      refine q_ild_n cx dX12_feed_33 rfl (lv_at hl 2 rfl) ?_
      refine q_cVv (As := [.int (q_i b0)]) (rest := []) cx hB (fun _ h => h) hN hmo kmo (by decide) rfl (f_mfour l g hN hB.2.1 mo hmo kmo b0 (by omega) (by omega) bu hbu kbu (xn + 4) (by omega) (by omega) z62 z65) q_cX12_89 q_dX12_four (by decide) rfl rfl hl.1 rfl (Nat.le_of_ble_eq_true rfl) dX12_feed_34 (fun H locs f66 h68 hF hB => ?_)
      obtain ⟨z69, t70⟩ := h68
      have z71 : q_is (q_z f66 mo 0) 0 := Eq.trans (hF.z hmo (by rw [kmo]; rfl)) z64
      have z72 : q_ir (q_r f66 mo 1) bu := Eq.trans (hF.r hmo (by rw [kmo]; rfl)) z65
      refine q_ald_n cx dX12_feed_37 rfl (lv_at hl 0 rfl) ?_
      refine q_ild_n cx dX12_feed_38 rfl (lv_at hl 3 rfl) ?_
      refine q_cVv (As := [.int (q_i c0)]) (rest := []) cx hB (fun _ h => h) hN hmo kmo (by decide) rfl (f_mfour l g hN hB.2.1 mo hmo kmo c0 (by omega) (by omega) bu hbu kbu ((xn + 4) + 4) (by omega) (by omega) z69 z72) q_cX12_89 q_dX12_four (by decide) rfl rfl hl.1 rfl (Nat.le_of_ble_eq_true rfl) dX12_feed_39 (fun H locs f73 h75 hF hB => ?_)
      obtain ⟨z76, t77⟩ := h75
      have z78 : q_is (q_z f73 mo 0) 0 := Eq.trans (hF.z hmo (by rw [kmo]; rfl)) z71
      have z79 : q_ir (q_r f73 mo 1) bu := Eq.trans (hF.r hmo (by rw [kmo]; rfl)) z72
      refine q_ald_n cx dX12_feed_42 rfl (lv_at hl 0 rfl) ?_
      refine lv_iload cx.1 cx.2.1 dX12_feed_43 (lv_at hl 4 rfl) ?_
      refine q_cVv (As := [.int (q_i d0)]) (rest := []) cx hB (fun _ h => h) hN hmo kmo (by decide) rfl (f_mfour l g hN hB.2.1 mo hmo kmo d0 (by omega) (by omega) bu hbu kbu (((xn + 4) + 4) + 4) (by omega) (by omega) z76 z79) q_cX12_89 q_dX12_four (by decide) rfl rfl hl.1 rfl (Nat.le_of_ble_eq_true rfl) dX12_feed_45 (fun H locs f80 h82 hF hB => ?_)
      obtain ⟨z83, t84⟩ := h82
      have z85 : q_is (q_z f80 mo 0) 0 := Eq.trans (hF.z hmo (by rw [kmo]; rfl)) z78
      have z86 : q_ir (q_r f80 mo 1) bu := Eq.trans (hF.r hmo (by rw [kmo]; rfl)) z79
      refine q_ald_n cx dX12_feed_48 rfl (lv_at hl 0 rfl) ?_
      refine lv_iload cx.1 cx.2.1 dX12_feed_49 (lv_at hl 5 rfl) ?_
      refine q_cVv (As := [.int (q_i e0)]) (rest := []) cx hB (fun _ h => h) hN hmo kmo (by decide) rfl (f_mfour l g hN hB.2.1 mo hmo kmo e0 (by omega) (by omega) bu hbu kbu ((((xn + 4) + 4) + 4) + 4) (by omega) (by omega) z83 z86) q_cX12_89 q_dX12_four (by decide) rfl rfl hl.1 rfl (Nat.le_of_ble_eq_true rfl) dX12_feed_51 (fun H locs f87 h89 hF hB => ?_)
      obtain ⟨z90, t91⟩ := h89
      have z92 : q_is (q_z f87 mo 0) 0 := Eq.trans (hF.z hmo (by rw [kmo]; rfl)) z85
      have z93 : q_ir (q_r f87 mo 1) bu := Eq.trans (hF.r hmo (by rw [kmo]; rfl)) z86
      refine q_ald_n cx dX12_feed_54 rfl (lv_at hl 0 rfl) ?_
      refine q_gX12_82 cx hB hmo kmo z90 dX12_feed_55 (fun lb94 ub94 => ?_)
      refine q_iret cx hr hlk hB dX12_feed_58 ⟨by omega, by omega⟩ ?_
      exact ⟨(by omega), (Eq.trans z90 (by omega)), z92, (tk_wr5 (U := tk_u) (by omega) (tk_wr_b t63 g57) t70 t77 t84 t91)⟩
    · exact absurd c58 (by omega)
set_option maxHeartbeats 4000000 in
set_option maxRecDepth 100000 in
theorem f_feed (l : Launch) (g : q_G) {K : Nat → Nat} {L : List Nat} (hN : L.Nodup) {f : Nat → va_E} (hT : q_Ty g K L f) (x : Nat) (hx : x ∈ L) (kx : K x = 11) (a0 : Int) (la0 : (-2147483648) ≤ a0) (ua0 : a0 ≤ 2147483647) (b0 : Int) (lb0 : (-2147483648) ≤ b0) (ub0 : b0 ≤ 2147483647) (c0 : Int) (lc0 : (-2147483648) ≤ c0) (uc0 : c0 ≤ 2147483647) (d0 : Int) (ld0 : (-2147483648) ≤ d0) (ud0 : d0 ≤ 2147483647) (e0 : Int) (le0 : (-2147483648) ≤ e0) (ue0 : e0 ≤ 2147483647) (so : Nat) (hso : so ∈ L) (kso : K so = 8) (rd : Nat) (hrd : rd ∈ L) (krd : K rd = 9) (scr : Nat) (hscr : scr ∈ L) (kscr : K scr = 7) (fc : Nat) (hfc : fc ∈ L) (kfc : K fc = 1) (hist : Nat) (hhist : hist ∈ L) (khist : K hist = 2) (rep : Nat) (hrep : rep ∈ L) (krep : K rep = 6) (now : Nat) (hnow : now ∈ L) (know : K now = 10) (dr : Nat) (hdr : dr ∈ L) (kdr : K dr = 13) (sv : Nat) (hsv : sv ∈ L) (ksv : K sv = 14) (tr : Nat) (htr : tr ∈ L) (ktr : K tr = 15) (ba : Nat) (hba : ba ∈ L) (kba : K ba = 142) (nds : Nat) (hnds : nds ∈ L) (knds : K nds = 111) (xn : Int) (lxn : 0 ≤ xn) (uxn : xn ≤ 580) (hf0 : q_is (q_z f so 1) xn) (hr0 : q_ir (q_r f x 0) so) (hr1 : q_ir (q_r f x 1) rd) (hr2 : q_ir (q_r f x 2) scr) (hr3 : q_ir (q_r f x 3) fc) (hr4 : q_ir (q_r f x 4) hist) (hr5 : q_ir (q_r f x 5) rep) (hr6 : q_ir (q_r f x 6) now) (hr7 : q_ir (q_r f x 7) dr) (hr8 : q_ir (q_r f x 8) sv) (hr9 : q_ir (q_r f fc 0) tr) (hr10 : q_ir (q_r f so 0) ba) (hr11 : q_ir (q_r f dr 0) nds) : q_Ct l g K L yX11_feed cX11_feed 6 (some .int) 1 22 [.ref x, .int (q_i a0), .int (q_i b0), .int (q_i c0), .int (q_i d0), .int (q_i e0)] f [(8, 1, 1), (142, 0, 599)] (q_Pi (fun (z : Int) (f1 : Nat → va_E) => z = (xn + 20) ∧ q_is (q_z f1 so 1) (xn + 20) ∧ (tk_wr f f1 ba xn (fun k9 => (fun q9 => q9) (tk_g20 a0 b0 c0 d0 e0 k9)) 20))) := by
  refine q_ofb (by decide +kernel) hN hT (Nat.le_of_ble_eq_true rfl) ?_
  intro p e s m below meth c ls cx hr hlk hB hl
  have hl : lv_has ls 6 [(0, .ref x), (1, .int (q_i a0)), (2, .int (q_i b0)), (3, .int (q_i c0)), (4, .int (q_i d0)), (5, .int (q_i e0))] := hl
  obtain ⟨H, hH⟩ : ∃ H : Heap, H = s.heap := ⟨_, rfl⟩
  obtain ⟨locs, hlocs⟩ : ∃ z : List Loc, z = [] := ⟨_, rfl⟩
  rw [← hH, ← hlocs] at hB
  rw [← hH, ← hlocs]
  refine q_ald_n cx dX11_feed_0 rfl (lv_at hl 0 rfl) ?_
  refine q_gX11_10 cx hB hx kx hr0 dX11_feed_1 (fun hb98 kb98 => ?_)
  refine q_cVi (As := []) (rest := []) cx hB (fun _ h => h) hN hso kso (by decide) rfl (g_hasRoom_a l g hN hB.2.1 so hso kso xn (by omega) (by omega) hf0) q_cX11_64 q_dX8_hasRoomForFeed (by decide) rfl rfl hl.1 rfl (Nat.le_of_ble_eq_true rfl) dX11_feed_4 (fun y100 H locs f99 ry100 h101 hF hB => ?_)
  obtain ⟨rfl, qy100⟩ := h101
  subst qy100
  refine q_ifne (tgt := 20) cx ⟨by decide, by decide⟩ dX11_feed_7 (by decide) (fun c102 => ?_) (fun c102 => ?_)
  · refine q_ald_n cx dX11_feed_20 rfl (lv_at hl 0 rfl) ?_
    refine q_gX11_10 cx hB hx kx hr0 dX11_feed_21 (fun hb103 kb103 => ?_)
    refine q_ild_n cx dX11_feed_24 rfl (lv_at hl 1 rfl) ?_
    refine q_cVv (As := [.int (q_i a0)]) (rest := []) cx hB (fun _ h => h) hN hso kso (by decide) rfl (f_append l g hN hB.2.1 so hso kso a0 (by omega) (by omega) ba hba kba xn (by omega) (by omega) hf0 hr10) q_cX11_75 q_dX8_append (by decide) rfl rfl hl.1 rfl (Nat.le_of_ble_eq_true rfl) dX11_feed_25 (fun H locs f104 h106 hF hB => ?_)
    obtain ⟨z107, t108⟩ := h106
    have z109 : q_ir (q_r f104 x 0) so := Eq.trans (hF.r hx (by rw [kx]; rfl)) hr0
    have z110 : q_ir (q_r f104 x 1) rd := Eq.trans (hF.r hx (by rw [kx]; rfl)) hr1
    have z111 : q_ir (q_r f104 x 2) scr := Eq.trans (hF.r hx (by rw [kx]; rfl)) hr2
    have z112 : q_ir (q_r f104 x 3) fc := Eq.trans (hF.r hx (by rw [kx]; rfl)) hr3
    have z113 : q_ir (q_r f104 x 4) hist := Eq.trans (hF.r hx (by rw [kx]; rfl)) hr4
    have z114 : q_ir (q_r f104 x 5) rep := Eq.trans (hF.r hx (by rw [kx]; rfl)) hr5
    have z115 : q_ir (q_r f104 x 6) now := Eq.trans (hF.r hx (by rw [kx]; rfl)) hr6
    have z116 : q_ir (q_r f104 x 7) dr := Eq.trans (hF.r hx (by rw [kx]; rfl)) hr7
    have z117 : q_ir (q_r f104 x 8) sv := Eq.trans (hF.r hx (by rw [kx]; rfl)) hr8
    have z118 : q_ir (q_r f104 fc 0) tr := Eq.trans (hF.r hfc (by rw [kfc]; rfl)) hr9
    have z119 : q_ir (q_r f104 so 0) ba := Eq.trans (hF.r hso (by rw [kso]; rfl)) hr10
    have z120 : q_ir (q_r f104 dr 0) nds := Eq.trans (hF.r hdr (by rw [kdr]; rfl)) hr11
    refine q_ald_n cx dX11_feed_28 rfl (lv_at hl 0 rfl) ?_
    refine q_gX11_10 cx hB hx kx z109 dX11_feed_29 (fun hb121 kb121 => ?_)
    refine q_ild_n cx dX11_feed_32 rfl (lv_at hl 2 rfl) ?_
    refine q_cVv (As := [.int (q_i b0)]) (rest := []) cx hB (fun _ h => h) hN hso kso (by decide) rfl (f_append l g hN hB.2.1 so hso kso b0 (by omega) (by omega) ba hba kba (xn + 4) (by omega) (by omega) z107 z119) q_cX11_75 q_dX8_append (by decide) rfl rfl hl.1 rfl (Nat.le_of_ble_eq_true rfl) dX11_feed_33 (fun H locs f122 h124 hF hB => ?_)
    obtain ⟨z125, t126⟩ := h124
    have z127 : q_ir (q_r f122 x 0) so := Eq.trans (hF.r hx (by rw [kx]; rfl)) z109
    have z128 : q_ir (q_r f122 x 1) rd := Eq.trans (hF.r hx (by rw [kx]; rfl)) z110
    have z129 : q_ir (q_r f122 x 2) scr := Eq.trans (hF.r hx (by rw [kx]; rfl)) z111
    have z130 : q_ir (q_r f122 x 3) fc := Eq.trans (hF.r hx (by rw [kx]; rfl)) z112
    have z131 : q_ir (q_r f122 x 4) hist := Eq.trans (hF.r hx (by rw [kx]; rfl)) z113
    have z132 : q_ir (q_r f122 x 5) rep := Eq.trans (hF.r hx (by rw [kx]; rfl)) z114
    have z133 : q_ir (q_r f122 x 6) now := Eq.trans (hF.r hx (by rw [kx]; rfl)) z115
    have z134 : q_ir (q_r f122 x 7) dr := Eq.trans (hF.r hx (by rw [kx]; rfl)) z116
    have z135 : q_ir (q_r f122 x 8) sv := Eq.trans (hF.r hx (by rw [kx]; rfl)) z117
    have z136 : q_ir (q_r f122 fc 0) tr := Eq.trans (hF.r hfc (by rw [kfc]; rfl)) z118
    have z137 : q_ir (q_r f122 so 0) ba := Eq.trans (hF.r hso (by rw [kso]; rfl)) z119
    have z138 : q_ir (q_r f122 dr 0) nds := Eq.trans (hF.r hdr (by rw [kdr]; rfl)) z120
    refine q_ald_n cx dX11_feed_36 rfl (lv_at hl 0 rfl) ?_
    refine q_gX11_10 cx hB hx kx z127 dX11_feed_37 (fun hb139 kb139 => ?_)
    refine q_ild_n cx dX11_feed_40 rfl (lv_at hl 3 rfl) ?_
    refine q_cVv (As := [.int (q_i c0)]) (rest := []) cx hB (fun _ h => h) hN hso kso (by decide) rfl (f_append l g hN hB.2.1 so hso kso c0 (by omega) (by omega) ba hba kba ((xn + 4) + 4) (by omega) (by omega) z125 z137) q_cX11_75 q_dX8_append (by decide) rfl rfl hl.1 rfl (Nat.le_of_ble_eq_true rfl) dX11_feed_41 (fun H locs f140 h142 hF hB => ?_)
    obtain ⟨z143, t144⟩ := h142
    have z145 : q_ir (q_r f140 x 0) so := Eq.trans (hF.r hx (by rw [kx]; rfl)) z127
    have z146 : q_ir (q_r f140 x 1) rd := Eq.trans (hF.r hx (by rw [kx]; rfl)) z128
    have z147 : q_ir (q_r f140 x 2) scr := Eq.trans (hF.r hx (by rw [kx]; rfl)) z129
    have z148 : q_ir (q_r f140 x 3) fc := Eq.trans (hF.r hx (by rw [kx]; rfl)) z130
    have z149 : q_ir (q_r f140 x 4) hist := Eq.trans (hF.r hx (by rw [kx]; rfl)) z131
    have z150 : q_ir (q_r f140 x 5) rep := Eq.trans (hF.r hx (by rw [kx]; rfl)) z132
    have z151 : q_ir (q_r f140 x 6) now := Eq.trans (hF.r hx (by rw [kx]; rfl)) z133
    have z152 : q_ir (q_r f140 x 7) dr := Eq.trans (hF.r hx (by rw [kx]; rfl)) z134
    have z153 : q_ir (q_r f140 x 8) sv := Eq.trans (hF.r hx (by rw [kx]; rfl)) z135
    have z154 : q_ir (q_r f140 fc 0) tr := Eq.trans (hF.r hfc (by rw [kfc]; rfl)) z136
    have z155 : q_ir (q_r f140 so 0) ba := Eq.trans (hF.r hso (by rw [kso]; rfl)) z137
    have z156 : q_ir (q_r f140 dr 0) nds := Eq.trans (hF.r hdr (by rw [kdr]; rfl)) z138
    refine q_ald_n cx dX11_feed_44 rfl (lv_at hl 0 rfl) ?_
    refine q_gX11_10 cx hB hx kx z145 dX11_feed_45 (fun hb157 kb157 => ?_)
    refine lv_iload cx.1 cx.2.1 dX11_feed_48 (lv_at hl 4 rfl) ?_
    refine q_cVv (As := [.int (q_i d0)]) (rest := []) cx hB (fun _ h => h) hN hso kso (by decide) rfl (f_append l g hN hB.2.1 so hso kso d0 (by omega) (by omega) ba hba kba (((xn + 4) + 4) + 4) (by omega) (by omega) z143 z155) q_cX11_75 q_dX8_append (by decide) rfl rfl hl.1 rfl (Nat.le_of_ble_eq_true rfl) dX11_feed_50 (fun H locs f158 h160 hF hB => ?_)
    obtain ⟨z161, t162⟩ := h160
    have z163 : q_ir (q_r f158 x 0) so := Eq.trans (hF.r hx (by rw [kx]; rfl)) z145
    have z164 : q_ir (q_r f158 x 1) rd := Eq.trans (hF.r hx (by rw [kx]; rfl)) z146
    have z165 : q_ir (q_r f158 x 2) scr := Eq.trans (hF.r hx (by rw [kx]; rfl)) z147
    have z166 : q_ir (q_r f158 x 3) fc := Eq.trans (hF.r hx (by rw [kx]; rfl)) z148
    have z167 : q_ir (q_r f158 x 4) hist := Eq.trans (hF.r hx (by rw [kx]; rfl)) z149
    have z168 : q_ir (q_r f158 x 5) rep := Eq.trans (hF.r hx (by rw [kx]; rfl)) z150
    have z169 : q_ir (q_r f158 x 6) now := Eq.trans (hF.r hx (by rw [kx]; rfl)) z151
    have z170 : q_ir (q_r f158 x 7) dr := Eq.trans (hF.r hx (by rw [kx]; rfl)) z152
    have z171 : q_ir (q_r f158 x 8) sv := Eq.trans (hF.r hx (by rw [kx]; rfl)) z153
    have z172 : q_ir (q_r f158 fc 0) tr := Eq.trans (hF.r hfc (by rw [kfc]; rfl)) z154
    have z173 : q_ir (q_r f158 so 0) ba := Eq.trans (hF.r hso (by rw [kso]; rfl)) z155
    have z174 : q_ir (q_r f158 dr 0) nds := Eq.trans (hF.r hdr (by rw [kdr]; rfl)) z156
    refine q_ald_n cx dX11_feed_53 rfl (lv_at hl 0 rfl) ?_
    refine q_gX11_10 cx hB hx kx z163 dX11_feed_54 (fun hb175 kb175 => ?_)
    refine lv_iload cx.1 cx.2.1 dX11_feed_57 (lv_at hl 5 rfl) ?_
    refine q_cVv (As := [.int (q_i e0)]) (rest := []) cx hB (fun _ h => h) hN hso kso (by decide) rfl (f_append l g hN hB.2.1 so hso kso e0 (by omega) (by omega) ba hba kba ((((xn + 4) + 4) + 4) + 4) (by omega) (by omega) z161 z173) q_cX11_75 q_dX8_append (by decide) rfl rfl hl.1 rfl (Nat.le_of_ble_eq_true rfl) dX11_feed_59 (fun H locs f176 h178 hF hB => ?_)
    obtain ⟨z179, t180⟩ := h178
    have z181 : q_ir (q_r f176 x 0) so := Eq.trans (hF.r hx (by rw [kx]; rfl)) z163
    have z182 : q_ir (q_r f176 x 1) rd := Eq.trans (hF.r hx (by rw [kx]; rfl)) z164
    have z183 : q_ir (q_r f176 x 2) scr := Eq.trans (hF.r hx (by rw [kx]; rfl)) z165
    have z184 : q_ir (q_r f176 x 3) fc := Eq.trans (hF.r hx (by rw [kx]; rfl)) z166
    have z185 : q_ir (q_r f176 x 4) hist := Eq.trans (hF.r hx (by rw [kx]; rfl)) z167
    have z186 : q_ir (q_r f176 x 5) rep := Eq.trans (hF.r hx (by rw [kx]; rfl)) z168
    have z187 : q_ir (q_r f176 x 6) now := Eq.trans (hF.r hx (by rw [kx]; rfl)) z169
    have z188 : q_ir (q_r f176 x 7) dr := Eq.trans (hF.r hx (by rw [kx]; rfl)) z170
    have z189 : q_ir (q_r f176 x 8) sv := Eq.trans (hF.r hx (by rw [kx]; rfl)) z171
    have z190 : q_ir (q_r f176 fc 0) tr := Eq.trans (hF.r hfc (by rw [kfc]; rfl)) z172
    have z191 : q_ir (q_r f176 so 0) ba := Eq.trans (hF.r hso (by rw [kso]; rfl)) z173
    have z192 : q_ir (q_r f176 dr 0) nds := Eq.trans (hF.r hdr (by rw [kdr]; rfl)) z174
    refine q_ald_n cx dX11_feed_62 rfl (lv_at hl 0 rfl) ?_
    refine q_gX11_10 cx hB hx kx z181 dX11_feed_63 (fun hb193 kb193 => ?_)
    refine q_gX11_79 cx hB hso kso z179 dX11_feed_66 (fun lb194 ub194 => ?_)
    refine q_iret cx hr hlk hB dX11_feed_69 ⟨by omega, by omega⟩ ?_
    exact ⟨(by omega), (Eq.trans z179 (by omega)), (tk_wr5 (U := fun q9 => q9) (by omega) t108 t126 t144 t162 t180)⟩
  · exact absurd c102 (by omega)
