set_option maxHeartbeats 4000000 in
set_option maxRecDepth 100000 in
theorem f_takeWord_7 (l : Launch) (g : q_G) (ad : Nat → Nat) {K : Nat → Nat} {L : List Nat} (hN : L.Nodup) {f : Nat → va_E} (hT : q_Ty g K L f) (hfl : l.stackTraces = false) (B : Nat → Int) (so : Nat) (hso : so ∈ L) (kso : K so = 8) (ba : Nat) (hba : ba ∈ L) (kba : K ba = 142) (tn : Int) (ltn : 0 ≤ tn) (utn : tn ≤ 600) (ss : Int) (lss : 0 ≤ ss) (uss : ss ≤ 600) (hf0 : q_is (q_z f so 1) tn) (hf1 : q_is (q_z f so 8) ss) (hf2 : q_is (q_z f so 2) 0) (hf3 : q_is (q_z f so 3) (-1)) (hr0 : q_ir (q_r f so 0) ba) (htc : tk_tc f so B tn) (htb : tk_tb f ba B tn) : q_Xt l g ad K L yX8_takeWord cX8_takeWord 2 (some .boolean) 5 107 0 0 [.ref so, .ref (ad 7)] f [(8, 2, 4), (8, 6, 9)] (q_Pi (fun (z : Int) (f1 : Nat → va_E) => (z = 1 ∧ q_is (q_z f1 so 2) 0 ∧ q_is (q_z f1 so 3) (-1) ∧ (tk_wd B tn tk_wEnergy ss = tk_ok (q_z f1 so 8)) ∧ (tk_tc f1 so B tn)) ∨ (z = 0 ∧ (tk_wd B tn tk_wEnergy ss = tk_er (q_z f1 so 2) (q_z f1 so 3)) ∧ (tk_tc f1 so B tn)))) (fun (_ : String) (_ : Nat → va_E) => False) := by
  refine q_xofb (by decide +kernel) hN hT (Nat.le_of_ble_eq_true rfl) ?_
  intro p e s m below meth c ls cx hr hlk htab hX hB hl
  have hl : lv_has ls 2 [(0, .ref so), (1, .ref (ad 7))] := hl
  obtain ⟨H, hH⟩ : ∃ H : Heap, H = s.heap := ⟨_, rfl⟩
  obtain ⟨locs, hlocs⟩ : ∃ z : List Loc, z = [] := ⟨_, rfl⟩
  rw [← hH, ← hlocs] at hB
  rw [← hH, ← hlocs]
  refine q_ald_n cx dX8_takeWord_0 rfl (lv_at hl 0 rfl) ?_
  refine q_ald_n cx dX8_takeWord_1 rfl (lv_at hl 1 rfl) ?_
  refine q_cXV (As := [.ref (ad 7)]) (rest := []) cx hX hB (fun _ h => h) (fun _ h _ => h) hN hso kso (by decide) rfl (f_isWord_7 l g ad hN hB.2.1 hfl B so hso kso ba hba kba tn (by omega) (by omega) ss (by omega) (by omega) hf0 hf1 hr0 htc htb) q_cX8_82 q_dX8_isWord (by decide) rfl rfl hl.1 rfl (Nat.le_of_ble_eq_true rfl) dX8_takeWord_2 (fun E9 ce9 q9 H locs f35 hex hF hB hcell hcv hcl => ?_) (fun v9 H locs f32 h34 hF hB => ?_)
  · exact hex.elim
  · obtain ⟨y33, rfl, ry33, h34⟩ := h34
    refine W.eq (g2 := F0 m 5 ls [.int (q_i y33)]) rfl ?_
    rcases h34 with h36 | h37
    · obtain ⟨rfl, qy33, t38⟩ := h36
      subst qy33
      refine q_ifne (tgt := 14) cx ⟨by decide, by decide⟩ dX8_takeWord_5 (by decide) (fun c39 => ?_) (fun c39 => ?_)
      · refine q_ald_n cx dX8_takeWord_14 rfl (lv_at hl 0 rfl) ?_
        refine q_cVv (As := []) (rest := []) cx hB (fun _ h => h) hN hso kso (by decide) rfl (f_adv l g hN hB.2.1 B so hso kso ba hba kba tn (by omega) (by omega) ss (by omega) (by omega) hf0 hf1 hr0 htc htb) q_cX8_30 q_dX8_advance (by decide) rfl rfl hl.1 rfl (Nat.le_of_ble_eq_true rfl) dX8_takeWord_15 (fun H locs f40 h42 hF hB => ?_)
        obtain ⟨t43, g44⟩ := h42
        have z45 : q_is (q_z f40 so 1) tn := Eq.trans (hF.z hso (by rw [kso]; rfl)) hf0
        have z46 : q_is (q_z f40 so 2) 0 := Eq.trans (hF.z hso (by rw [kso]; rfl)) hf2
        have z47 : q_is (q_z f40 so 3) (-1) := Eq.trans (hF.z hso (by rw [kso]; rfl)) hf3
        have z48 : q_ir (q_r f40 so 0) ba := Eq.trans (hF.r hso (by rw [kso]; rfl)) hr0
        have g49 : tk_tb f40 ba B tn := tk_tb_tr htb (fun i9 => hF.z hba (by rw [kba]; rfl))
        obtain ⟨x50, ex50⟩ : ∃ zz, q_is (q_z f40 so 8) zz := ⟨_, q_isr _⟩
        obtain ⟨lx50, ux50⟩ := q_isb ex50 (q_fib hB.2.1 hso kso (by decide) rfl)
        obtain ⟨-, l0x50, u0x50, -, -⟩ := tk_tc_n g44 ex50
        refine q_iconst cx dX8_takeWord_18 ?_
        refine W.widen (k := 0) (n := 0) (by decide) (by decide) ?_
        refine vx_ret ?_
        refine q_zret cx hr hlk hB dX8_takeWord_19 (by decide) (by decide) ?_
        exact (Or.inl ⟨rfl, z46, z47, (tk_wd_ok t38 t43), g44⟩)
      · exact absurd c39 (by omega)
    · obtain ⟨rfl, qy33, t51⟩ := h37
      subst qy33
      refine q_ifne (tgt := 14) cx ⟨by decide, by decide⟩ dX8_takeWord_5 (by decide) (fun c52 => ?_) (fun c52 => ?_)
      · exact absurd c52 (by omega)
      · refine q_ald_n cx dX8_takeWord_8 rfl (lv_at hl 0 rfl) ?_
        refine q_iconst cx dX8_takeWord_9 ?_
        refine q_cVi (As := [.int (q_i 1)]) (rest := []) cx hB (fun _ h => h) hN hso kso (by decide) rfl (f_fail l g hN hB.2.1 B so hso kso 1 (by decide) (by decide) ba hba kba tn (by omega) (by omega) ss (by omega) (by omega) hf0 hf1 hr0 htc htb) q_cX8_79 q_dX8_fail (by decide) rfl rfl hl.1 rfl (Nat.le_of_ble_eq_true rfl) dX8_takeWord_10 (fun y54 H locs f53 ry54 h55 hF hB => ?_)
        obtain ⟨qy54, z56, z57⟩ := h55
        have z58 : q_is (q_z f53 so 1) tn := Eq.trans (hF.z hso (by rw [kso]; rfl)) hf0
        have z59 : q_is (q_z f53 so 8) ss := Eq.trans (hF.z hso (by rw [kso]; rfl)) hf1
        have z60 : q_ir (q_r f53 so 0) ba := Eq.trans (hF.r hso (by rw [kso]; rfl)) hr0
        have g61 : tk_tc f53 so B tn := tk_tc_tr htc (hF.z hso (by rw [kso]; rfl)) (hF.z hso (by rw [kso]; rfl)) (hF.z hso (by rw [kso]; rfl)) (hF.j hso (by rw [kso]; rfl)) (hF.z hso (by rw [kso]; rfl))
        have g62 : tk_tb f53 ba B tn := tk_tb_tr htb (fun i9 => hF.z hba (by rw [kba]; rfl))
        subst qy54
        refine W.widen (k := 0) (n := 0) (by decide) (by decide) ?_
        refine vx_ret ?_
        refine q_zret cx hr hlk hB dX8_takeWord_13 (by decide) (by decide) ?_
        exact (Or.inr ⟨rfl, (tk_wd_er t51 z56 z57), g61⟩)
set_option maxHeartbeats 4000000 in
set_option maxRecDepth 100000 in
theorem f_nodeAt (l : Launch) (g : q_G) {K : Nat → Nat} {L : List Nat} (hN : L.Nodup) {f : Nat → va_E} (hT : q_Ty g K L f) (dr : Nat) (hdr : dr ∈ L) (kdr : K dr = 13) (p0 : Int) (lp0 : 0 ≤ p0) (up0 : p0 ≤ 9) (nds : Nat) (hnds : nds ∈ L) (knds : K nds = 111) (hr0 : q_ir (q_r f dr 0) nds) : q_Ct l g K L yX10_nodeAt cX10_nodeAt 2 (some (.object "WakeVillage$Node")) 0 0 [.ref dr, .int (q_i p0)] f [] (q_Pr (fun (z : Nat) (f1 : Nat → va_E) => f = f1 ∧ z ∈ L ∧ K z = 17 ∧ (z = q_r f nds (Int.toNat p0)))) := by
  refine q_ofb (by decide +kernel) hN hT (Nat.le_of_ble_eq_true rfl) ?_
  intro p e s m below meth c ls cx hr hlk hB hl
  have hl : lv_has ls 2 [(0, .ref dr), (1, .int (q_i p0))] := hl
  obtain ⟨H, hH⟩ : ∃ H : Heap, H = s.heap := ⟨_, rfl⟩
  obtain ⟨locs, hlocs⟩ : ∃ z : List Loc, z = [] := ⟨_, rfl⟩
  rw [← hH, ← hlocs] at hB
  rw [← hH, ← hlocs]
  refine q_ald_n cx dX10_nodeAt_0 rfl (lv_at hl 0 rfl) ?_
  refine q_gX10_13_13 cx hB hdr kdr hr0 dX10_nodeAt_1 (fun hb7 kb7 => ?_)
  refine q_ild_n cx dX10_nodeAt_4 rfl (lv_at hl 1 rfl) ?_
  refine q_iflt (tgt := 21) cx ⟨by omega, by omega⟩ dX10_nodeAt_5 (by decide) (fun c8 => ?_) (fun c8 => ?_)
  · exact absurd c8 (by omega)
  · refine q_ild_n cx dX10_nodeAt_8 rfl (lv_at hl 1 rfl) ?_
    refine q_ald_n cx dX10_nodeAt_9 rfl (lv_at hl 0 rfl) ?_
    refine q_gX10_13_13 cx hB hdr kdr hr0 dX10_nodeAt_10 (fun hb9 kb9 => ?_)
    refine q_alen (n := 10) cx hB hnds knds (by decide) rfl 7 rfl rfl dX10_nodeAt_13 ?_
    refine q_icge (tgt := 21) cx ⟨by omega, by omega⟩ ⟨by decide, by decide⟩ dX10_nodeAt_14 (by decide) (fun c10 => ?_) (fun c10 => ?_)
    · exact absurd c10 (by omega)
    · refine q_ild_n cx dX10_nodeAt_17 rfl (lv_at hl 1 rfl) ?_
      refine lv_goto (tgt := 22) cx.1 cx.2.1 dX10_nodeAt_18 (by decide) ?_
      obtain ⟨p11, ep11⟩ : ∃ zz, q_ir (q_r f nds (Int.toNat p0)) zz := ⟨_, q_irr _⟩
      refine q_aald (k2 := 17) (n := 10) cx hB hnds knds (by decide) rfl 7 rfl (by decide) rfl (by omega) (by omega) (by decide) rfl ep11 dX10_nodeAt_22 (fun hb12 kb12 => ?_)
      refine q_aret cx hr (Or.inl ⟨_, rfl⟩) hlk hB dX10_nodeAt_23 ?_
      exact ⟨rfl, hb12, kb12, (Eq.symm ep11)⟩
set_option maxHeartbeats 4000000 in
set_option maxRecDepth 100000 in
theorem f_makeEmpty (l : Launch) (g : q_G) {K : Nat → Nat} {L : List Nat} (hN : L.Nodup) {f : Nat → va_E} (hT : q_Ty g K L f) (dr : Nat) (hdr : dr ∈ L) (kdr : K dr = 13) : q_Ct l g K L yX10_makeEmpty cX10_makeEmpty 1 none 0 0 [.ref dr] f [(13, 3, 12)] (q_Pv (fun (f1 : Nat → va_E) => q_is (q_z f1 dr 3) 0 ∧ q_is (q_z f1 dr 4) 0)) := by
  refine q_ofb (by decide +kernel) hN hT (Nat.le_of_ble_eq_true rfl) ?_
  intro p e s m below meth c ls cx hr hlk hB hl
  have hl : lv_has ls 1 [(0, .ref dr)] := hl
  obtain ⟨H, hH⟩ : ∃ H : Heap, H = s.heap := ⟨_, rfl⟩
  obtain ⟨locs, hlocs⟩ : ∃ z : List Loc, z = [] := ⟨_, rfl⟩
  rw [← hH, ← hlocs] at hB
  rw [← hH, ← hlocs]
  refine q_ald_n cx dX10_makeEmpty_0 rfl (lv_at hl 0 rfl) ?_
  refine q_iconst cx dX10_makeEmpty_1 ?_
  refine q_pX10_35_13 cx hB hdr kdr ⟨by decide, by decide⟩ (by decide) (by decide) rfl dX10_makeEmpty_2 (fun H locs f66 ef66 z67 hB => ?_)
  refine q_ald_n cx dX10_makeEmpty_5 rfl (lv_at hl 0 rfl) ?_
  refine q_iconst cx dX10_makeEmpty_6 ?_
  refine q_pX10_39_13 cx hB hdr kdr ⟨by decide, by decide⟩ (by decide) (by decide) rfl dX10_makeEmpty_7 (fun H locs f68 ef68 z69 hB => ?_)
  have z70 : q_is (q_z f68 dr 3) 0 := by rw [ef68, q_setz (Or.inr (by decide))]; exact z67
  refine q_ald_n cx dX10_makeEmpty_10 rfl (lv_at hl 0 rfl) ?_
  refine q_iconst cx dX10_makeEmpty_11 ?_
  refine q_pX10_42_13 cx hB hdr kdr ⟨by decide, by decide⟩ (by decide) (by decide) rfl dX10_makeEmpty_12 (fun H locs f71 ef71 z72 hB => ?_)
  have z73 : q_is (q_z f71 dr 3) 0 := by rw [ef71, q_setz (Or.inr (by decide))]; exact z70
  have z74 : q_is (q_z f71 dr 4) 0 := by rw [ef71, q_setz (Or.inr (by decide))]; exact z69
  refine q_ald_n cx dX10_makeEmpty_15 rfl (lv_at hl 0 rfl) ?_
  refine q_bipush cx dX10_makeEmpty_16 rfl ?_
  refine q_pX10_45_13 cx hB hdr kdr ⟨by decide, by decide⟩ (by decide) (by decide) rfl dX10_makeEmpty_18 (fun H locs f75 ef75 z76 hB => ?_)
  have z77 : q_is (q_z f75 dr 3) 0 := by rw [ef75, q_setz (Or.inr (by decide))]; exact z73
  have z78 : q_is (q_z f75 dr 4) 0 := by rw [ef75, q_setz (Or.inr (by decide))]; exact z74
  have z79 : q_is (q_z f75 dr 5) 0 := by rw [ef75, q_setz (Or.inr (by decide))]; exact z72
  refine q_ald_n cx dX10_makeEmpty_21 rfl (lv_at hl 0 rfl) ?_
  refine q_iconst cx dX10_makeEmpty_22 ?_
  refine q_pX10_48_13 cx hB hdr kdr ⟨by decide, by decide⟩ (by decide) (by decide) rfl dX10_makeEmpty_23 (fun H locs f80 ef80 z81 hB => ?_)
  have z82 : q_is (q_z f80 dr 3) 0 := by rw [ef80, q_setz (Or.inr (by decide))]; exact z77
  have z83 : q_is (q_z f80 dr 4) 0 := by rw [ef80, q_setz (Or.inr (by decide))]; exact z78
  have z84 : q_is (q_z f80 dr 5) 0 := by rw [ef80, q_setz (Or.inr (by decide))]; exact z79
  have z85 : q_is (q_z f80 dr 6) 12 := by rw [ef80, q_setz (Or.inr (by decide))]; exact z76
  refine q_ald_n cx dX10_makeEmpty_26 rfl (lv_at hl 0 rfl) ?_
  refine q_iconst cx dX10_makeEmpty_27 ?_
  refine q_pX10_51_13 cx hB hdr kdr ⟨by decide, by decide⟩ (by decide) (by decide) rfl dX10_makeEmpty_28 (fun H locs f86 ef86 z87 hB => ?_)
  have z88 : q_is (q_z f86 dr 3) 0 := by rw [ef86, q_setz (Or.inr (by decide))]; exact z82
  have z89 : q_is (q_z f86 dr 4) 0 := by rw [ef86, q_setz (Or.inr (by decide))]; exact z83
  have z90 : q_is (q_z f86 dr 5) 0 := by rw [ef86, q_setz (Or.inr (by decide))]; exact z84
  have z91 : q_is (q_z f86 dr 6) 12 := by rw [ef86, q_setz (Or.inr (by decide))]; exact z85
  have z92 : q_is (q_z f86 dr 7) 1 := by rw [ef86, q_setz (Or.inr (by decide))]; exact z81
  refine q_ald_n cx dX10_makeEmpty_31 rfl (lv_at hl 0 rfl) ?_
  refine q_iconst cx dX10_makeEmpty_32 ?_
  refine q_pX10_54_13 cx hB hdr kdr ⟨by decide, by decide⟩ (by decide) (by decide) rfl dX10_makeEmpty_33 (fun H locs f93 ef93 z94 hB => ?_)
  have z95 : q_is (q_z f93 dr 3) 0 := by rw [ef93, q_setz (Or.inr (by decide))]; exact z88
  have z96 : q_is (q_z f93 dr 4) 0 := by rw [ef93, q_setz (Or.inr (by decide))]; exact z89
  have z97 : q_is (q_z f93 dr 5) 0 := by rw [ef93, q_setz (Or.inr (by decide))]; exact z90
  have z98 : q_is (q_z f93 dr 6) 12 := by rw [ef93, q_setz (Or.inr (by decide))]; exact z91
  have z99 : q_is (q_z f93 dr 7) 1 := by rw [ef93, q_setz (Or.inr (by decide))]; exact z92
  have z100 : q_is (q_z f93 dr 8) 2 := by rw [ef93, q_setz (Or.inr (by decide))]; exact z87
  refine q_ald_n cx dX10_makeEmpty_36 rfl (lv_at hl 0 rfl) ?_
  refine q_iconst cx dX10_makeEmpty_37 ?_
  refine q_pX10_57_13 cx hB hdr kdr ⟨by decide, by decide⟩ (by decide) (by decide) rfl dX10_makeEmpty_38 (fun H locs f101 ef101 z102 hB => ?_)
  have z103 : q_is (q_z f101 dr 3) 0 := by rw [ef101, q_setz (Or.inr (by decide))]; exact z95
  have z104 : q_is (q_z f101 dr 4) 0 := by rw [ef101, q_setz (Or.inr (by decide))]; exact z96
  have z105 : q_is (q_z f101 dr 5) 0 := by rw [ef101, q_setz (Or.inr (by decide))]; exact z97
  have z106 : q_is (q_z f101 dr 6) 12 := by rw [ef101, q_setz (Or.inr (by decide))]; exact z98
  have z107 : q_is (q_z f101 dr 7) 1 := by rw [ef101, q_setz (Or.inr (by decide))]; exact z99
  have z108 : q_is (q_z f101 dr 8) 2 := by rw [ef101, q_setz (Or.inr (by decide))]; exact z100
  have z109 : q_is (q_z f101 dr 9) 5 := by rw [ef101, q_setz (Or.inr (by decide))]; exact z94
  refine q_ald_n cx dX10_makeEmpty_41 rfl (lv_at hl 0 rfl) ?_
  refine q_iconst cx dX10_makeEmpty_42 ?_
  refine q_pX10_60_13 cx hB hdr kdr ⟨by decide, by decide⟩ (by decide) (by decide) rfl dX10_makeEmpty_43 (fun H locs f110 ef110 z111 hB => ?_)
  have z112 : q_is (q_z f110 dr 3) 0 := by rw [ef110, q_setz (Or.inr (by decide))]; exact z103
  have z113 : q_is (q_z f110 dr 4) 0 := by rw [ef110, q_setz (Or.inr (by decide))]; exact z104
  have z114 : q_is (q_z f110 dr 5) 0 := by rw [ef110, q_setz (Or.inr (by decide))]; exact z105
  have z115 : q_is (q_z f110 dr 6) 12 := by rw [ef110, q_setz (Or.inr (by decide))]; exact z106
  have z116 : q_is (q_z f110 dr 7) 1 := by rw [ef110, q_setz (Or.inr (by decide))]; exact z107
  have z117 : q_is (q_z f110 dr 8) 2 := by rw [ef110, q_setz (Or.inr (by decide))]; exact z108
  have z118 : q_is (q_z f110 dr 9) 5 := by rw [ef110, q_setz (Or.inr (by decide))]; exact z109
  have z119 : q_is (q_z f110 dr 10) 3 := by rw [ef110, q_setz (Or.inr (by decide))]; exact z102
  refine q_ald_n cx dX10_makeEmpty_46 rfl (lv_at hl 0 rfl) ?_
  refine q_iconst cx dX10_makeEmpty_47 ?_
  refine q_pX10_63_13 cx hB hdr kdr ⟨by decide, by decide⟩ (by decide) (by decide) rfl dX10_makeEmpty_48 (fun H locs f120 ef120 z121 hB => ?_)
  have z122 : q_is (q_z f120 dr 3) 0 := by rw [ef120, q_setz (Or.inr (by decide))]; exact z112
  have z123 : q_is (q_z f120 dr 4) 0 := by rw [ef120, q_setz (Or.inr (by decide))]; exact z113
  have z124 : q_is (q_z f120 dr 5) 0 := by rw [ef120, q_setz (Or.inr (by decide))]; exact z114
  have z125 : q_is (q_z f120 dr 6) 12 := by rw [ef120, q_setz (Or.inr (by decide))]; exact z115
  have z126 : q_is (q_z f120 dr 7) 1 := by rw [ef120, q_setz (Or.inr (by decide))]; exact z116
  have z127 : q_is (q_z f120 dr 8) 2 := by rw [ef120, q_setz (Or.inr (by decide))]; exact z117
  have z128 : q_is (q_z f120 dr 9) 5 := by rw [ef120, q_setz (Or.inr (by decide))]; exact z118
  have z129 : q_is (q_z f120 dr 10) 3 := by rw [ef120, q_setz (Or.inr (by decide))]; exact z119
  have z130 : q_is (q_z f120 dr 11) 0 := by rw [ef120, q_setz (Or.inr (by decide))]; exact z111
  refine q_vret cx hr hlk hB dX10_makeEmpty_51 ?_
  exact ⟨z122, z123⟩
set_option maxHeartbeats 4000000 in
set_option maxRecDepth 100000 in
theorem f_numberOf (l : Launch) (g : q_G) {K : Nat → Nat} {L : List Nat} (hN : L.Nodup) {f : Nat → va_E} (hT : q_Ty g K L f) (tA : tk_A) (wl : List Int) (dr : Nat) (hdr : dr ∈ L) (kdr : K dr = 13) (p0 : Int64) (nds : Nat) (hnds : nds ∈ L) (knds : K nds = 111) (rd : Nat) (hrd : rd ∈ L) (krd : K rd = 9) (nn : Int) (lnn : 0 ≤ nn) (unn : nn ≤ 10) (hf0 : q_is (q_z f dr 3) nn) (hr0 : q_ir (q_r f dr 0) nds) (hp0 : p0 = tk_cw wl) (hp1 : tk_isw wl) (hta : tk_ta K L f rd dr nds tA (tk_has (tk_lk tA))) : q_Ct l g K L yX10_numberOf cX10_numberOf 4 (some .int) 1 21 [.ref dr, .long p0] f [] (q_Pi (fun (z : Int) (f1 : Nat → va_E) => (f = f1 ∧ 0 ≤ z ∧ z ≤ 9 ∧ (tk_ix (tk_nd tA) wl = some (Int.toNat z)) ∧ (z < nn)) ∨ (f = f1 ∧ z = (-1) ∧ (tk_ix (tk_nd tA) wl = none)))) := by
  refine q_ofb (by decide +kernel) hN hT (Nat.le_of_ble_eq_true rfl) ?_
  intro p e s m below meth c ls cx hr hlk hB hl
  have hl : lv_has ls 4 [(0, .ref dr), (1, .long p0)] := hl
  have J2 : ∀ (n : Nat) (v2_3 : Int) (lv2_3 : 0 ≤ v2_3) (uv2_3 : v2_3 ≤ 10) (hj_dr_3 : q_is (q_z f dr 3) nn) (hq_dr_0 : q_ir (q_r f dr 0) nds) (hta2 : tk_ta K L f rd dr nds tA (tk_has (tk_lk tA))) (hno : ∀ j : Nat, (j : Int) < v2_3 → (tk_nd tA).getD j [] ≠ wl) (hmu : (Int.toNat (2147483647 - v2_3)) < n) (H : Heap) (locs : List Loc) (hB : q_B g K L (fun q => q ∈ L) [] f f s H locs) (ls : Array Slot) (hl : lv_has ls 4 [(0, .ref dr), (1, .long p0), (3, .int (q_i v2_3))]), W p l e { frames := 1, cells := 0, slots := 0, locals := 21 } s m ([.ref dr, .long p0] : List Value).toArray below meth c H locs 0 0 (MQ below (q_Q g K L [] f (q_Pi (fun (z : Int) (f1 : Nat → va_E) => (f = f1 ∧ 0 ≤ z ∧ z ≤ 9 ∧ (tk_ix (tk_nd tA) wl = some (Int.toNat z)) ∧ (z < nn)) ∨ (f = f1 ∧ z = (-1) ∧ (tk_ix (tk_nd tA) wl = none))))) ([.ref dr, .long p0] : List Value).toArray s 0 0 (fun q => q ∈ L)) (F0 m 2 ls []) := by
    intro n
    induction n with
    | zero =>
      intro v2_3 lv2_3 uv2_3 hj_dr_3 hq_dr_0 hta2 hno hmu
      exact absurd hmu (Nat.not_lt_zero _)
    | succ n ih2 =>
      intro v2_3 lv2_3 uv2_3 hj_dr_3 hq_dr_0 hta2 hno hmu H locs hB ls hl
      refine q_ild_n cx dX10_numberOf_2 rfl (lv_at hl 2 rfl) ?_
      refine q_ald_n cx dX10_numberOf_3 rfl (lv_at hl 0 rfl) ?_
      refine q_gX10_35_13 cx hB hdr kdr hj_dr_3 dX10_numberOf_4 (fun lb91 ub91 => ?_)
      refine q_icge (tgt := 31) cx ⟨by omega, by omega⟩ ⟨by omega, by omega⟩ dX10_numberOf_7 (by decide) (fun c92 => ?_) (fun c92 => ?_)
      · refine q_iconst cx dX10_numberOf_31 ?_
        refine q_iret cx hr hlk hB dX10_numberOf_32 ⟨by decide, by decide⟩ ?_
        exact (Or.inr ⟨rfl, rfl, (tk_no_none hno (by have h7 := tk_ta_nn hta2 hj_dr_3; omega))⟩)
      · refine q_ald_n cx dX10_numberOf_10 rfl (lv_at hl 0 rfl) ?_
        refine q_ild_n cx dX10_numberOf_11 rfl (lv_at hl 2 rfl) ?_
        refine q_cVr (As := [.int (q_i v2_3)]) (rest := []) cx hB (fun _ h => h) hN hdr kdr (by decide) rfl (f_nodeAt l g hN hB.2.1 dr hdr kdr v2_3 (by omega) (by omega) nds hnds knds hq_dr_0) q_cX10_66 q_dX10_nodeAt (by decide) rfl rfl hl.1 rfl (Nat.le_of_ble_eq_true rfl) dX10_numberOf_12 (fun y94 H locs f93 h95 hF hB => ?_)
        obtain ⟨rfl, hy94, ky94, t96⟩ := h95
        obtain ⟨j97, ej97⟩ : ∃ zz, q_j f y94 0 = zz := ⟨_, rfl⟩
        refine q_gX10_88_17 cx hB hy94 ky94 ej97 dX10_numberOf_15 ?_
        refine q_lld_n cx dX10_numberOf_18 rfl (lv_at hl 1 rfl) ?_
        refine q_lcmp cx dX10_numberOf_19 (fun y98 ly98 uy98 ey98 gy98 hy98 => ?_)
        refine q_ifne (tgt := 25) cx ⟨by omega, by omega⟩ dX10_numberOf_20 (by decide) (fun c99 => ?_) (fun c99 => ?_)
        · refine q_iinc (lv' := [(3, .int (q_i (v2_3 + 1))), (0, .ref dr), (1, .long p0)]) cx dX10_numberOf_25 hl (k := 2) rfl (by decide) rfl (fun ls hl => ?_)
          refine lv_goto (tgt := 2) cx.1 cx.2.1 dX10_numberOf_28 (by decide) ?_
          exact ih2 (v2_3 + 1) (by omega) (by omega) hj_dr_3 hq_dr_0 hta2 (tk_no_step hno hta2 (by omega) (by have h7 := tk_ta_nn hta2 hj_dr_3; omega) t96 ej97 gy98 hp0 (by omega)) (by omega) H locs hB ls (lv_sub hl [1, 2, 0] rfl)
        · refine q_ild_n cx dX10_numberOf_23 rfl (lv_at hl 2 rfl) ?_
          refine q_iret cx hr hlk hB dX10_numberOf_24 ⟨by omega, by omega⟩ ?_
          exact (Or.inl ⟨rfl, (by omega), (by omega), (tk_no_hit hno hta2 (by omega) (by have h7 := tk_ta_nn hta2 hj_dr_3; omega) t96 ej97 gy98 hp0 hp1 (by omega)), (by omega)⟩)
  obtain ⟨H, hH⟩ : ∃ H : Heap, H = s.heap := ⟨_, rfl⟩
  obtain ⟨locs, hlocs⟩ : ∃ z : List Loc, z = [] := ⟨_, rfl⟩
  rw [← hH, ← hlocs] at hB
  rw [← hH, ← hlocs]
  refine q_iconst cx dX10_numberOf_0 ?_
  refine lv_istore_n (lv' := [(3, .int (q_i 0)), (0, .ref dr), (1, .long p0)]) cx.1 cx.2.1 dX10_numberOf_1 rfl hl (by decide) rfl (fun ls hl => ?_)
  exact J2 ((Int.toNat (2147483647 - 0)) + 1) 0 (by decide) (by decide) hf0 hr0 hta (fun j hj => absurd hj (by omega)) (Nat.lt_succ_self _) H locs hB ls (lv_sub hl [1, 2, 0] rfl)
set_option maxHeartbeats 4000000 in
set_option maxRecDepth 100000 in
theorem f_has (l : Launch) (g : q_G) {K : Nat → Nat} {L : List Nat} (hN : L.Nodup) {f : Nat → va_E} (hT : q_Ty g K L f) (p0 : Int) (lp0 : (-2147483648) ≤ p0) (up0 : p0 ≤ 2147483647) (p1 : Int) (lp1 : 0 ≤ p1) (up1 : p1 ≤ 9) : q_Ct l g K L yX10_has cX10_has 2 (some .boolean) 0 0 [.int (q_i p0), .int (q_i p1)] f [] (q_Pi (fun (z : Int) (f1 : Nat → va_E) => (f = f1 ∧ z = 1 ∧ (tk_bt p0 (Int.toNat p1) = true)) ∨ (f = f1 ∧ z = 0 ∧ (tk_bt p0 (Int.toNat p1) = false)))) := by
  refine q_ofb (by decide +kernel) hN hT (Nat.le_of_ble_eq_true rfl) ?_
  intro p e s m below meth c ls cx hr hlk hB hl
  have hl : lv_has ls 2 [(0, .int (q_i p0)), (1, .int (q_i p1))] := hl
  obtain ⟨H, hH⟩ : ∃ H : Heap, H = s.heap := ⟨_, rfl⟩
  obtain ⟨locs, hlocs⟩ : ∃ z : List Loc, z = [] := ⟨_, rfl⟩
  rw [← hH, ← hlocs] at hB
  rw [← hH, ← hlocs]
  refine q_ild_n cx dX10_has_0 rfl (lv_at hl 0 rfl) ?_
  refine q_ild_n cx dX10_has_1 rfl (lv_at hl 1 rfl) ?_
  refine q_ishr cx dX10_has_2 (fun y4 ry4 ey4 => ?_)
  refine q_iconst cx dX10_has_3 ?_
  refine q_iandm cx 1 (by decide) rfl dX10_has_4 (fun y5 ly5 uy5 ey5 => ?_)
  refine q_ifeq (tgt := 12) cx ⟨by omega, by omega⟩ dX10_has_5 (by decide) (fun c6 => ?_) (fun c6 => ?_)
  · refine q_iconst cx dX10_has_12 ?_
    refine q_zret cx hr hlk hB dX10_has_13 (by decide) (by decide) ?_
    exact (Or.inr ⟨rfl, rfl, (tk_has_n (by omega) (by omega) ey4 ey5 (by omega))⟩)
  · refine q_iconst cx dX10_has_8 ?_
    refine lv_goto (tgt := 13) cx.1 cx.2.1 dX10_has_9 (by decide) ?_
    refine q_zret cx hr hlk hB dX10_has_13 (by decide) (by decide) ?_
    exact (Or.inl ⟨rfl, rfl, (tk_has_y (by omega) (by omega) ey4 ey5 (by omega))⟩)
set_option maxHeartbeats 4000000 in
set_option maxRecDepth 100000 in
theorem f_addNode (l : Launch) (g : q_G) {K : Nat → Nat} {L : List Nat} (hN : L.Nodup) {f : Nat → va_E} (hT : q_Ty g K L f) (tA : tk_A) (wl : List Int) (dr : Nat) (hdr : dr ∈ L) (kdr : K dr = 13) (p0 : Int64) (p1 : Int) (lp1 : (-2147483648) ≤ p1) (up1 : p1 ≤ 2147483647) (p2 : Int) (lp2 : (-2147483648) ≤ p2) (up2 : p2 ≤ 2147483647) (p3 : Int) (lp3 : (-2147483648) ≤ p3) (up3 : p3 ≤ 2147483647) (nds : Nat) (hnds : nds ∈ L) (knds : K nds = 111) (rd : Nat) (hrd : rd ∈ L) (krd : K rd = 9) (nn : Int) (lnn : 0 ≤ nn) (unn : nn ≤ 9) (hf0 : q_is (q_z f dr 3) nn) (hr0 : q_ir (q_r f dr 0) nds) (hp0 : p0 = tk_cw wl) (hp1 : tk_isw wl) (hta : tk_ta K L f rd dr nds tA (tk_has (tk_lk tA))) : q_Ct l g K L yX10_addNode cX10_addNode 7 none 1 21 [.ref dr, .long p0, .int (q_i p1), .int (q_i p2), .int (q_i p3)] f [(13, 3, 3), (17, 0, 8)] (q_Pv (fun (f1 : Nat → va_E) => (tk_ta K L f1 rd dr nds (tk_an tA wl) (tk_has (tk_lk (tk_an tA wl)))))) := by
  refine q_ofb (by decide +kernel) hN hT (Nat.le_of_ble_eq_true rfl) ?_
  intro p e s m below meth c ls cx hr hlk hB hl
  have hl : lv_has ls 7 [(0, .ref dr), (1, .long p0), (3, .int (q_i p1)), (4, .int (q_i p2)), (5, .int (q_i p3))] := hl
  obtain ⟨H, hH⟩ : ∃ H : Heap, H = s.heap := ⟨_, rfl⟩
  obtain ⟨locs, hlocs⟩ : ∃ z : List Loc, z = [] := ⟨_, rfl⟩
  rw [← hH, ← hlocs] at hB
  rw [← hH, ← hlocs]
  refine q_ald_n cx dX10_addNode_0 rfl (lv_at hl 0 rfl) ?_
  refine q_gX10_35_13 cx hB hdr kdr hf0 dX10_addNode_1 (fun lb114 ub114 => ?_)
  refine q_ald_n cx dX10_addNode_4 rfl (lv_at hl 0 rfl) ?_
  refine q_gX10_13_13 cx hB hdr kdr hr0 dX10_addNode_5 (fun hb115 kb115 => ?_)
  refine q_alen (n := 10) cx hB hnds knds (by decide) rfl 7 rfl rfl dX10_addNode_8 ?_
  refine q_iclt (tgt := 13) cx ⟨by omega, by omega⟩ ⟨by decide, by decide⟩ dX10_addNode_9 (by decide) (fun c116 => ?_) (fun c116 => ?_)
  · refine q_ald_n cx dX10_addNode_13 rfl (lv_at hl 0 rfl) ?_
    refine q_ald_n cx dX10_addNode_14 rfl (lv_at hl 0 rfl) ?_
    refine q_gX10_35_13 cx hB hdr kdr hf0 dX10_addNode_15 (fun lb117 ub117 => ?_)
    refine q_cVr (As := [.int (q_i nn)]) (rest := []) cx hB (fun _ h => h) hN hdr kdr (by decide) rfl (f_nodeAt l g hN hB.2.1 dr hdr kdr nn (by omega) (by omega) nds hnds knds hr0) q_cX10_66 q_dX10_nodeAt (by decide) rfl rfl hl.1 rfl (Nat.le_of_ble_eq_true rfl) dX10_addNode_18 (fun y119 H locs f118 h120 hF hB => ?_)
    obtain ⟨rfl, hy119, ky119, t121⟩ := h120
    refine lv_astore (lv' := [(6, .ref y119), (0, .ref dr), (1, .long p0), (3, .int (q_i p1)), (4, .int (q_i p2)), (5, .int (q_i p3))]) cx.1 cx.2.1 dX10_addNode_21 hl (by decide) rfl (fun ls hl => ?_)
    refine lv_aload cx.1 cx.2.1 dX10_addNode_23 (lv_at hl 0 rfl) ?_
    refine q_lld_n cx dX10_addNode_25 rfl (lv_at hl 2 rfl) ?_
    refine q_pX10_88_17 cx hB hy119 ky119 rfl dX10_addNode_26 (fun H locs f122 ef122 z123 hB => ?_)
    have z124 : q_is (q_z f122 dr 3) nn := by rw [ef122, q_setz (Or.inr (by decide))]; exact hf0
    have z125 : q_ir (q_r f122 dr 0) nds := by rw [ef122, q_setr (Or.inl (fun q => by rw [q, ky119] at kdr; exact absurd kdr (by decide)))]; exact hr0
    have g126 : tk_ta K L f122 rd dr nds tA (tk_has (tk_lk tA)) := tk_ta_pn hta t121 (by omega) (by have h7 := tk_ta_nn hta hf0; omega) ef122 krd kdr knds
    have g127 : y119 = q_r f122 nds (Int.toNat nn) := tk_nz_tr t121 (fun i9 => by rw [ef122, q_setr (Or.inl (fun q => by rw [q, ky119] at knds; exact absurd knds (by decide)))])
    refine lv_aload cx.1 cx.2.1 dX10_addNode_29 (lv_at hl 0 rfl) ?_
    refine q_lconst (z := 0) cx (by decide) dX10_addNode_31 ?_
    refine q_pX10_92_17 cx hB hy119 ky119 rfl dX10_addNode_32 (fun H locs f128 ef128 z129 hB => ?_)
    have z130 : q_is (q_z f128 dr 3) nn := by rw [ef128, q_setz (Or.inr (by decide))]; exact z124
    have z131 : q_j f128 y119 0 = p0 := by rw [ef128, q_setj (Or.inr (by decide))]; exact z123
    have z132 : q_ir (q_r f128 dr 0) nds := by rw [ef128, q_setr (Or.inr (by decide))]; exact z125
    have g133 : tk_ta K L f128 rd dr nds tA (tk_has (tk_lk tA)) := tk_ta_tr g126 (by rw [ef128, q_setz (Or.inr (by decide))]) (by rw [ef128, q_setz (Or.inl (fun q => by rw [q, ky119] at krd; exact absurd krd (by decide)))]) (by rw [ef128, q_setz (Or.inr (by decide))]) (by rw [ef128, q_setz (Or.inr (by decide))]) (by rw [ef128, q_setz (Or.inr (by decide))]) (fun a9 h9 k9 => by rw [ef128, q_setj (Or.inr (by decide))]) (fun a9 h9 k9 => by rw [ef128, q_setz (Or.inr (by decide))]) (fun i9 => by rw [ef128, q_setr (Or.inl (fun q => by rw [q, ky119] at knds; exact absurd knds (by decide)))])
    have g134 : y119 = q_r f128 nds (Int.toNat nn) := tk_nz_tr g127 (fun i9 => by rw [ef128, q_setr (Or.inl (fun q => by rw [q, ky119] at knds; exact absurd knds (by decide)))])
    refine lv_aload cx.1 cx.2.1 dX10_addNode_35 (lv_at hl 0 rfl) ?_
    refine q_ild_n cx dX10_addNode_37 rfl (lv_at hl 3 rfl) ?_
    refine q_pX10_95_17 cx hB hy119 ky119 ⟨by omega, by omega⟩ (by omega) (by omega) rfl dX10_addNode_38 (fun H locs f135 ef135 z136 hB => ?_)
    have z137 : q_is (q_z f135 dr 3) nn := by rw [ef135, q_setz (Or.inr (by decide))]; exact z130
    have z138 : q_j f135 y119 0 = p0 := by rw [ef135, q_setj (Or.inr (by decide))]; exact z131
    have z139 : q_j f135 y119 1 = (q_l 0) := by rw [ef135, q_setj (Or.inr (by decide))]; exact z129
    have z140 : q_ir (q_r f135 dr 0) nds := by rw [ef135, q_setr (Or.inr (by decide))]; exact z132
    have g141 : tk_ta K L f135 rd dr nds tA (tk_has (tk_lk tA)) := tk_ta_tr g133 (by rw [ef135, q_setz (Or.inr (by decide))]) (by rw [ef135, q_setz (Or.inr (by decide))]) (by rw [ef135, q_setz (Or.inl (fun q => by rw [q, ky119] at krd; exact absurd krd (by decide)))]) (by rw [ef135, q_setz (Or.inr (by decide))]) (by rw [ef135, q_setz (Or.inr (by decide))]) (fun a9 h9 k9 => by rw [ef135, q_setj (Or.inr (by decide))]) (fun a9 h9 k9 => by rw [ef135, q_setz (Or.inr (by decide))]) (fun i9 => by rw [ef135, q_setr (Or.inl (fun q => by rw [q, ky119] at knds; exact absurd knds (by decide)))])
    have g142 : y119 = q_r f135 nds (Int.toNat nn) := tk_nz_tr g134 (fun i9 => by rw [ef135, q_setr (Or.inl (fun q => by rw [q, ky119] at knds; exact absurd knds (by decide)))])
    refine lv_aload cx.1 cx.2.1 dX10_addNode_41 (lv_at hl 0 rfl) ?_
    refine lv_iload cx.1 cx.2.1 dX10_addNode_43 (lv_at hl 4 rfl) ?_
    refine q_pX10_98_17 cx hB hy119 ky119 ⟨by omega, by omega⟩ (by omega) (by omega) rfl dX10_addNode_45 (fun H locs f143 ef143 z144 hB => ?_)
    have z145 : q_is (q_z f143 dr 3) nn := by rw [ef143, q_setz (Or.inl (fun q => by rw [q, ky119] at kdr; exact absurd kdr (by decide)))]; exact z137
    have z146 : q_is (q_z f143 y119 2) p1 := by rw [ef143, q_setz (Or.inr (by decide))]; exact z136
    have z147 : q_j f143 y119 0 = p0 := by rw [ef143, q_setj (Or.inr (by decide))]; exact z138
    have z148 : q_j f143 y119 1 = (q_l 0) := by rw [ef143, q_setj (Or.inr (by decide))]; exact z139
    have z149 : q_ir (q_r f143 dr 0) nds := by rw [ef143, q_setr (Or.inr (by decide))]; exact z140
    have g150 : tk_ta K L f143 rd dr nds tA (tk_has (tk_lk tA)) := tk_ta_tr g141 (by rw [ef143, q_setz (Or.inr (by decide))]) (by rw [ef143, q_setz (Or.inr (by decide))]) (by rw [ef143, q_setz (Or.inr (by decide))]) (by rw [ef143, q_setz (Or.inl (fun q => by rw [q, ky119] at kdr; exact absurd kdr (by decide)))]) (by rw [ef143, q_setz (Or.inr (by decide))]) (fun a9 h9 k9 => by rw [ef143, q_setj (Or.inr (by decide))]) (fun a9 h9 k9 => by rw [ef143, q_setz (Or.inr (by decide))]) (fun i9 => by rw [ef143, q_setr (Or.inl (fun q => by rw [q, ky119] at knds; exact absurd knds (by decide)))])
    have g151 : y119 = q_r f143 nds (Int.toNat nn) := tk_nz_tr g142 (fun i9 => by rw [ef143, q_setr (Or.inl (fun q => by rw [q, ky119] at knds; exact absurd knds (by decide)))])
    refine lv_aload cx.1 cx.2.1 dX10_addNode_48 (lv_at hl 0 rfl) ?_
    refine lv_iload cx.1 cx.2.1 dX10_addNode_50 (lv_at hl 5 rfl) ?_
    refine q_pX10_101_17 cx hB hy119 ky119 ⟨by omega, by omega⟩ (by omega) (by omega) rfl dX10_addNode_52 (fun H locs f152 ef152 z153 hB => ?_)
    have z154 : q_is (q_z f152 dr 3) nn := by rw [ef152, q_setz (Or.inr (by decide))]; exact z145
    have z155 : q_is (q_z f152 y119 2) p1 := by rw [ef152, q_setz (Or.inr (by decide))]; exact z146
    have z156 : q_is (q_z f152 y119 3) p2 := by rw [ef152, q_setz (Or.inr (by decide))]; exact z144
    have z157 : q_j f152 y119 0 = p0 := by rw [ef152, q_setj (Or.inr (by decide))]; exact z147
    have z158 : q_j f152 y119 1 = (q_l 0) := by rw [ef152, q_setj (Or.inr (by decide))]; exact z148
    have z159 : q_ir (q_r f152 dr 0) nds := by rw [ef152, q_setr (Or.inr (by decide))]; exact z149
    have g160 : tk_ta K L f152 rd dr nds tA (tk_has (tk_lk tA)) := tk_ta_tr g150 (by rw [ef152, q_setz (Or.inr (by decide))]) (by rw [ef152, q_setz (Or.inr (by decide))]) (by rw [ef152, q_setz (Or.inr (by decide))]) (by rw [ef152, q_setz (Or.inr (by decide))]) (by rw [ef152, q_setz (Or.inl (fun q => by rw [q, ky119] at kdr; exact absurd kdr (by decide)))]) (fun a9 h9 k9 => by rw [ef152, q_setj (Or.inr (by decide))]) (fun a9 h9 k9 => by rw [ef152, q_setz (Or.inr (by decide))]) (fun i9 => by rw [ef152, q_setr (Or.inl (fun q => by rw [q, ky119] at knds; exact absurd knds (by decide)))])
    have g161 : y119 = q_r f152 nds (Int.toNat nn) := tk_nz_tr g151 (fun i9 => by rw [ef152, q_setr (Or.inl (fun q => by rw [q, ky119] at knds; exact absurd knds (by decide)))])
    refine lv_aload cx.1 cx.2.1 dX10_addNode_55 (lv_at hl 0 rfl) ?_
    refine q_iconst cx dX10_addNode_57 ?_
    refine q_pX10_104_17 cx hB hy119 ky119 ⟨by decide, by decide⟩ (by decide) (by decide) rfl dX10_addNode_58 (fun H locs f162 ef162 z163 hB => ?_)
    have z164 : q_is (q_z f162 dr 3) nn := by rw [ef162, q_setz (Or.inr (by decide))]; exact z154
    have z165 : q_is (q_z f162 y119 2) p1 := by rw [ef162, q_setz (Or.inr (by decide))]; exact z155
    have z166 : q_is (q_z f162 y119 3) p2 := by rw [ef162, q_setz (Or.inr (by decide))]; exact z156
    have z167 : q_is (q_z f162 y119 4) p3 := by rw [ef162, q_setz (Or.inr (by decide))]; exact z153
    have z168 : q_j f162 y119 0 = p0 := by rw [ef162, q_setj (Or.inr (by decide))]; exact z157
    have z169 : q_j f162 y119 1 = (q_l 0) := by rw [ef162, q_setj (Or.inr (by decide))]; exact z158
    have z170 : q_ir (q_r f162 dr 0) nds := by rw [ef162, q_setr (Or.inr (by decide))]; exact z159
    have g171 : tk_ta K L f162 rd dr nds tA (tk_has (tk_lk tA)) := tk_ta_pn g160 g161 (by omega) (by have h7 := tk_ta_nn g160 z154; omega) ef162 krd kdr knds
    have g172 : y119 = q_r f162 nds (Int.toNat nn) := tk_nz_tr g161 (fun i9 => by rw [ef162, q_setr (Or.inl (fun q => by rw [q, ky119] at knds; exact absurd knds (by decide)))])
    refine lv_aload cx.1 cx.2.1 dX10_addNode_61 (lv_at hl 0 rfl) ?_
    refine q_iconst cx dX10_addNode_63 ?_
    refine q_pX10_107_17 cx hB hy119 ky119 ⟨by decide, by decide⟩ (by decide) (by decide) rfl dX10_addNode_64 (fun H locs f173 ef173 z174 hB => ?_)
    have z175 : q_is (q_z f173 dr 3) nn := by rw [ef173, q_setz (Or.inr (by decide))]; exact z164
    have z176 : q_is (q_z f173 y119 2) p1 := by rw [ef173, q_setz (Or.inr (by decide))]; exact z165
    have z177 : q_is (q_z f173 y119 3) p2 := by rw [ef173, q_setz (Or.inr (by decide))]; exact z166
    have z178 : q_is (q_z f173 y119 4) p3 := by rw [ef173, q_setz (Or.inr (by decide))]; exact z167
    have z179 : q_is (q_z f173 y119 5) 0 := by rw [ef173, q_setz (Or.inr (by decide))]; exact z163
    have z180 : q_j f173 y119 0 = p0 := by rw [ef173, q_setj (Or.inr (by decide))]; exact z168
    have z181 : q_j f173 y119 1 = (q_l 0) := by rw [ef173, q_setj (Or.inr (by decide))]; exact z169
    have z182 : q_ir (q_r f173 dr 0) nds := by rw [ef173, q_setr (Or.inr (by decide))]; exact z170
    have g183 : tk_ta K L f173 rd dr nds tA (tk_has (tk_lk tA)) := tk_ta_tr g171 (by rw [ef173, q_setz (Or.inr (by decide))]) (by rw [ef173, q_setz (Or.inr (by decide))]) (by rw [ef173, q_setz (Or.inr (by decide))]) (by rw [ef173, q_setz (Or.inr (by decide))]) (by rw [ef173, q_setz (Or.inr (by decide))]) (fun a9 h9 k9 => by rw [ef173, q_setj (Or.inr (by decide))]) (fun a9 h9 k9 => by rw [ef173, q_setz (Or.inr (by decide))]) (fun i9 => by rw [ef173, q_setr (Or.inl (fun q => by rw [q, ky119] at knds; exact absurd knds (by decide)))])
    have g184 : y119 = q_r f173 nds (Int.toNat nn) := tk_nz_tr g172 (fun i9 => by rw [ef173, q_setr (Or.inl (fun q => by rw [q, ky119] at knds; exact absurd knds (by decide)))])
    refine lv_aload cx.1 cx.2.1 dX10_addNode_67 (lv_at hl 0 rfl) ?_
    refine q_iconst cx dX10_addNode_69 ?_
    refine q_pX10_110_17 cx hB hy119 ky119 ⟨by decide, by decide⟩ (by decide) (by decide) rfl dX10_addNode_70 (fun H locs f185 ef185 z186 hB => ?_)
    have z187 : q_is (q_z f185 dr 3) nn := by rw [ef185, q_setz (Or.inr (by decide))]; exact z175
    have z188 : q_is (q_z f185 y119 2) p1 := by rw [ef185, q_setz (Or.inr (by decide))]; exact z176
    have z189 : q_is (q_z f185 y119 3) p2 := by rw [ef185, q_setz (Or.inr (by decide))]; exact z177
    have z190 : q_is (q_z f185 y119 4) p3 := by rw [ef185, q_setz (Or.inr (by decide))]; exact z178
    have z191 : q_is (q_z f185 y119 5) 0 := by rw [ef185, q_setz (Or.inr (by decide))]; exact z179
    have z192 : q_is (q_z f185 y119 6) 0 := by rw [ef185, q_setz (Or.inr (by decide))]; exact z174
    have z193 : q_j f185 y119 0 = p0 := by rw [ef185, q_setj (Or.inr (by decide))]; exact z180
    have z194 : q_j f185 y119 1 = (q_l 0) := by rw [ef185, q_setj (Or.inr (by decide))]; exact z181
    have z195 : q_ir (q_r f185 dr 0) nds := by rw [ef185, q_setr (Or.inr (by decide))]; exact z182
    have g196 : tk_ta K L f185 rd dr nds tA (tk_has (tk_lk tA)) := tk_ta_tr g183 (by rw [ef185, q_setz (Or.inr (by decide))]) (by rw [ef185, q_setz (Or.inr (by decide))]) (by rw [ef185, q_setz (Or.inr (by decide))]) (by rw [ef185, q_setz (Or.inr (by decide))]) (by rw [ef185, q_setz (Or.inr (by decide))]) (fun a9 h9 k9 => by rw [ef185, q_setj (Or.inr (by decide))]) (fun a9 h9 k9 => by rw [ef185, q_setz (Or.inr (by decide))]) (fun i9 => by rw [ef185, q_setr (Or.inl (fun q => by rw [q, ky119] at knds; exact absurd knds (by decide)))])
    have g197 : y119 = q_r f185 nds (Int.toNat nn) := tk_nz_tr g184 (fun i9 => by rw [ef185, q_setr (Or.inl (fun q => by rw [q, ky119] at knds; exact absurd knds (by decide)))])
    refine lv_aload cx.1 cx.2.1 dX10_addNode_73 (lv_at hl 0 rfl) ?_
    refine q_iconst cx dX10_addNode_75 ?_
    refine q_pX10_113_17 cx hB hy119 ky119 ⟨by decide, by decide⟩ (by decide) (by decide) rfl dX10_addNode_76 (fun H locs f198 ef198 z199 hB => ?_)
    have z200 : q_is (q_z f198 dr 3) nn := by rw [ef198, q_setz (Or.inr (by decide))]; exact z187
    have z201 : q_is (q_z f198 y119 2) p1 := by rw [ef198, q_setz (Or.inr (by decide))]; exact z188
    have z202 : q_is (q_z f198 y119 3) p2 := by rw [ef198, q_setz (Or.inr (by decide))]; exact z189
    have z203 : q_is (q_z f198 y119 4) p3 := by rw [ef198, q_setz (Or.inr (by decide))]; exact z190
    have z204 : q_is (q_z f198 y119 5) 0 := by rw [ef198, q_setz (Or.inr (by decide))]; exact z191
    have z205 : q_is (q_z f198 y119 6) 0 := by rw [ef198, q_setz (Or.inr (by decide))]; exact z192
    have z206 : q_is (q_z f198 y119 7) 0 := by rw [ef198, q_setz (Or.inr (by decide))]; exact z186
    have z207 : q_j f198 y119 0 = p0 := by rw [ef198, q_setj (Or.inr (by decide))]; exact z193
    have z208 : q_j f198 y119 1 = (q_l 0) := by rw [ef198, q_setj (Or.inr (by decide))]; exact z194
    have z209 : q_ir (q_r f198 dr 0) nds := by rw [ef198, q_setr (Or.inr (by decide))]; exact z195
    have g210 : tk_ta K L f198 rd dr nds tA (tk_has (tk_lk tA)) := tk_ta_tr g196 (by rw [ef198, q_setz (Or.inr (by decide))]) (by rw [ef198, q_setz (Or.inr (by decide))]) (by rw [ef198, q_setz (Or.inr (by decide))]) (by rw [ef198, q_setz (Or.inr (by decide))]) (by rw [ef198, q_setz (Or.inr (by decide))]) (fun a9 h9 k9 => by rw [ef198, q_setj (Or.inr (by decide))]) (fun a9 h9 k9 => by rw [ef198, q_setz (Or.inr (by decide))]) (fun i9 => by rw [ef198, q_setr (Or.inl (fun q => by rw [q, ky119] at knds; exact absurd knds (by decide)))])
    have g211 : y119 = q_r f198 nds (Int.toNat nn) := tk_nz_tr g197 (fun i9 => by rw [ef198, q_setr (Or.inl (fun q => by rw [q, ky119] at knds; exact absurd knds (by decide)))])
    refine q_ald_n cx dX10_addNode_79 rfl (lv_at hl 1 rfl) ?_
    refine lv_dup cx.1 cx.2.1 dX10_addNode_80 rfl ?_
    refine q_gX10_35_13 cx hB hdr kdr z200 dX10_addNode_81 (fun lb212 ub212 => ?_)
    refine q_iconst cx dX10_addNode_84 ?_
    refine q_iadd cx dX10_addNode_85 ?_
    refine q_pX10_35_13 cx hB hdr kdr ⟨by omega, by omega⟩ (by omega) (by omega) rfl dX10_addNode_86 (fun H locs f213 ef213 z214 hB => ?_)
    have z215 : q_is (q_z f213 y119 2) p1 := by rw [ef213, q_setz (Or.inr (by decide))]; exact z201
    have z216 : q_is (q_z f213 y119 3) p2 := by rw [ef213, q_setz (Or.inl (fun q => by rw [q, kdr] at ky119; exact absurd ky119 (by decide)))]; exact z202
    have z217 : q_is (q_z f213 y119 4) p3 := by rw [ef213, q_setz (Or.inr (by decide))]; exact z203
    have z218 : q_is (q_z f213 y119 5) 0 := by rw [ef213, q_setz (Or.inr (by decide))]; exact z204
    have z219 : q_is (q_z f213 y119 6) 0 := by rw [ef213, q_setz (Or.inr (by decide))]; exact z205
    have z220 : q_is (q_z f213 y119 7) 0 := by rw [ef213, q_setz (Or.inr (by decide))]; exact z206
    have z221 : q_is (q_z f213 y119 8) 0 := by rw [ef213, q_setz (Or.inr (by decide))]; exact z199
    have z222 : q_j f213 y119 0 = p0 := by rw [ef213, q_setj (Or.inr (by decide))]; exact z207
    have z223 : q_j f213 y119 1 = (q_l 0) := by rw [ef213, q_setj (Or.inr (by decide))]; exact z208
    have z224 : q_ir (q_r f213 dr 0) nds := by rw [ef213, q_setr (Or.inr (by decide))]; exact z209
    have g225 : tk_ta K L f213 rd dr nds (tk_an tA wl) (tk_has (tk_lk (tk_an tA wl))) := tk_ta_an g210 hp1 g211 (by omega) (by have h7 := tk_ta_nn g210 z200; omega) (Eq.trans z207 hp0) z204 ef213 (Eq.trans z214 (by omega)) krd kdr knds
    have g226 : y119 = q_r f213 nds (Int.toNat nn) := tk_nz_tr g211 (fun i9 => by rw [ef213, q_setr (Or.inl (fun q => by rw [q, kdr] at knds; exact absurd knds (by decide)))])
    refine q_vret cx hr hlk hB dX10_addNode_89 ?_
    exact g225
  · exact absurd c116 (by omega)
set_option maxHeartbeats 4000000 in
set_option maxRecDepth 100000 in
theorem f_addLink (l : Launch) (g : q_G) {K : Nat → Nat} {L : List Nat} (hN : L.Nodup) {f : Nat → va_E} (hT : q_Ty g K L f) (tA : tk_A) (dr : Nat) (hdr : dr ∈ L) (kdr : K dr = 13) (p0 : Int) (lp0 : 0 ≤ p0) (up0 : p0 ≤ 9) (p1 : Int) (lp1 : 0 ≤ p1) (up1 : p1 ≤ 9) (nds : Nat) (hnds : nds ∈ L) (knds : K nds = 111) (rd : Nat) (hrd : rd ∈ L) (krd : K rd = 9) (nl : Int) (lnl : 0 ≤ nl) (unl : nl ≤ 15) (hf0 : q_is (q_z f dr 4) nl) (hr0 : q_ir (q_r f dr 0) nds) (hp0 : p0 < ((tk_nd tA).length : Int)) (hp1 : p1 < ((tk_nd tA).length : Int)) (hta : tk_ta K L f rd dr nds tA (tk_has (tk_lk tA))) : q_Ct l g K L yX10_addLink cX10_addLink 4 none 1 21 [.ref dr, .int (q_i p0), .int (q_i p1)] f [(13, 4, 4), (17, 5, 5), (21, 0, 4)] (q_Pv (fun (f1 : Nat → va_E) => (tk_ta K L f1 rd dr nds (tk_al tA (Int.toNat p0) (Int.toNat p1)) (tk_has (tk_lk (tk_al tA (Int.toNat p0) (Int.toNat p1))))))) := by
  refine q_ofb (by decide +kernel) hN hT (Nat.le_of_ble_eq_true rfl) ?_
  intro p e s m below meth c ls cx hr hlk hB hl
  have hl : lv_has ls 4 [(0, .ref dr), (1, .int (q_i p0)), (2, .int (q_i p1))] := hl
  obtain ⟨H, hH⟩ : ∃ H : Heap, H = s.heap := ⟨_, rfl⟩
  obtain ⟨locs, hlocs⟩ : ∃ z : List Loc, z = [] := ⟨_, rfl⟩
  rw [← hH, ← hlocs] at hB
  rw [← hH, ← hlocs]
  refine q_ald_n cx dX10_addLink_0 rfl (lv_at hl 0 rfl) ?_
  refine q_gX10_39_13 cx hB hdr kdr hf0 dX10_addLink_1 (fun lb99 ub99 => ?_)
  refine q_ald_n cx dX10_addLink_4 rfl (lv_at hl 0 rfl) ?_
  obtain ⟨p100, ep100⟩ : ∃ zz, q_ir (q_r f dr 1) zz := ⟨_, q_irr _⟩
  refine q_gX10_19_13 cx hB hdr kdr ep100 dX10_addLink_5 (fun hb101 kb101 => ?_)
  refine q_alen (n := 16) cx hB hb101 kb101 (by decide) rfl 5 rfl rfl dX10_addLink_8 ?_
  refine q_iclt (tgt := 13) cx ⟨by omega, by omega⟩ ⟨by decide, by decide⟩ dX10_addLink_9 (by decide) (fun c102 => ?_) (fun c102 => ?_)
  · refine q_ald_n cx dX10_addLink_13 rfl (lv_at hl 0 rfl) ?_
    refine q_ald_n cx dX10_addLink_14 rfl (lv_at hl 0 rfl) ?_
    refine q_gX10_39_13 cx hB hdr kdr hf0 dX10_addLink_15 (fun lb103 ub103 => ?_)
    refine q_cVr (As := [.int (q_i nl)]) (rest := []) cx hB (fun _ h => h) hN hdr kdr (by decide) rfl (g_X10_linkAt_1 l g hN hB.2.1 dr hdr kdr nl (by omega) (by omega)) q_cX10_74 q_dX10_linkAt (by decide) rfl rfl hl.1 rfl (Nat.le_of_ble_eq_true rfl) dX10_addLink_18 (fun y105 H locs f104 h106 hF hB => ?_)
    obtain ⟨rfl, hy105, ky105⟩ := h106
    refine lv_astore_n (lv' := [(3, .ref y105), (0, .ref dr), (1, .int (q_i p0)), (2, .int (q_i p1))]) cx.1 cx.2.1 dX10_addLink_21 rfl hl (by decide) rfl (fun ls hl => ?_)
    refine q_ald_n cx dX10_addLink_22 rfl (lv_at hl 0 rfl) ?_
    refine q_ild_n cx dX10_addLink_23 rfl (lv_at hl 2 rfl) ?_
    refine q_pX10_116_21 cx hB hy105 ky105 ⟨by omega, by omega⟩ (by omega) (by omega) rfl dX10_addLink_24 (fun H locs f107 ef107 z108 hB => ?_)
    have z109 : q_is (q_z f107 dr 4) nl := by rw [ef107, q_setz (Or.inr (by decide))]; exact hf0
    have z110 : q_ir (q_r f107 dr 0) nds := by rw [ef107, q_setr (Or.inl (fun q => by rw [q, ky105] at kdr; exact absurd kdr (by decide)))]; exact hr0
    have z111 : q_ir (q_r f107 dr 1) p100 := by rw [ef107, q_setr (Or.inr (by decide))]; exact ep100
    have g112 : tk_ta K L f107 rd dr nds tA (tk_has (tk_lk tA)) := tk_ta_tr hta (by rw [ef107, q_setz (Or.inl (fun q => by rw [q, ky105] at krd; exact absurd krd (by decide)))]) (by rw [ef107, q_setz (Or.inr (by decide))]) (by rw [ef107, q_setz (Or.inr (by decide))]) (by rw [ef107, q_setz (Or.inr (by decide))]) (by rw [ef107, q_setz (Or.inr (by decide))]) (fun a9 h9 k9 => by rw [ef107, q_setj (Or.inl (fun q => by rw [q, ky105] at k9; exact absurd k9 (by decide)))]) (fun a9 h9 k9 => by rw [ef107, q_setz (Or.inl (fun q => by rw [q, ky105] at k9; exact absurd k9 (by decide)))]) (fun i9 => by rw [ef107, q_setr (Or.inl (fun q => by rw [q, ky105] at knds; exact absurd knds (by decide)))])
    refine q_ald_n cx dX10_addLink_27 rfl (lv_at hl 0 rfl) ?_
    refine q_ild_n cx dX10_addLink_28 rfl (lv_at hl 3 rfl) ?_
    refine q_pX10_119_21 cx hB hy105 ky105 ⟨by omega, by omega⟩ (by omega) (by omega) rfl dX10_addLink_29 (fun H locs f113 ef113 z114 hB => ?_)
    have z115 : q_is (q_z f113 dr 4) nl := by rw [ef113, q_setz (Or.inr (by decide))]; exact z109
    have z116 : q_is (q_z f113 y105 0) p0 := by rw [ef113, q_setz (Or.inr (by decide))]; exact z108
    have z117 : q_ir (q_r f113 dr 0) nds := by rw [ef113, q_setr (Or.inr (by decide))]; exact z110
    have z118 : q_ir (q_r f113 dr 1) p100 := by rw [ef113, q_setr (Or.inl (fun q => by rw [q, ky105] at kdr; exact absurd kdr (by decide)))]; exact z111
    have g119 : tk_ta K L f113 rd dr nds tA (tk_has (tk_lk tA)) := tk_ta_tr g112 (by rw [ef113, q_setz (Or.inr (by decide))]) (by rw [ef113, q_setz (Or.inl (fun q => by rw [q, ky105] at krd; exact absurd krd (by decide)))]) (by rw [ef113, q_setz (Or.inr (by decide))]) (by rw [ef113, q_setz (Or.inr (by decide))]) (by rw [ef113, q_setz (Or.inr (by decide))]) (fun a9 h9 k9 => by rw [ef113, q_setj (Or.inl (fun q => by rw [q, ky105] at k9; exact absurd k9 (by decide)))]) (fun a9 h9 k9 => by rw [ef113, q_setz (Or.inl (fun q => by rw [q, ky105] at k9; exact absurd k9 (by decide)))]) (fun i9 => by rw [ef113, q_setr (Or.inl (fun q => by rw [q, ky105] at knds; exact absurd knds (by decide)))])
    refine q_ald_n cx dX10_addLink_32 rfl (lv_at hl 0 rfl) ?_
    refine q_iconst cx dX10_addLink_33 ?_
    refine q_pX10_122_21 cx hB hy105 ky105 ⟨by decide, by decide⟩ (by decide) (by decide) rfl dX10_addLink_34 (fun H locs f120 ef120 z121 hB => ?_)
    have z122 : q_is (q_z f120 dr 4) nl := by rw [ef120, q_setz (Or.inr (by decide))]; exact z115
    have z123 : q_is (q_z f120 y105 0) p0 := by rw [ef120, q_setz (Or.inr (by decide))]; exact z116
    have z124 : q_is (q_z f120 y105 1) p1 := by rw [ef120, q_setz (Or.inr (by decide))]; exact z114
    have z125 : q_ir (q_r f120 dr 0) nds := by rw [ef120, q_setr (Or.inr (by decide))]; exact z117
    have z126 : q_ir (q_r f120 dr 1) p100 := by rw [ef120, q_setr (Or.inr (by decide))]; exact z118
    have g127 : tk_ta K L f120 rd dr nds tA (tk_has (tk_lk tA)) := tk_ta_tr g119 (by rw [ef120, q_setz (Or.inr (by decide))]) (by rw [ef120, q_setz (Or.inr (by decide))]) (by rw [ef120, q_setz (Or.inl (fun q => by rw [q, ky105] at krd; exact absurd krd (by decide)))]) (by rw [ef120, q_setz (Or.inr (by decide))]) (by rw [ef120, q_setz (Or.inr (by decide))]) (fun a9 h9 k9 => by rw [ef120, q_setj (Or.inl (fun q => by rw [q, ky105] at k9; exact absurd k9 (by decide)))]) (fun a9 h9 k9 => by rw [ef120, q_setz (Or.inl (fun q => by rw [q, ky105] at k9; exact absurd k9 (by decide)))]) (fun i9 => by rw [ef120, q_setr (Or.inl (fun q => by rw [q, ky105] at knds; exact absurd knds (by decide)))])
    refine q_ald_n cx dX10_addLink_37 rfl (lv_at hl 0 rfl) ?_
    refine q_iconst cx dX10_addLink_38 ?_
    refine q_pX10_125_21 cx hB hy105 ky105 ⟨by decide, by decide⟩ (by decide) (by decide) rfl dX10_addLink_39 (fun H locs f128 ef128 z129 hB => ?_)
    have z130 : q_is (q_z f128 dr 4) nl := by rw [ef128, q_setz (Or.inr (by decide))]; exact z122
    have z131 : q_is (q_z f128 y105 0) p0 := by rw [ef128, q_setz (Or.inr (by decide))]; exact z123
    have z132 : q_is (q_z f128 y105 1) p1 := by rw [ef128, q_setz (Or.inr (by decide))]; exact z124
    have z133 : q_is (q_z f128 y105 2) 0 := by rw [ef128, q_setz (Or.inr (by decide))]; exact z121
    have z134 : q_ir (q_r f128 dr 0) nds := by rw [ef128, q_setr (Or.inr (by decide))]; exact z125
    have z135 : q_ir (q_r f128 dr 1) p100 := by rw [ef128, q_setr (Or.inr (by decide))]; exact z126
    have g136 : tk_ta K L f128 rd dr nds tA (tk_has (tk_lk tA)) := tk_ta_tr g127 (by rw [ef128, q_setz (Or.inr (by decide))]) (by rw [ef128, q_setz (Or.inr (by decide))]) (by rw [ef128, q_setz (Or.inr (by decide))]) (by rw [ef128, q_setz (Or.inl (fun q => by rw [q, ky105] at kdr; exact absurd kdr (by decide)))]) (by rw [ef128, q_setz (Or.inr (by decide))]) (fun a9 h9 k9 => by rw [ef128, q_setj (Or.inl (fun q => by rw [q, ky105] at k9; exact absurd k9 (by decide)))]) (fun a9 h9 k9 => by rw [ef128, q_setz (Or.inl (fun q => by rw [q, ky105] at k9; exact absurd k9 (by decide)))]) (fun i9 => by rw [ef128, q_setr (Or.inl (fun q => by rw [q, ky105] at knds; exact absurd knds (by decide)))])
    refine q_ald_n cx dX10_addLink_42 rfl (lv_at hl 0 rfl) ?_
    refine q_iconst cx dX10_addLink_43 ?_
    refine q_pX10_128_21 cx hB hy105 ky105 ⟨by decide, by decide⟩ (by decide) (by decide) rfl dX10_addLink_44 (fun H locs f137 ef137 z138 hB => ?_)
    have z139 : q_is (q_z f137 dr 4) nl := by rw [ef137, q_setz (Or.inl (fun q => by rw [q, ky105] at kdr; exact absurd kdr (by decide)))]; exact z130
    have z140 : q_is (q_z f137 y105 0) p0 := by rw [ef137, q_setz (Or.inr (by decide))]; exact z131
    have z141 : q_is (q_z f137 y105 1) p1 := by rw [ef137, q_setz (Or.inr (by decide))]; exact z132
    have z142 : q_is (q_z f137 y105 2) 0 := by rw [ef137, q_setz (Or.inr (by decide))]; exact z133
    have z143 : q_is (q_z f137 y105 3) 0 := by rw [ef137, q_setz (Or.inr (by decide))]; exact z129
    have z144 : q_ir (q_r f137 dr 0) nds := by rw [ef137, q_setr (Or.inr (by decide))]; exact z134
    have z145 : q_ir (q_r f137 dr 1) p100 := by rw [ef137, q_setr (Or.inr (by decide))]; exact z135
    have g146 : tk_ta K L f137 rd dr nds tA (tk_has (tk_lk tA)) := tk_ta_tr g136 (by rw [ef137, q_setz (Or.inr (by decide))]) (by rw [ef137, q_setz (Or.inr (by decide))]) (by rw [ef137, q_setz (Or.inr (by decide))]) (by rw [ef137, q_setz (Or.inr (by decide))]) (by rw [ef137, q_setz (Or.inl (fun q => by rw [q, ky105] at kdr; exact absurd kdr (by decide)))]) (fun a9 h9 k9 => by rw [ef137, q_setj (Or.inl (fun q => by rw [q, ky105] at k9; exact absurd k9 (by decide)))]) (fun a9 h9 k9 => by rw [ef137, q_setz (Or.inl (fun q => by rw [q, ky105] at k9; exact absurd k9 (by decide)))]) (fun i9 => by rw [ef137, q_setr (Or.inl (fun q => by rw [q, ky105] at knds; exact absurd knds (by decide)))])
    refine q_ald_n cx dX10_addLink_47 rfl (lv_at hl 1 rfl) ?_
    refine q_ild_n cx dX10_addLink_48 rfl (lv_at hl 2 rfl) ?_
    refine q_cVr (As := [.int (q_i p0)]) (rest := []) cx hB (fun _ h => h) hN hdr kdr (by decide) rfl (f_nodeAt l g hN hB.2.1 dr hdr kdr p0 (by omega) (by omega) nds hnds knds z144) q_cX10_66 q_dX10_nodeAt (by decide) rfl rfl hl.1 rfl (Nat.le_of_ble_eq_true rfl) dX10_addLink_49 (fun y148 H locs f147 h149 hF hB => ?_)
    obtain ⟨rfl, hy148, ky148, t150⟩ := h149
    refine lv_dup cx.1 cx.2.1 dX10_addLink_52 rfl ?_
    obtain ⟨x151, ex151⟩ : ∃ zz, q_is (q_z f137 y148 5) zz := ⟨_, q_isr _⟩
    refine q_gX10_104_17 cx hB hy148 ky148 ex151 dX10_addLink_53 (fun lb152 ub152 => ?_)
    refine q_iconst cx dX10_addLink_56 ?_
    refine q_ild_n cx dX10_addLink_57 rfl (lv_at hl 3 rfl) ?_
    refine q_ishl cx dX10_addLink_58 (fun y153 ry153 ey153 => ?_)
    refine q_ior cx dX10_addLink_59 (fun y154 ry154 ey154 => ?_)
    refine q_pX10_104_17 cx hB hy148 ky148 ⟨by omega, by omega⟩ (by omega) (by omega) rfl dX10_addLink_60 (fun H locs f155 ef155 z156 hB => ?_)
    have z157 : q_is (q_z f155 dr 4) nl := by rw [ef155, q_setz (Or.inr (by decide))]; exact z139
    have z158 : q_is (q_z f155 y105 0) p0 := by rw [ef155, q_setz (Or.inr (by decide))]; exact z140
    have z159 : q_is (q_z f155 y105 1) p1 := by rw [ef155, q_setz (Or.inr (by decide))]; exact z141
    have z160 : q_is (q_z f155 y105 2) 0 := by rw [ef155, q_setz (Or.inr (by decide))]; exact z142
    have z161 : q_is (q_z f155 y105 3) 0 := by rw [ef155, q_setz (Or.inr (by decide))]; exact z143
    have z162 : q_is (q_z f155 y105 4) 0 := by rw [ef155, q_setz (Or.inr (by decide))]; exact z138
    have z163 : q_ir (q_r f155 dr 0) nds := by rw [ef155, q_setr (Or.inr (by decide))]; exact z144
    have z164 : q_ir (q_r f155 dr 1) p100 := by rw [ef155, q_setr (Or.inr (by decide))]; exact z145
    have g165 : tk_ta K L f155 rd dr nds tA (fun i j => (tk_has (tk_lk tA)) i j || (i == Int.toNat p0 && j == Int.toNat p1)) := tk_ta_m g146 t150 (by omega) ex151 ef155 z156 (tk_or9 (by omega) (by omega) ey153 ey154) krd kdr knds
    refine q_ald_n cx dX10_addLink_63 rfl (lv_at hl 1 rfl) ?_
    refine q_ild_n cx dX10_addLink_64 rfl (lv_at hl 3 rfl) ?_
    refine q_cVr (As := [.int (q_i p1)]) (rest := []) cx hB (fun _ h => h) hN hdr kdr (by decide) rfl (f_nodeAt l g hN hB.2.1 dr hdr kdr p1 (by omega) (by omega) nds hnds knds z163) q_cX10_66 q_dX10_nodeAt (by decide) rfl rfl hl.1 rfl (Nat.le_of_ble_eq_true rfl) dX10_addLink_65 (fun y167 H locs f166 h168 hF hB => ?_)
    obtain ⟨rfl, hy167, ky167, t169⟩ := h168
    refine lv_dup cx.1 cx.2.1 dX10_addLink_68 rfl ?_
    obtain ⟨x170, ex170⟩ : ∃ zz, q_is (q_z f155 y167 5) zz := ⟨_, q_isr _⟩
    refine q_gX10_104_17 cx hB hy167 ky167 ex170 dX10_addLink_69 (fun lb171 ub171 => ?_)
    refine q_iconst cx dX10_addLink_72 ?_
    refine q_ild_n cx dX10_addLink_73 rfl (lv_at hl 2 rfl) ?_
    refine q_ishl cx dX10_addLink_74 (fun y172 ry172 ey172 => ?_)
    refine q_ior cx dX10_addLink_75 (fun y173 ry173 ey173 => ?_)
    refine q_pX10_104_17 cx hB hy167 ky167 ⟨by omega, by omega⟩ (by omega) (by omega) rfl dX10_addLink_76 (fun H locs f174 ef174 z175 hB => ?_)
    have z176 : q_is (q_z f174 dr 4) nl := by rw [ef174, q_setz (Or.inr (by decide))]; exact z157
    have z177 : q_is (q_z f174 y105 0) p0 := by rw [ef174, q_setz (Or.inr (by decide))]; exact z158
    have z178 : q_is (q_z f174 y105 1) p1 := by rw [ef174, q_setz (Or.inr (by decide))]; exact z159
    have z179 : q_is (q_z f174 y105 2) 0 := by rw [ef174, q_setz (Or.inr (by decide))]; exact z160
    have z180 : q_is (q_z f174 y105 3) 0 := by rw [ef174, q_setz (Or.inr (by decide))]; exact z161
    have z181 : q_is (q_z f174 y105 4) 0 := by rw [ef174, q_setz (Or.inr (by decide))]; exact z162
    have z182 : q_ir (q_r f174 dr 0) nds := by rw [ef174, q_setr (Or.inr (by decide))]; exact z163
    have z183 : q_ir (q_r f174 dr 1) p100 := by rw [ef174, q_setr (Or.inr (by decide))]; exact z164
    have g184 : tk_ta K L f174 rd dr nds tA (fun i j => ((fun i j => (tk_has (tk_lk tA)) i j || (i == Int.toNat p0 && j == Int.toNat p1))) i j || (i == Int.toNat p1 && j == Int.toNat p0)) := tk_ta_m g165 t169 (by omega) ex170 ef174 z175 (tk_or9 (by omega) (by omega) ey172 ey173) krd kdr knds
    refine q_ald_n cx dX10_addLink_79 rfl (lv_at hl 1 rfl) ?_
    refine lv_dup cx.1 cx.2.1 dX10_addLink_80 rfl ?_
    refine q_gX10_39_13 cx hB hdr kdr z176 dX10_addLink_81 (fun lb185 ub185 => ?_)
    refine q_iconst cx dX10_addLink_84 ?_
    refine q_iadd cx dX10_addLink_85 ?_
    refine q_pX10_39_13 cx hB hdr kdr ⟨by omega, by omega⟩ (by omega) (by omega) rfl dX10_addLink_86 (fun H locs f186 ef186 z187 hB => ?_)
    have z188 : q_is (q_z f186 y105 0) p0 := by rw [ef186, q_setz (Or.inr (by decide))]; exact z177
    have z189 : q_is (q_z f186 y105 1) p1 := by rw [ef186, q_setz (Or.inr (by decide))]; exact z178
    have z190 : q_is (q_z f186 y105 2) 0 := by rw [ef186, q_setz (Or.inr (by decide))]; exact z179
    have z191 : q_is (q_z f186 y105 3) 0 := by rw [ef186, q_setz (Or.inr (by decide))]; exact z180
    have z192 : q_is (q_z f186 y105 4) 0 := by rw [ef186, q_setz (Or.inl (fun q => by rw [q, kdr] at ky105; exact absurd ky105 (by decide)))]; exact z181
    have z193 : q_is (q_z f186 y167 5) y173 := by rw [ef186, q_setz (Or.inr (by decide))]; exact z175
    have z194 : q_ir (q_r f186 dr 0) nds := by rw [ef186, q_setr (Or.inr (by decide))]; exact z182
    have z195 : q_ir (q_r f186 dr 1) p100 := by rw [ef186, q_setr (Or.inr (by decide))]; exact z183
    have g196 : tk_ta K L f186 rd dr nds (tk_al tA (Int.toNat p0) (Int.toNat p1)) (tk_has (tk_lk (tk_al tA (Int.toNat p0) (Int.toNat p1)))) := tk_ta_al g184 (by omega) (by omega) ef186 z176 z187 krd kdr knds
    refine q_vret cx hr hlk hB dX10_addLink_89 ?_
    exact g196
  · exact absurd c102 (by omega)
set_option maxHeartbeats 4000000 in
set_option maxRecDepth 100000 in
theorem f_expectNode (l : Launch) (g : q_G) {K : Nat → Nat} {L : List Nat} (hN : L.Nodup) {f : Nat → va_E} (hT : q_Ty g K L f) (B : Nat → Int) (tA : tk_A) (so : Nat) (hso : so ∈ L) (kso : K so = 8) (dr : Nat) (hdr : dr ∈ L) (kdr : K dr = 13) (ba : Nat) (hba : ba ∈ L) (kba : K ba = 142) (nds : Nat) (hnds : nds ∈ L) (knds : K nds = 111) (rd : Nat) (hrd : rd ∈ L) (krd : K rd = 9) (tn : Int) (ltn : 0 ≤ tn) (utn : tn ≤ 600) (ss : Int) (lss : 0 ≤ ss) (uss : ss ≤ 600) (nn : Int) (lnn : 0 ≤ nn) (unn : nn ≤ 10) (hf0 : q_is (q_z f so 1) tn) (hf1 : q_is (q_z f so 8) ss) (hf2 : q_is (q_z f so 2) 0) (hf3 : q_is (q_z f so 3) (-1)) (hf4 : q_is (q_z f dr 3) nn) (hr0 : q_ir (q_r f so 0) ba) (hr1 : q_ir (q_r f dr 0) nds) (htc : tk_tc f so B tn) (htb : tk_tb f ba B tn) (hta : tk_ta K L f rd dr nds tA (tk_has (tk_lk tA))) : q_Ct l g K L yX8_expectNode cX8_expectNode 3 (some .int) 2 44 [.ref so, .ref dr] f [(8, 2, 3)] (q_Pi (fun (z : Int) (f1 : Nat → va_E) => (0 ≤ z ∧ z ≤ 9 ∧ q_is (q_z f1 so 2) 0 ∧ q_is (q_z f1 so 3) (-1) ∧ q_is (q_z f1 so 8) ss ∧ (tk_who B tn ss (tk_nd tA) = tk_ok (Int.toNat z)) ∧ (z < nn) ∧ (tk_tc f1 so B tn)) ∨ (z = (-1) ∧ (tk_who B tn ss (tk_nd tA) = tk_er (q_z f1 so 2) (q_z f1 so 3)) ∧ (tk_tc f1 so B tn)))) := by
  refine q_ofb (by decide +kernel) hN hT (Nat.le_of_ble_eq_true rfl) ?_
  intro p e s m below meth c ls cx hr hlk hB hl
  have hl : lv_has ls 3 [(0, .ref so), (1, .ref dr)] := hl
  obtain ⟨H, hH⟩ : ∃ H : Heap, H = s.heap := ⟨_, rfl⟩
  obtain ⟨locs, hlocs⟩ : ∃ z : List Loc, z = [] := ⟨_, rfl⟩
  rw [← hH, ← hlocs] at hB
  rw [← hH, ← hlocs]
  refine q_ald_n cx dX8_expectNode_0 rfl (lv_at hl 0 rfl) ?_
  refine q_cVi (As := []) (rest := []) cx hB (fun _ h => h) hN hso kso (by decide) rfl (f_expectName l g hN hB.2.1 B so hso kso ba hba kba tn (by omega) (by omega) ss (by omega) (by omega) hf0 hf1 hf2 hf3 hr0 htc htb) q_cX8_89 q_dX8_expectName (by decide) rfl rfl hl.1 rfl (Nat.le_of_ble_eq_true rfl) dX8_expectNode_1 (fun y57 H locs f56 ry57 h58 hF hB => ?_)
  rcases h58 with h59 | h60
  · obtain ⟨qy57, z61, z62, t63, g64⟩ := h59
    have z65 : q_is (q_z f56 so 1) tn := Eq.trans (hF.z hso (by rw [kso]; rfl)) hf0
    have z66 : q_is (q_z f56 so 8) ss := Eq.trans (hF.z hso (by rw [kso]; rfl)) hf1
    have z67 : q_is (q_z f56 dr 3) nn := Eq.trans (hF.z hdr (by rw [kdr]; rfl)) hf4
    have z68 : q_ir (q_r f56 so 0) ba := Eq.trans (hF.r hso (by rw [kso]; rfl)) hr0
    have z69 : q_ir (q_r f56 dr 0) nds := Eq.trans (hF.r hdr (by rw [kdr]; rfl)) hr1
    have g70 : tk_tc f56 so B tn := tk_tc_tr htc (hF.z hso (by rw [kso]; rfl)) (hF.z hso (by rw [kso]; rfl)) (hF.z hso (by rw [kso]; rfl)) (hF.j hso (by rw [kso]; rfl)) (hF.z hso (by rw [kso]; rfl))
    have g71 : tk_tb f56 ba B tn := tk_tb_tr htb (fun i9 => hF.z hba (by rw [kba]; rfl))
    have g72 : tk_ta K L f56 rd dr nds tA (tk_has (tk_lk tA)) := tk_ta_tr hta (hF.z hrd (by rw [krd]; rfl)) (hF.z hrd (by rw [krd]; rfl)) (hF.z hrd (by rw [krd]; rfl)) (hF.z hdr (by rw [kdr]; rfl)) (hF.z hdr (by rw [kdr]; rfl)) (fun a9 h9 k9 => hF.j h9 (by rw [k9]; rfl)) (fun a9 h9 k9 => hF.z h9 (by rw [k9]; rfl)) (fun i9 => hF.r hnds (by rw [knds]; rfl))
    subst qy57
    refine q_ifne (tgt := 9) cx ⟨by decide, by decide⟩ dX8_expectNode_4 (by decide) (fun c73 => ?_) (fun c73 => ?_)
    · refine q_ald_n cx dX8_expectNode_9 rfl (lv_at hl 1 rfl) ?_
      have hiw9 : tk_isw (tk_w B tn ss) := tk_w_isw (by omega)
      refine q_ald_n cx dX8_expectNode_10 rfl (lv_at hl 0 rfl) ?_
      refine q_gX8_56 cx hB hso kso (tk_tc_w g64 z66 t63) dX8_expectNode_11 ?_
      refine q_cVi (As := [.long (tk_cw (tk_w B tn ss))]) (rest := []) cx hB (fun _ h => h) hN hdr kdr (by decide) rfl (f_numberOf l g hN hB.2.1 tA (tk_w B tn ss) dr hdr kdr (tk_cw (tk_w B tn ss)) nds hnds knds rd hrd krd nn (by omega) (by omega) z67 z69 rfl hiw9 g72) q_cX8_93 q_dX10_numberOf (by decide) rfl rfl hl.1 rfl (Nat.le_of_ble_eq_true rfl) dX8_expectNode_14 (fun y75 H locs f74 ry75 h76 hF hB => ?_)
      rcases h76 with h77 | h78
      · obtain ⟨rfl, ly75, uy75, t79, t80⟩ := h77
        refine lv_istore_n (lv' := [(2, .int (q_i y75)), (0, .ref so), (1, .ref dr)]) cx.1 cx.2.1 dX8_expectNode_17 rfl hl (by decide) rfl (fun ls hl => ?_)
        refine q_ild_n cx dX8_expectNode_18 rfl (lv_at hl 0 rfl) ?_
        refine q_iconst cx dX8_expectNode_19 ?_
        refine q_icne (tgt := 29) cx ⟨by omega, by omega⟩ ⟨by decide, by decide⟩ dX8_expectNode_20 (by decide) (fun c81 => ?_) (fun c81 => ?_)
        · refine q_ild_n cx dX8_expectNode_29 rfl (lv_at hl 0 rfl) ?_
          refine q_iret cx hr hlk hB dX8_expectNode_30 ⟨by omega, by omega⟩ ?_
          exact (Or.inl ⟨(by omega), (by omega), z61, z62, z66, (tk_who_ok t63 t79), (by omega), g64⟩)
        · exact absurd c81 (by omega)
      · obtain ⟨rfl, qy75, t82⟩ := h78
        subst qy75
        refine lv_istore_n (lv' := [(2, .int (q_i (-1))), (0, .ref so), (1, .ref dr)]) cx.1 cx.2.1 dX8_expectNode_17 rfl hl (by decide) rfl (fun ls hl => ?_)
        refine q_ild_n cx dX8_expectNode_18 rfl (lv_at hl 0 rfl) ?_
        refine q_iconst cx dX8_expectNode_19 ?_
        refine q_icne (tgt := 29) cx ⟨by decide, by decide⟩ ⟨by decide, by decide⟩ dX8_expectNode_20 (by decide) (fun c83 => ?_) (fun c83 => ?_)
        · exact absurd c83 (by omega)
        · refine q_ald_n cx dX8_expectNode_23 rfl (lv_at hl 1 rfl) ?_
          refine q_iconst cx dX8_expectNode_24 ?_
          refine q_cVi (As := [.int (q_i 4)]) (rest := []) cx hB (fun _ h => h) hN hso kso (by decide) rfl (f_fail l g hN hB.2.1 B so hso kso 4 (by decide) (by decide) ba hba kba tn (by omega) (by omega) ss (by omega) (by omega) z65 z66 z68 g64 g71) q_cX8_79 q_dX8_fail (by decide) rfl rfl hl.1 rfl (Nat.le_of_ble_eq_true rfl) dX8_expectNode_25 (fun y85 H locs f84 ry85 h86 hF hB => ?_)
          obtain ⟨qy85, z87, z88⟩ := h86
          have z89 : q_j f84 so 4 = (tk_cw (tk_w B tn ss)) := (hF.j hso (by rw [kso]; rfl)).trans (tk_tc_w g64 z66 t63)
          have z90 : q_is (q_z f84 so 1) tn := Eq.trans (hF.z hso (by rw [kso]; rfl)) z65
          have z91 : q_is (q_z f84 so 8) ss := Eq.trans (hF.z hso (by rw [kso]; rfl)) z66
          have z92 : q_is (q_z f84 dr 3) nn := Eq.trans (hF.z hdr (by rw [kdr]; rfl)) z67
          have z93 : q_ir (q_r f84 so 0) ba := Eq.trans (hF.r hso (by rw [kso]; rfl)) z68
          have z94 : q_ir (q_r f84 dr 0) nds := Eq.trans (hF.r hdr (by rw [kdr]; rfl)) z69
          have g95 : tk_tc f84 so B tn := tk_tc_tr g64 (hF.z hso (by rw [kso]; rfl)) (hF.z hso (by rw [kso]; rfl)) (hF.z hso (by rw [kso]; rfl)) (hF.j hso (by rw [kso]; rfl)) (hF.z hso (by rw [kso]; rfl))
          have g96 : tk_tb f84 ba B tn := tk_tb_tr g71 (fun i9 => hF.z hba (by rw [kba]; rfl))
          have g97 : tk_ta K L f84 rd dr nds tA (tk_has (tk_lk tA)) := tk_ta_tr g72 (hF.z hrd (by rw [krd]; rfl)) (hF.z hrd (by rw [krd]; rfl)) (hF.z hrd (by rw [krd]; rfl)) (hF.z hdr (by rw [kdr]; rfl)) (hF.z hdr (by rw [kdr]; rfl)) (fun a9 h9 k9 => hF.j h9 (by rw [k9]; rfl)) (fun a9 h9 k9 => hF.z h9 (by rw [k9]; rfl)) (fun i9 => hF.r hnds (by rw [knds]; rfl))
          subst qy85
          refine lv_pop cx.1 cx.2.1 dX8_expectNode_28 rfl ?_
          refine q_ild_n cx dX8_expectNode_29 rfl (lv_at hl 0 rfl) ?_
          refine q_iret cx hr hlk hB dX8_expectNode_30 ⟨by decide, by decide⟩ ?_
          exact (Or.inr ⟨rfl, (tk_who_e4 t63 t82 z87 z88), g95⟩)
    · exact absurd c73 (by omega)
  · obtain ⟨qy57, z98, z99, t100, g101⟩ := h60
    have z102 : q_is (q_z f56 so 1) tn := Eq.trans (hF.z hso (by rw [kso]; rfl)) hf0
    have z103 : q_is (q_z f56 so 8) ss := Eq.trans (hF.z hso (by rw [kso]; rfl)) hf1
    have z104 : q_is (q_z f56 dr 3) nn := Eq.trans (hF.z hdr (by rw [kdr]; rfl)) hf4
    have z105 : q_ir (q_r f56 so 0) ba := Eq.trans (hF.r hso (by rw [kso]; rfl)) hr0
    have z106 : q_ir (q_r f56 dr 0) nds := Eq.trans (hF.r hdr (by rw [kdr]; rfl)) hr1
    have g107 : tk_tc f56 so B tn := tk_tc_tr htc (hF.z hso (by rw [kso]; rfl)) (hF.z hso (by rw [kso]; rfl)) (hF.z hso (by rw [kso]; rfl)) (hF.j hso (by rw [kso]; rfl)) (hF.z hso (by rw [kso]; rfl))
    have g108 : tk_tb f56 ba B tn := tk_tb_tr htb (fun i9 => hF.z hba (by rw [kba]; rfl))
    have g109 : tk_ta K L f56 rd dr nds tA (tk_has (tk_lk tA)) := tk_ta_tr hta (hF.z hrd (by rw [krd]; rfl)) (hF.z hrd (by rw [krd]; rfl)) (hF.z hrd (by rw [krd]; rfl)) (hF.z hdr (by rw [kdr]; rfl)) (hF.z hdr (by rw [kdr]; rfl)) (fun a9 h9 k9 => hF.j h9 (by rw [k9]; rfl)) (fun a9 h9 k9 => hF.z h9 (by rw [k9]; rfl)) (fun i9 => hF.r hnds (by rw [knds]; rfl))
    subst qy57
    refine q_ifne (tgt := 9) cx ⟨by decide, by decide⟩ dX8_expectNode_4 (by decide) (fun c110 => ?_) (fun c110 => ?_)
    · exact absurd c110 (by omega)
    · refine q_iconst cx dX8_expectNode_7 ?_
      refine q_iret cx hr hlk hB dX8_expectNode_8 ⟨by decide, by decide⟩ ?_
      exact (Or.inr ⟨rfl, (tk_who_e1 t100 z98 z99), g101⟩)
set_option maxHeartbeats 4000000 in
set_option maxRecDepth 100000 in
theorem f_readYear (l : Launch) (g : q_G) {K : Nat → Nat} {L : List Nat} (hN : L.Nodup) {f : Nat → va_E} (hT : q_Ty g K L f) (B : Nat → Int) (tA : tk_A) (rd : Nat) (hrd : rd ∈ L) (krd : K rd = 9) (so : Nat) (hso : so ∈ L) (kso : K so = 8) (dr : Nat) (hdr : dr ∈ L) (kdr : K dr = 13) (ba : Nat) (hba : ba ∈ L) (kba : K ba = 142) (nds : Nat) (hnds : nds ∈ L) (knds : K nds = 111) (tn : Int) (ltn : 0 ≤ tn) (utn : tn ≤ 600) (ss : Int) (lss : 0 ≤ ss) (uss : ss ≤ 600) (hf0 : q_is (q_z f so 1) tn) (hf1 : q_is (q_z f so 8) ss) (hf2 : q_is (q_z f so 2) 0) (hf3 : q_is (q_z f so 3) (-1)) (hr0 : q_ir (q_r f so 0) ba) (hr1 : q_ir (q_r f dr 0) nds) (htc : tk_tc f so B tn) (htb : tk_tb f ba B tn) (hta : tk_ta K L f rd dr nds tA (tk_has (tk_lk tA))) : q_Ct l g K L yX9_readYear cX9_readYear 3 (some .boolean) 4 84 [.ref rd, .ref so, .ref dr] f [(8, 2, 9), (9, 0, 0), (13, 6, 6)] (q_Pi (fun (z : Int) (f1 : Nat → va_E) => (z = 1 ∧ q_is (q_z f1 so 2) 0 ∧ q_is (q_z f1 so 3) (-1) ∧ (∃ A1 : tk_A, tk_year B tn ss tA = tk_ok (q_z f1 so 8, A1) ∧ tk_ta K L f1 rd dr nds A1 (tk_has (tk_lk A1))) ∧ (tk_tc f1 so B tn)) ∨ (z = 0 ∧ (tk_year B tn ss tA = tk_er (q_z f1 so 2) (q_z f1 so 3)) ∧ (tk_tc f1 so B tn)))) := by
  refine q_ofb (by decide +kernel) hN hT (Nat.le_of_ble_eq_true rfl) ?_
  intro p e s m below meth c ls cx hr hlk hB hl
  have hl : lv_has ls 3 [(0, .ref rd), (1, .ref so), (2, .ref dr)] := hl
  obtain ⟨H, hH⟩ : ∃ H : Heap, H = s.heap := ⟨_, rfl⟩
  obtain ⟨locs, hlocs⟩ : ∃ z : List Loc, z = [] := ⟨_, rfl⟩
  rw [← hH, ← hlocs] at hB
  rw [← hH, ← hlocs]
  refine q_ald_n cx dX9_readYear_0 rfl (lv_at hl 0 rfl) ?_
  obtain ⟨x86, ex86⟩ : ∃ zz, q_is (q_z f rd 0) zz := ⟨_, q_isr _⟩
  refine q_gX9_9 cx hB hrd krd ex86 dX9_readYear_1 (fun lb87 ub87 => ?_)
  refine q_ifeq (tgt := 13) cx ⟨by omega, by omega⟩ dX9_readYear_4 (by decide) (fun c88 => ?_) (fun c88 => ?_)
  · refine q_ald_n cx dX9_readYear_13 rfl (lv_at hl 0 rfl) ?_
    refine q_iconst cx dX9_readYear_14 ?_
    refine q_pX9_9 cx hB hrd krd ⟨by decide, by decide⟩ (by decide) (by decide) rfl dX9_readYear_15 (fun H locs f89 ef89 z90 hB => ?_)
    have z91 : q_is (q_z f89 so 1) tn := by rw [ef89, q_setz (Or.inr (by decide))]; exact hf0
    have z92 : q_is (q_z f89 so 8) ss := by rw [ef89, q_setz (Or.inr (by decide))]; exact hf1
    have z93 : q_is (q_z f89 so 2) 0 := by rw [ef89, q_setz (Or.inr (by decide))]; exact hf2
    have z94 : q_is (q_z f89 so 3) (-1) := by rw [ef89, q_setz (Or.inr (by decide))]; exact hf3
    have z95 : q_ir (q_r f89 so 0) ba := by rw [ef89, q_setr (Or.inl (fun q => by rw [q, krd] at kso; exact absurd kso (by decide)))]; exact hr0
    have z96 : q_ir (q_r f89 dr 0) nds := by rw [ef89, q_setr (Or.inl (fun q => by rw [q, krd] at kdr; exact absurd kdr (by decide)))]; exact hr1
    have g97 : tk_tc f89 so B tn := tk_tc_tr htc (by rw [ef89, q_setz (Or.inr (by decide))]) (by rw [ef89, q_setz (Or.inr (by decide))]) (by rw [ef89, q_setz (Or.inr (by decide))]) (by rw [ef89, q_setj (Or.inr (by decide))]) (by rw [ef89, q_setz (Or.inr (by decide))])
    have g98 : tk_tb f89 ba B tn := tk_tb_tr htb (fun i9 => by rw [ef89, q_setz (Or.inl (fun q => by rw [q, krd] at kba; exact absurd kba (by decide)))])
    have g99 : tk_ta K L f89 rd dr nds (tk_sy tA) (tk_has (tk_lk tA)) := tk_ta_sy hta z90 (by rw [ef89, q_setz (Or.inr (by decide))]) (by rw [ef89, q_setz (Or.inr (by decide))]) (by rw [ef89, q_setz (Or.inr (by decide))]) (by rw [ef89, q_setz (Or.inr (by decide))]) (fun a9 h9 k9 => by rw [ef89, q_setj (Or.inl (fun q => by rw [q, krd] at k9; exact absurd k9 (by decide)))]) (fun a9 h9 k9 => by rw [ef89, q_setz (Or.inl (fun q => by rw [q, krd] at k9; exact absurd k9 (by decide)))]) (fun i9 => by rw [ef89, q_setr (Or.inl (fun q => by rw [q, krd] at knds; exact absurd knds (by decide)))])
    refine q_ald_n cx dX9_readYear_18 rfl (lv_at hl 1 rfl) ?_
    refine q_cVv (As := []) (rest := []) cx hB (fun _ h => h) hN hso kso (by decide) rfl (f_adv l g hN hB.2.1 B so hso kso ba hba kba tn (by omega) (by omega) ss (by omega) (by omega) z91 z92 z95 g97 g98) q_cX9_78 q_dX8_advance (by decide) rfl rfl hl.1 rfl (Nat.le_of_ble_eq_true rfl) dX9_readYear_19 (fun H locs f100 h102 hF hB => ?_)
    obtain ⟨t103, g104⟩ := h102
    have z105 : q_is (q_z f100 so 1) tn := Eq.trans (hF.z hso (by rw [kso]; rfl)) z91
    have z106 : q_is (q_z f100 so 2) 0 := Eq.trans (hF.z hso (by rw [kso]; rfl)) z93
    have z107 : q_is (q_z f100 so 3) (-1) := Eq.trans (hF.z hso (by rw [kso]; rfl)) z94
    have z108 : q_is (q_z f100 rd 0) 1 := Eq.trans (hF.z hrd (by rw [krd]; rfl)) z90
    have z109 : q_ir (q_r f100 so 0) ba := Eq.trans (hF.r hso (by rw [kso]; rfl)) z95
    have z110 : q_ir (q_r f100 dr 0) nds := Eq.trans (hF.r hdr (by rw [kdr]; rfl)) z96
    have g111 : tk_tb f100 ba B tn := tk_tb_tr g98 (fun i9 => hF.z hba (by rw [kba]; rfl))
    have g112 : tk_ta K L f100 rd dr nds (tk_sy tA) (tk_has (tk_lk tA)) := tk_ta_tr g99 (hF.z hrd (by rw [krd]; rfl)) (hF.z hrd (by rw [krd]; rfl)) (hF.z hrd (by rw [krd]; rfl)) (hF.z hdr (by rw [kdr]; rfl)) (hF.z hdr (by rw [kdr]; rfl)) (fun a9 h9 k9 => hF.j h9 (by rw [k9]; rfl)) (fun a9 h9 k9 => hF.z h9 (by rw [k9]; rfl)) (fun i9 => hF.r hnds (by rw [knds]; rfl))
    obtain ⟨x113, ex113⟩ : ∃ zz, q_is (q_z f100 so 8) zz := ⟨_, q_isr _⟩
    obtain ⟨lx113, ux113⟩ := q_isb ex113 (q_fib hB.2.1 hso kso (by decide) rfl)
    obtain ⟨-, l0x113, u0x113, -, -⟩ := tk_tc_n g104 ex113
    refine q_ald_n cx dX9_readYear_22 rfl (lv_at hl 1 rfl) ?_
    refine q_iconst cx dX9_readYear_23 ?_
    refine q_bipush cx dX9_readYear_24 rfl ?_
    refine q_cVi (As := [.int (q_i 4), .int (q_i 60)]) (rest := []) cx hB (fun _ h => h) hN hso kso (by decide) rfl (f_takeNumber l g hN hB.2.1 B so hso kso 4 (by decide) (by decide) 60 (by decide) (by decide) ba hba kba tn (by omega) (by omega) x113 (by omega) (by omega) z105 ex113 z106 z107 z109 g104 g111) q_cX9_81 q_dX8_takeNumber (by decide) rfl rfl hl.1 rfl (Nat.le_of_ble_eq_true rfl) dX9_readYear_26 (fun y115 H locs f114 ry115 h116 hF hB => ?_)
    rcases h116 with h117 | h118
    · obtain ⟨qy115, z119, z120, t121, t122, t123, g124⟩ := h117
      have z125 : q_is (q_z f114 so 1) tn := Eq.trans (hF.z hso (by rw [kso]; rfl)) z105
      have z126 : q_is (q_z f114 rd 0) 1 := Eq.trans (hF.z hrd (by rw [krd]; rfl)) z108
      have z127 : q_ir (q_r f114 so 0) ba := Eq.trans (hF.r hso (by rw [kso]; rfl)) z109
      have z128 : q_ir (q_r f114 dr 0) nds := Eq.trans (hF.r hdr (by rw [kdr]; rfl)) z110
      have g129 : tk_tb f114 ba B tn := tk_tb_tr g111 (fun i9 => hF.z hba (by rw [kba]; rfl))
      have g130 : tk_ta K L f114 rd dr nds (tk_sy tA) (tk_has (tk_lk tA)) := tk_ta_tr g112 (hF.z hrd (by rw [krd]; rfl)) (hF.z hrd (by rw [krd]; rfl)) (hF.z hrd (by rw [krd]; rfl)) (hF.z hdr (by rw [kdr]; rfl)) (hF.z hdr (by rw [kdr]; rfl)) (fun a9 h9 k9 => hF.j h9 (by rw [k9]; rfl)) (fun a9 h9 k9 => hF.z h9 (by rw [k9]; rfl)) (fun i9 => hF.r hnds (by rw [knds]; rfl))
      subst qy115
      obtain ⟨x131, ex131⟩ : ∃ zz, q_is (q_z f114 so 8) zz := ⟨_, q_isr _⟩
      obtain ⟨lx131, ux131⟩ := q_isb ex131 (q_fib hB.2.1 hso kso (by decide) rfl)
      obtain ⟨-, l0x131, u0x131, -, -⟩ := tk_tc_n g124 ex131
      refine q_ifne (tgt := 34) cx ⟨by decide, by decide⟩ dX9_readYear_29 (by decide) (fun c132 => ?_) (fun c132 => ?_)
      · refine q_ald_n cx dX9_readYear_34 rfl (lv_at hl 2 rfl) ?_
        refine q_ald_n cx dX9_readYear_35 rfl (lv_at hl 1 rfl) ?_
        obtain ⟨x133, ex133⟩ : ∃ zz, q_is (q_z f114 so 5) zz := ⟨_, q_isr _⟩
        have lx133 : 4 ≤ x133 := by have h7 : _ = _ := ex133; omega
        have ux133 : x133 ≤ 60 := by have h7 : _ = _ := ex133; omega
        refine q_gX9_85 cx hB hso kso ex133 dX9_readYear_36 (fun lb134 ub134 => ?_)
        refine q_pX9_89_13 cx hB hdr kdr ⟨by omega, by omega⟩ (by omega) (by omega) rfl dX9_readYear_39 (fun H locs f135 ef135 z136 hB => ?_)
        have z137 : q_is (q_z f135 so 1) tn := by rw [ef135, q_setz (Or.inr (by decide))]; exact z125
        have z138 : q_is (q_z f135 rd 0) 1 := by rw [ef135, q_setz (Or.inr (by decide))]; exact z126
        have z139 : q_is (q_z f135 so 2) 0 := by rw [ef135, q_setz (Or.inr (by decide))]; exact z119
        have z140 : q_is (q_z f135 so 3) (-1) := by rw [ef135, q_setz (Or.inr (by decide))]; exact z120
        have z141 : q_is (q_z f135 so 8) x131 := by rw [ef135, q_setz (Or.inr (by decide))]; exact ex131
        have z142 : q_is (q_z f135 so 5) x133 := by rw [ef135, q_setz (Or.inr (by decide))]; exact ex133
        have z143 : q_ir (q_r f135 so 0) ba := by rw [ef135, q_setr (Or.inr (by decide))]; exact z127
        have z144 : q_ir (q_r f135 dr 0) nds := by rw [ef135, q_setr (Or.inr (by decide))]; exact z128
        have g145 : tk_tb f135 ba B tn := tk_tb_tr g129 (fun i9 => by rw [ef135, q_setz (Or.inl (fun q => by rw [q, kdr] at kba; exact absurd kba (by decide)))])
        have g146 : tk_ta K L f135 rd dr nds (tk_sy tA) (tk_has (tk_lk tA)) := tk_ta_tr g130 (by rw [ef135, q_setz (Or.inr (by decide))]) (by rw [ef135, q_setz (Or.inr (by decide))]) (by rw [ef135, q_setz (Or.inr (by decide))]) (by rw [ef135, q_setz (Or.inr (by decide))]) (by rw [ef135, q_setz (Or.inr (by decide))]) (fun a9 h9 k9 => by rw [ef135, q_setj (Or.inl (fun q => by rw [q, kdr] at k9; exact absurd k9 (by decide)))]) (fun a9 h9 k9 => by rw [ef135, q_setz (Or.inl (fun q => by rw [q, kdr] at k9; exact absurd k9 (by decide)))]) (fun i9 => by rw [ef135, q_setr (Or.inl (fun q => by rw [q, kdr] at knds; exact absurd knds (by decide)))])
        have g147 : tk_tc f135 so B tn := tk_tc_tr g124 (by rw [ef135, q_setz (Or.inr (by decide))]) (by rw [ef135, q_setz (Or.inl (fun q => by rw [q, kdr] at kso; exact absurd kso (by decide)))]) (by rw [ef135, q_setz (Or.inr (by decide))]) (by rw [ef135, q_setj (Or.inr (by decide))]) (by rw [ef135, q_setz (Or.inr (by decide))])
        refine q_iconst cx dX9_readYear_42 ?_
        refine q_zret cx hr hlk hB dX9_readYear_43 (by decide) (by decide) ?_
        exact (Or.inl ⟨rfl, z139, z140, ⟨(tk_sy tA), tk_okp (tk_year_ok (tk_b2f hta.1.1 ex86 (by omega)) (Eq.trans (Eq.symm ex113) t103) (tk_okx t121 ex131)) z141, g146⟩, g147⟩)
      · exact absurd c132 (by omega)
    · obtain ⟨qy115, t148, g149⟩ := h118
      have z150 : q_is (q_z f114 so 1) tn := Eq.trans (hF.z hso (by rw [kso]; rfl)) z105
      have z151 : q_is (q_z f114 rd 0) 1 := Eq.trans (hF.z hrd (by rw [krd]; rfl)) z108
      have z152 : q_ir (q_r f114 so 0) ba := Eq.trans (hF.r hso (by rw [kso]; rfl)) z109
      have z153 : q_ir (q_r f114 dr 0) nds := Eq.trans (hF.r hdr (by rw [kdr]; rfl)) z110
      have g154 : tk_tb f114 ba B tn := tk_tb_tr g111 (fun i9 => hF.z hba (by rw [kba]; rfl))
      have g155 : tk_ta K L f114 rd dr nds (tk_sy tA) (tk_has (tk_lk tA)) := tk_ta_tr g112 (hF.z hrd (by rw [krd]; rfl)) (hF.z hrd (by rw [krd]; rfl)) (hF.z hrd (by rw [krd]; rfl)) (hF.z hdr (by rw [kdr]; rfl)) (hF.z hdr (by rw [kdr]; rfl)) (fun a9 h9 k9 => hF.j h9 (by rw [k9]; rfl)) (fun a9 h9 k9 => hF.z h9 (by rw [k9]; rfl)) (fun i9 => hF.r hnds (by rw [knds]; rfl))
      subst qy115
      obtain ⟨x156, ex156⟩ : ∃ zz, q_is (q_z f114 so 8) zz := ⟨_, q_isr _⟩
      obtain ⟨lx156, ux156⟩ := q_isb ex156 (q_fib hB.2.1 hso kso (by decide) rfl)
      obtain ⟨-, l0x156, u0x156, -, -⟩ := tk_tc_n g149 ex156
      refine q_ifne (tgt := 34) cx ⟨by decide, by decide⟩ dX9_readYear_29 (by decide) (fun c157 => ?_) (fun c157 => ?_)
      · exact absurd c157 (by omega)
      · refine q_iconst cx dX9_readYear_32 ?_
        refine q_zret cx hr hlk hB dX9_readYear_33 (by decide) (by decide) ?_
        exact (Or.inr ⟨rfl, (tk_year_e1 (tk_b2f hta.1.1 ex86 (by omega)) (Eq.trans (Eq.symm ex113) t103) t148), g149⟩)
  · refine q_ald_n cx dX9_readYear_7 rfl (lv_at hl 1 rfl) ?_
    refine q_iconst cx dX9_readYear_8 ?_
    refine q_cVi (As := [.int (q_i 3)]) (rest := []) cx hB (fun _ h => h) hN hso kso (by decide) rfl (f_fail l g hN hB.2.1 B so hso kso 3 (by decide) (by decide) ba hba kba tn (by omega) (by omega) ss (by omega) (by omega) hf0 hf1 hr0 htc htb) q_cX9_75 q_dX8_fail (by decide) rfl rfl hl.1 rfl (Nat.le_of_ble_eq_true rfl) dX9_readYear_9 (fun y159 H locs f158 ry159 h160 hF hB => ?_)
    obtain ⟨qy159, z161, z162⟩ := h160
    have z163 : q_is (q_z f158 so 1) tn := Eq.trans (hF.z hso (by rw [kso]; rfl)) hf0
    have z164 : q_is (q_z f158 so 8) ss := Eq.trans (hF.z hso (by rw [kso]; rfl)) hf1
    have z165 : q_is (q_z f158 rd 0) x86 := Eq.trans (hF.z hrd (by rw [krd]; rfl)) ex86
    have z166 : q_ir (q_r f158 so 0) ba := Eq.trans (hF.r hso (by rw [kso]; rfl)) hr0
    have z167 : q_ir (q_r f158 dr 0) nds := Eq.trans (hF.r hdr (by rw [kdr]; rfl)) hr1
    have g168 : tk_tc f158 so B tn := tk_tc_tr htc (hF.z hso (by rw [kso]; rfl)) (hF.z hso (by rw [kso]; rfl)) (hF.z hso (by rw [kso]; rfl)) (hF.j hso (by rw [kso]; rfl)) (hF.z hso (by rw [kso]; rfl))
    have g169 : tk_tb f158 ba B tn := tk_tb_tr htb (fun i9 => hF.z hba (by rw [kba]; rfl))
    have g170 : tk_ta K L f158 rd dr nds tA (tk_has (tk_lk tA)) := tk_ta_tr hta (hF.z hrd (by rw [krd]; rfl)) (hF.z hrd (by rw [krd]; rfl)) (hF.z hrd (by rw [krd]; rfl)) (hF.z hdr (by rw [kdr]; rfl)) (hF.z hdr (by rw [kdr]; rfl)) (fun a9 h9 k9 => hF.j h9 (by rw [k9]; rfl)) (fun a9 h9 k9 => hF.z h9 (by rw [k9]; rfl)) (fun i9 => hF.r hnds (by rw [knds]; rfl))
    subst qy159
    refine q_zret cx hr hlk hB dX9_readYear_12 (by decide) (by decide) ?_
    exact (Or.inr ⟨rfl, (tk_year_told (tk_b2t hta.1.1 ex86 (by omega)) z161 z162), g168⟩)
