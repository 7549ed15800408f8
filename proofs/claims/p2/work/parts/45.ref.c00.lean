set_option maxHeartbeats 4000000 in
set_option maxRecDepth 100000 in
theorem r_four (l : Launch) (g : q_G) {K : Nat → Nat} {L : List Nat} (hN : L.Nodup) {f : Nat → va_E} (hT : q_Ty g K L f) (mo : Nat) (hmo : mo ∈ L) (kmo : K mo = 12) (a0 : Int) (la0 : (-2147483648) ≤ a0) (ua0 : a0 ≤ 2147483647) (bu : Nat) (hbu : bu ∈ L) (kbu : K bu = 150) (xn : Int) (lxn : 0 ≤ xn) (uxn : xn ≤ 596) (hf0 : q_is (q_z f mo 2) xn) (hr0 : q_ir (q_r f mo 1) bu) : q_Ct l g K L yX12_four cX12_four 3 none 0 0 [.ref mo, .int (q_i a0)] f [(12, 2, 2), (150, 0, 599)] (q_Pv (fun (f1 : Nat → va_E) => q_is (q_z f1 mo 2) (xn + 4))) := by
  refine q_ofb (by decide +kernel) hN hT (Nat.le_of_ble_eq_true rfl) ?_
  intro p e s m below meth c ls cx hr hlk hB hl
  have hl : lv_has ls 3 [(0, .ref mo), (1, .int (q_i a0))] := hl
  obtain ⟨H, hH⟩ : ∃ H : Heap, H = s.heap := ⟨_, rfl⟩
  obtain ⟨locs, hlocs⟩ : ∃ z : List Loc, z = [] := ⟨_, rfl⟩
  rw [← hH, ← hlocs] at hB
  rw [← hH, ← hlocs]
  refine q_bipush cx dX12_four_0 rfl ?_
  refine lv_istore_n (lv' := [(2, .int (q_i 24)), (0, .ref mo), (1, .int (q_i a0))]) cx.1 cx.2.1 dX12_four_2 rfl hl (by decide) rfl (fun ls hl => ?_)
  refine q_ild_n cx dX12_four_3 rfl (lv_at hl 0 rfl) ?_
  refine q_iflt (tgt := 39) cx ⟨by decide, by decide⟩ dX12_four_4 (by decide) (fun c54 => ?_) (fun c54 => ?_)
  · exact absurd c54 (by omega)
  · refine q_ald_n cx dX12_four_7 rfl (lv_at hl 1 rfl) ?_
    refine q_gX12_7 cx hB hmo kmo hr0 dX12_four_8 (fun hb55 kb55 => ?_)
    refine q_ald_n cx dX12_four_11 rfl (lv_at hl 1 rfl) ?_
    refine q_gX12_82 cx hB hmo kmo hf0 dX12_four_12 (fun lb56 ub56 => ?_)
    refine q_ild_n cx dX12_four_15 rfl (lv_at hl 2 rfl) ?_
    refine q_ild_n cx dX12_four_16 rfl (lv_at hl 0 rfl) ?_
    refine q_ishr cx dX12_four_17 (fun y57 ry57 ey57 => ?_)
    refine q_sipush cx dX12_four_18 rfl ?_
    refine q_iandm cx 8 (by decide) rfl dX12_four_21 (fun y58 ly58 uy58 ey58 => ?_)
    refine q_iast (lo := 0) (hi := 255) (n := 600) cx hB hbu kbu (by decide) rfl rfl (by omega) (by omega) (by decide) rfl ⟨by omega, by omega⟩ (by omega) (by omega) (q_inWi (lo := 0) (hi := 596) (by decide) (by omega) (by omega)) dX12_four_22 (fun H locs f59 ef59 z60 hB => ?_)
    have z61 : q_is (q_z f59 mo 2) xn := by rw [ef59, q_setz (Or.inl (fun q => by rw [q, kbu] at kmo; exact absurd kmo (by decide)))]; exact hf0
    have z62 : q_ir (q_r f59 mo 1) bu := by rw [ef59, q_setr (Or.inl (fun q => by rw [q, kbu] at kmo; exact absurd kmo (by decide)))]; exact hr0
    refine q_ald_n cx dX12_four_23 rfl (lv_at hl 1 rfl) ?_
    refine lv_dup cx.1 cx.2.1 dX12_four_24 rfl ?_
    refine q_gX12_82 cx hB hmo kmo z61 dX12_four_25 (fun lb63 ub63 => ?_)
    refine q_iconst cx dX12_four_28 ?_
    refine q_iadd cx dX12_four_29 ?_
    refine q_pX12_82 cx hB hmo kmo ⟨by omega, by omega⟩ (by omega) (by omega) rfl dX12_four_30 (fun H locs f64 ef64 z65 hB => ?_)
    have z66 : q_ir (q_r f64 mo 1) bu := by rw [ef64, q_setr (Or.inr (by decide))]; exact z62
    refine q_iinc (lv' := [(2, .int (q_i (24 + (-8)))), (0, .ref mo), (1, .int (q_i a0))]) cx dX12_four_33 hl (k := 0) rfl (by decide) rfl (fun ls hl => ?_)
    refine lv_goto (tgt := 3) cx.1 cx.2.1 dX12_four_36 (by decide) ?_
    refine q_ild_n cx dX12_four_3 rfl (lv_at hl 0 rfl) ?_
    refine q_iflt (tgt := 39) cx ⟨by decide, by decide⟩ dX12_four_4 (by decide) (fun c67 => ?_) (fun c67 => ?_)
    · exact absurd c67 (by omega)
    · refine q_ald_n cx dX12_four_7 rfl (lv_at hl 1 rfl) ?_
      refine q_gX12_7 cx hB hmo kmo z66 dX12_four_8 (fun hb68 kb68 => ?_)
      refine q_ald_n cx dX12_four_11 rfl (lv_at hl 1 rfl) ?_
      refine q_gX12_82 cx hB hmo kmo z65 dX12_four_12 (fun lb69 ub69 => ?_)
      refine q_ild_n cx dX12_four_15 rfl (lv_at hl 2 rfl) ?_
      refine q_ild_n cx dX12_four_16 rfl (lv_at hl 0 rfl) ?_
      refine q_ishr cx dX12_four_17 (fun y70 ry70 ey70 => ?_)
      refine q_sipush cx dX12_four_18 rfl ?_
      refine q_iandm cx 8 (by decide) rfl dX12_four_21 (fun y71 ly71 uy71 ey71 => ?_)
      refine q_iast (lo := 0) (hi := 255) (n := 600) cx hB hbu kbu (by decide) rfl rfl (by omega) (by omega) (by decide) rfl ⟨by omega, by omega⟩ (by omega) (by omega) (q_inWi (lo := 1) (hi := 597) (by decide) (by omega) (by omega)) dX12_four_22 (fun H locs f72 ef72 z73 hB => ?_)
      have z74 : q_is (q_z f72 mo 2) (xn + 1) := by rw [ef72, q_setz (Or.inl (fun q => by rw [q, kbu] at kmo; exact absurd kmo (by decide)))]; exact z65
      have z75 : q_ir (q_r f72 mo 1) bu := by rw [ef72, q_setr (Or.inl (fun q => by rw [q, kbu] at kmo; exact absurd kmo (by decide)))]; exact z66
      refine q_ald_n cx dX12_four_23 rfl (lv_at hl 1 rfl) ?_
      refine lv_dup cx.1 cx.2.1 dX12_four_24 rfl ?_
      refine q_gX12_82 cx hB hmo kmo z74 dX12_four_25 (fun lb76 ub76 => ?_)
      refine q_iconst cx dX12_four_28 ?_
      refine q_iadd cx dX12_four_29 ?_
      refine q_pX12_82 cx hB hmo kmo ⟨by omega, by omega⟩ (by omega) (by omega) rfl dX12_four_30 (fun H locs f77 ef77 z78 hB => ?_)
      have z79 : q_ir (q_r f77 mo 1) bu := by rw [ef77, q_setr (Or.inr (by decide))]; exact z75
      refine q_iinc (lv' := [(2, .int (q_i ((24 + (-8)) + (-8)))), (0, .ref mo), (1, .int (q_i a0))]) cx dX12_four_33 hl (k := 0) rfl (by decide) rfl (fun ls hl => ?_)
      refine lv_goto (tgt := 3) cx.1 cx.2.1 dX12_four_36 (by decide) ?_
      refine q_ild_n cx dX12_four_3 rfl (lv_at hl 0 rfl) ?_
      refine q_iflt (tgt := 39) cx ⟨by decide, by decide⟩ dX12_four_4 (by decide) (fun c80 => ?_) (fun c80 => ?_)
      · exact absurd c80 (by omega)
      · refine q_ald_n cx dX12_four_7 rfl (lv_at hl 1 rfl) ?_
        refine q_gX12_7 cx hB hmo kmo z79 dX12_four_8 (fun hb81 kb81 => ?_)
        refine q_ald_n cx dX12_four_11 rfl (lv_at hl 1 rfl) ?_
        refine q_gX12_82 cx hB hmo kmo z78 dX12_four_12 (fun lb82 ub82 => ?_)
        refine q_ild_n cx dX12_four_15 rfl (lv_at hl 2 rfl) ?_
        refine q_ild_n cx dX12_four_16 rfl (lv_at hl 0 rfl) ?_
        refine q_ishr cx dX12_four_17 (fun y83 ry83 ey83 => ?_)
        refine q_sipush cx dX12_four_18 rfl ?_
        refine q_iandm cx 8 (by decide) rfl dX12_four_21 (fun y84 ly84 uy84 ey84 => ?_)
        refine q_iast (lo := 0) (hi := 255) (n := 600) cx hB hbu kbu (by decide) rfl rfl (by omega) (by omega) (by decide) rfl ⟨by omega, by omega⟩ (by omega) (by omega) (q_inWi (lo := 2) (hi := 598) (by decide) (by omega) (by omega)) dX12_four_22 (fun H locs f85 ef85 z86 hB => ?_)
        have z87 : q_is (q_z f85 mo 2) ((xn + 1) + 1) := by rw [ef85, q_setz (Or.inl (fun q => by rw [q, kbu] at kmo; exact absurd kmo (by decide)))]; exact z78
        have z88 : q_ir (q_r f85 mo 1) bu := by rw [ef85, q_setr (Or.inl (fun q => by rw [q, kbu] at kmo; exact absurd kmo (by decide)))]; exact z79
        refine q_ald_n cx dX12_four_23 rfl (lv_at hl 1 rfl) ?_
        refine lv_dup cx.1 cx.2.1 dX12_four_24 rfl ?_
        refine q_gX12_82 cx hB hmo kmo z87 dX12_four_25 (fun lb89 ub89 => ?_)
        refine q_iconst cx dX12_four_28 ?_
        refine q_iadd cx dX12_four_29 ?_
        refine q_pX12_82 cx hB hmo kmo ⟨by omega, by omega⟩ (by omega) (by omega) rfl dX12_four_30 (fun H locs f90 ef90 z91 hB => ?_)
        have z92 : q_ir (q_r f90 mo 1) bu := by rw [ef90, q_setr (Or.inr (by decide))]; exact z88
        refine q_iinc (lv' := [(2, .int (q_i (((24 + (-8)) + (-8)) + (-8)))), (0, .ref mo), (1, .int (q_i a0))]) cx dX12_four_33 hl (k := 0) rfl (by decide) rfl (fun ls hl => ?_)
        refine lv_goto (tgt := 3) cx.1 cx.2.1 dX12_four_36 (by decide) ?_
        refine q_ild_n cx dX12_four_3 rfl (lv_at hl 0 rfl) ?_
        refine q_iflt (tgt := 39) cx ⟨by decide, by decide⟩ dX12_four_4 (by decide) (fun c93 => ?_) (fun c93 => ?_)
        · exact absurd c93 (by omega)
        · refine q_ald_n cx dX12_four_7 rfl (lv_at hl 1 rfl) ?_
          refine q_gX12_7 cx hB hmo kmo z92 dX12_four_8 (fun hb94 kb94 => ?_)
          refine q_ald_n cx dX12_four_11 rfl (lv_at hl 1 rfl) ?_
          refine q_gX12_82 cx hB hmo kmo z91 dX12_four_12 (fun lb95 ub95 => ?_)
          refine q_ild_n cx dX12_four_15 rfl (lv_at hl 2 rfl) ?_
          refine q_ild_n cx dX12_four_16 rfl (lv_at hl 0 rfl) ?_
          refine q_ishr cx dX12_four_17 (fun y96 ry96 ey96 => ?_)
          refine q_sipush cx dX12_four_18 rfl ?_
          refine q_iandm cx 8 (by decide) rfl dX12_four_21 (fun y97 ly97 uy97 ey97 => ?_)
          refine q_iast (lo := 0) (hi := 255) (n := 600) cx hB hbu kbu (by decide) rfl rfl (by omega) (by omega) (by decide) rfl ⟨by omega, by omega⟩ (by omega) (by omega) (q_inWi (lo := 3) (hi := 599) (by decide) (by omega) (by omega)) dX12_four_22 (fun H locs f98 ef98 z99 hB => ?_)
          have z100 : q_is (q_z f98 mo 2) (((xn + 1) + 1) + 1) := by rw [ef98, q_setz (Or.inl (fun q => by rw [q, kbu] at kmo; exact absurd kmo (by decide)))]; exact z91
          have z101 : q_ir (q_r f98 mo 1) bu := by rw [ef98, q_setr (Or.inl (fun q => by rw [q, kbu] at kmo; exact absurd kmo (by decide)))]; exact z92
          refine q_ald_n cx dX12_four_23 rfl (lv_at hl 1 rfl) ?_
          refine lv_dup cx.1 cx.2.1 dX12_four_24 rfl ?_
          refine q_gX12_82 cx hB hmo kmo z100 dX12_four_25 (fun lb102 ub102 => ?_)
          refine q_iconst cx dX12_four_28 ?_
          refine q_iadd cx dX12_four_29 ?_
          refine q_pX12_82 cx hB hmo kmo ⟨by omega, by omega⟩ (by omega) (by omega) rfl dX12_four_30 (fun H locs f103 ef103 z104 hB => ?_)
          have z105 : q_ir (q_r f103 mo 1) bu := by rw [ef103, q_setr (Or.inr (by decide))]; exact z101
          refine q_iinc (lv' := [(2, .int (q_i ((((24 + (-8)) + (-8)) + (-8)) + (-8)))), (0, .ref mo), (1, .int (q_i a0))]) cx dX12_four_33 hl (k := 0) rfl (by decide) rfl (fun ls hl => ?_)
          refine lv_goto (tgt := 3) cx.1 cx.2.1 dX12_four_36 (by decide) ?_
          refine q_ild_n cx dX12_four_3 rfl (lv_at hl 0 rfl) ?_
          refine q_iflt (tgt := 39) cx ⟨by decide, by decide⟩ dX12_four_4 (by decide) (fun c106 => ?_) (fun c106 => ?_)
          · refine q_vret cx hr hlk hB dX12_four_39 ?_
            exact (Eq.trans z104 (by omega))
          · exact absurd c106 (by omega)
set_option maxHeartbeats 4000000 in
set_option maxRecDepth 100000 in
theorem r_feed_a (l : Launch) (g : q_G) {K : Nat → Nat} {L : List Nat} (hN : L.Nodup) {f : Nat → va_E} (hT : q_Ty g K L f) (mo : Nat) (hmo : mo ∈ L) (kmo : K mo = 12) (a0 : Int) (la0 : (-2147483648) ≤ a0) (ua0 : a0 ≤ 2147483647) (b0 : Int) (lb0 : (-2147483648) ≤ b0) (ub0 : b0 ≤ 2147483647) (c0 : Int) (lc0 : (-2147483648) ≤ c0) (uc0 : c0 ≤ 2147483647) (d0 : Int) (ld0 : (-2147483648) ≤ d0) (ud0 : d0 ≤ 2147483647) (e0 : Int) (le0 : (-2147483648) ≤ e0) (ue0 : e0 ≤ 2147483647) (bu : Nat) (hbu : bu ∈ L) (kbu : K bu = 150) (xn : Int) (lxn : 0 ≤ xn) (uxn : xn ≤ 580) (hf0 : q_is (q_z f mo 2) xn) (hr0 : q_ir (q_r f mo 1) bu) : q_Ct l g K L yX12_feed cX12_feed 6 (some .int) 2 41 [.ref mo, .int (q_i a0), .int (q_i b0), .int (q_i c0), .int (q_i d0), .int (q_i e0)] f [(12, 0, 0), (12, 2, 2), (150, 0, 599)] (q_Pi (fun (z : Int) (f1 : Nat → va_E) => z = (xn + 20) ∧ q_is (q_z f1 mo 2) (xn + 20) ∧ q_is (q_z f1 mo 0) 0)) := by
  refine q_ofb (by decide +kernel) hN hT (Nat.le_of_ble_eq_true rfl) ?_
  intro p e s m below meth c ls cx hr hlk hB hl
  have hl : lv_has ls 6 [(0, .ref mo), (1, .int (q_i a0)), (2, .int (q_i b0)), (3, .int (q_i c0)), (4, .int (q_i d0)), (5, .int (q_i e0))] := hl
  obtain ⟨H, hH⟩ : ∃ H : Heap, H = s.heap := ⟨_, rfl⟩
  obtain ⟨locs, hlocs⟩ : ∃ z : List Loc, z = [] := ⟨_, rfl⟩
  rw [← hH, ← hlocs] at hB
  rw [← hH, ← hlocs]
  refine q_ald_n cx dX12_feed_0 rfl (lv_at hl 0 rfl) ?_
  refine q_ald_n cx dX12_feed_1 rfl (lv_at hl 0 rfl) ?_
  refine q_gX12_82 cx hB hmo kmo hf0 dX12_feed_2 (fun lb41 ub41 => ?_)
  refine q_bipush cx dX12_feed_5 rfl ?_
  refine q_iadd cx dX12_feed_7 ?_
  refine q_sipush cx dX12_feed_8 rfl ?_
  refine q_icgt (tgt := 18) cx ⟨by omega, by omega⟩ ⟨by decide, by decide⟩ dX12_feed_11 (by decide) (fun c42 => ?_) (fun c42 => ?_)
  · exact absurd c42 (by omega)
  · refine q_iconst cx dX12_feed_14 ?_
    refine lv_goto (tgt := 19) cx.1 cx.2.1 dX12_feed_15 (by decide) ?_
    refine q_cVi (As := [.int (q_i 1)]) (rest := []) cx hB (fun _ h => h) hN hmo kmo (by decide) rfl (r_goes1 l g hN hB.2.1 mo hmo kmo 1 (by decide) (by decide)) q_cX12_85 q_dX12_goes (by decide) rfl rfl hl.1 rfl (Nat.le_of_ble_eq_true rfl) dX12_feed_19 (fun y44 H locs f43 ry44 h45 hF hB => ?_)
    obtain ⟨qy44, z46⟩ := h45
    have z47 : q_is (q_z f43 mo 2) xn := Eq.trans (hF.z hmo (by rw [kmo]; rfl)) hf0
    have z48 : q_ir (q_r f43 mo 1) bu := Eq.trans (hF.r hmo (by rw [kmo]; rfl)) hr0
    subst qy44
    refine q_ifne (tgt := 27) cx ⟨by decide, by decide⟩ dX12_feed_22 (by decide) (fun c49 => ?_) (fun c49 => ?_)
    · refine q_ald_n cx dX12_feed_27 rfl (lv_at hl 0 rfl) ?_
      refine q_ild_n cx dX12_feed_28 rfl (lv_at hl 1 rfl) ?_
      refine q_cVv (As := [.int (q_i a0)]) (rest := []) cx hB (fun _ h => h) hN hmo kmo (by decide) rfl (r_four l g hN hB.2.1 mo hmo kmo a0 (by omega) (by omega) bu hbu kbu xn (by omega) (by omega) z47 z48) q_cX12_89 q_dX12_four (by decide) rfl rfl hl.1 rfl (Nat.le_of_ble_eq_true rfl) dX12_feed_29 (fun H locs f50 h52 hF hB => ?_)
      have z53 := h52
      have z54 : q_is (q_z f50 mo 0) 0 := Eq.trans (hF.z hmo (by rw [kmo]; rfl)) z46
      have z55 : q_ir (q_r f50 mo 1) bu := Eq.trans (hF.r hmo (by rw [kmo]; rfl)) z48
      refine q_ald_n cx dX12_feed_32 rfl (lv_at hl 0 rfl) ?_
      refine q_ild_n cx dX12_feed_33 rfl (lv_at hl 2 rfl) ?_
      refine q_cVv (As := [.int (q_i b0)]) (rest := []) cx hB (fun _ h => h) hN hmo kmo (by decide) rfl (r_four l g hN hB.2.1 mo hmo kmo b0 (by omega) (by omega) bu hbu kbu (xn + 4) (by omega) (by omega) z53 z55) q_cX12_89 q_dX12_four (by decide) rfl rfl hl.1 rfl (Nat.le_of_ble_eq_true rfl) dX12_feed_34 (fun H locs f56 h58 hF hB => ?_)
      have z59 := h58
      have z60 : q_is (q_z f56 mo 0) 0 := Eq.trans (hF.z hmo (by rw [kmo]; rfl)) z54
      have z61 : q_ir (q_r f56 mo 1) bu := Eq.trans (hF.r hmo (by rw [kmo]; rfl)) z55
      refine q_ald_n cx dX12_feed_37 rfl (lv_at hl 0 rfl) ?_
      refine q_ild_n cx dX12_feed_38 rfl (lv_at hl 3 rfl) ?_
      refine q_cVv (As := [.int (q_i c0)]) (rest := []) cx hB (fun _ h => h) hN hmo kmo (by decide) rfl (r_four l g hN hB.2.1 mo hmo kmo c0 (by omega) (by omega) bu hbu kbu ((xn + 4) + 4) (by omega) (by omega) z59 z61) q_cX12_89 q_dX12_four (by decide) rfl rfl hl.1 rfl (Nat.le_of_ble_eq_true rfl) dX12_feed_39 (fun H locs f62 h64 hF hB => ?_)
      have z65 := h64
      have z66 : q_is (q_z f62 mo 0) 0 := Eq.trans (hF.z hmo (by rw [kmo]; rfl)) z60
      have z67 : q_ir (q_r f62 mo 1) bu := Eq.trans (hF.r hmo (by rw [kmo]; rfl)) z61
      refine q_ald_n cx dX12_feed_42 rfl (lv_at hl 0 rfl) ?_
      refine lv_iload cx.1 cx.2.1 dX12_feed_43 (lv_at hl 4 rfl) ?_
      refine q_cVv (As := [.int (q_i d0)]) (rest := []) cx hB (fun _ h => h) hN hmo kmo (by decide) rfl (r_four l g hN hB.2.1 mo hmo kmo d0 (by omega) (by omega) bu hbu kbu (((xn + 4) + 4) + 4) (by omega) (by omega) z65 z67) q_cX12_89 q_dX12_four (by decide) rfl rfl hl.1 rfl (Nat.le_of_ble_eq_true rfl) dX12_feed_45 (fun H locs f68 h70 hF hB => ?_)
      have z71 := h70
      have z72 : q_is (q_z f68 mo 0) 0 := Eq.trans (hF.z hmo (by rw [kmo]; rfl)) z66
      have z73 : q_ir (q_r f68 mo 1) bu := Eq.trans (hF.r hmo (by rw [kmo]; rfl)) z67
      refine q_ald_n cx dX12_feed_48 rfl (lv_at hl 0 rfl) ?_
      refine lv_iload cx.1 cx.2.1 dX12_feed_49 (lv_at hl 5 rfl) ?_
      refine q_cVv (As := [.int (q_i e0)]) (rest := []) cx hB (fun _ h => h) hN hmo kmo (by decide) rfl (r_four l g hN hB.2.1 mo hmo kmo e0 (by omega) (by omega) bu hbu kbu ((((xn + 4) + 4) + 4) + 4) (by omega) (by omega) z71 z73) q_cX12_89 q_dX12_four (by decide) rfl rfl hl.1 rfl (Nat.le_of_ble_eq_true rfl) dX12_feed_51 (fun H locs f74 h76 hF hB => ?_)
      have z77 := h76
      have z78 : q_is (q_z f74 mo 0) 0 := Eq.trans (hF.z hmo (by rw [kmo]; rfl)) z72
      have z79 : q_ir (q_r f74 mo 1) bu := Eq.trans (hF.r hmo (by rw [kmo]; rfl)) z73
      refine q_ald_n cx dX12_feed_54 rfl (lv_at hl 0 rfl) ?_
      refine q_gX12_82 cx hB hmo kmo z77 dX12_feed_55 (fun lb80 ub80 => ?_)
      refine q_iret cx hr hlk hB dX12_feed_58 ⟨by omega, by omega⟩ ?_
      exact ⟨(by omega), (Eq.trans z77 (by omega)), z78⟩
    · exact absurd c49 (by omega)
set_option maxHeartbeats 4000000 in
set_option maxRecDepth 100000 in
theorem r_feed_b (l : Launch) (g : q_G) {K : Nat → Nat} {L : List Nat} (hN : L.Nodup) {f : Nat → va_E} (hT : q_Ty g K L f) (mo : Nat) (hmo : mo ∈ L) (kmo : K mo = 12) (a0 : Int) (la0 : (-2147483648) ≤ a0) (ua0 : a0 ≤ 2147483647) (b0 : Int) (lb0 : (-2147483648) ≤ b0) (ub0 : b0 ≤ 2147483647) (c0 : Int) (lc0 : (-2147483648) ≤ c0) (uc0 : c0 ≤ 2147483647) (d0 : Int) (ld0 : (-2147483648) ≤ d0) (ud0 : d0 ≤ 2147483647) (e0 : Int) (le0 : (-2147483648) ≤ e0) (ue0 : e0 ≤ 2147483647) (bu : Nat) (hbu : bu ∈ L) (kbu : K bu = 150) (xn : Int) (lxn : 581 ≤ xn) (uxn : xn ≤ 600) (hf0 : q_is (q_z f mo 2) xn) (hr0 : q_ir (q_r f mo 1) bu) : q_Ct l g K L yX12_feed cX12_feed 6 (some .int) 2 41 [.ref mo, .int (q_i a0), .int (q_i b0), .int (q_i c0), .int (q_i d0), .int (q_i e0)] f [(12, 0, 0)] (q_Pi (fun (z : Int) (f1 : Nat → va_E) => z = 0 ∧ q_is (q_z f1 mo 2) xn ∧ q_is (q_z f1 mo 0) 1)) := by
  refine q_ofb (by decide +kernel) hN hT (Nat.le_of_ble_eq_true rfl) ?_
  intro p e s m below meth c ls cx hr hlk hB hl
  have hl : lv_has ls 6 [(0, .ref mo), (1, .int (q_i a0)), (2, .int (q_i b0)), (3, .int (q_i c0)), (4, .int (q_i d0)), (5, .int (q_i e0))] := hl
  obtain ⟨H, hH⟩ : ∃ H : Heap, H = s.heap := ⟨_, rfl⟩
  obtain ⟨locs, hlocs⟩ : ∃ z : List Loc, z = [] := ⟨_, rfl⟩
  rw [← hH, ← hlocs] at hB
  rw [← hH, ← hlocs]
  refine q_ald_n cx dX12_feed_0 rfl (lv_at hl 0 rfl) ?_
  refine q_ald_n cx dX12_feed_1 rfl (lv_at hl 0 rfl) ?_
  refine q_gX12_82 cx hB hmo kmo hf0 dX12_feed_2 (fun lb10 ub10 => ?_)
  refine q_bipush cx dX12_feed_5 rfl ?_
  refine q_iadd cx dX12_feed_7 ?_
  refine q_sipush cx dX12_feed_8 rfl ?_
  refine q_icgt (tgt := 18) cx ⟨by omega, by omega⟩ ⟨by decide, by decide⟩ dX12_feed_11 (by decide) (fun c11 => ?_) (fun c11 => ?_)
  · refine q_iconst cx dX12_feed_18 ?_
    refine q_cVi (As := [.int (q_i 0)]) (rest := []) cx hB (fun _ h => h) hN hmo kmo (by decide) rfl (r_goes0 l g hN hB.2.1 mo hmo kmo 0 (by decide) (by decide)) q_cX12_85 q_dX12_goes (by decide) rfl rfl hl.1 rfl (Nat.le_of_ble_eq_true rfl) dX12_feed_19 (fun y13 H locs f12 ry13 h14 hF hB => ?_)
    obtain ⟨qy13, z15⟩ := h14
    have z16 : q_is (q_z f12 mo 2) xn := Eq.trans (hF.z hmo (by rw [kmo]; rfl)) hf0
    have z17 : q_ir (q_r f12 mo 1) bu := Eq.trans (hF.r hmo (by rw [kmo]; rfl)) hr0
    subst qy13
    refine q_ifne (tgt := 27) cx ⟨by decide, by decide⟩ dX12_feed_22 (by decide) (fun c18 => ?_) (fun c18 => ?_)
    · exact absurd c18 (by omega)
    · refine q_iconst cx dX12_feed_25 ?_
      refine q_iret cx hr hlk hB dX12_feed_26 ⟨by decide, by decide⟩ ?_
      exact ⟨rfl, z16, z15⟩
  · exact absurd c11 (by omega)
set_option maxHeartbeats 4000000 in
set_option maxRecDepth 100000 in
theorem r_truncate_a (l : Launch) (g : q_G) {K : Nat → Nat} {L : List Nat} (hN : L.Nodup) {f : Nat → va_E} (hT : q_Ty g K L f) (mo : Nat) (hmo : mo ∈ L) (kmo : K mo = 12) (a0 : Int) (la0 : (-2147483648) ≤ a0) (ua0 : a0 ≤ (-1)) (xn : Int) (lxn : 0 ≤ xn) (uxn : xn ≤ 600) (hf0 : q_is (q_z f mo 2) xn) : q_Ct l g K L yX12_truncate cX12_truncate 2 (some .int) 2 41 [.ref mo, .int (q_i a0)] f [(12, 0, 0)] (q_Pi (fun (z : Int) (f1 : Nat → va_E) => z = 0 ∧ q_is (q_z f1 mo 2) xn ∧ q_is (q_z f1 mo 0) 1)) := by
  refine q_ofb (by decide +kernel) hN hT (Nat.le_of_ble_eq_true rfl) ?_
  intro p e s m below meth c ls cx hr hlk hB hl
  have hl : lv_has ls 2 [(0, .ref mo), (1, .int (q_i a0))] := hl
  obtain ⟨H, hH⟩ : ∃ H : Heap, H = s.heap := ⟨_, rfl⟩
  obtain ⟨locs, hlocs⟩ : ∃ z : List Loc, z = [] := ⟨_, rfl⟩
  rw [← hH, ← hlocs] at hB
  rw [← hH, ← hlocs]
  refine q_ald_n cx dX12_truncate_0 rfl (lv_at hl 0 rfl) ?_
  refine q_ild_n cx dX12_truncate_1 rfl (lv_at hl 1 rfl) ?_
  refine q_i2l cx ⟨by omega, by omega⟩ dX12_truncate_2 ?_
  refine q_lconst (z := 0) cx (by decide) dX12_truncate_3 ?_
  refine q_ald_n cx dX12_truncate_4 rfl (lv_at hl 0 rfl) ?_
  refine q_gX12_82 cx hB hmo kmo hf0 dX12_truncate_5 (fun lb16 ub16 => ?_)
  refine q_i2l cx ⟨by omega, by omega⟩ dX12_truncate_8 ?_
  refine q_cSi (As := [.long (q_l a0), .long (q_l 0), .long (q_l xn)]) (rest := [.ref mo]) cx hB (fun _ h => h) hN (r_isIn l g hN hB.2.1 a0 (by omega) (by omega) 0 (by decide) (by decide) xn (by omega) (by omega)) q_cX12_93 q_dX12_isIn (by decide) rfl rfl hl.1 rfl (Nat.le_of_ble_eq_true rfl) dX12_truncate_9 (fun y18 H locs f17 ry18 h19 hF hB => ?_)
  rcases h19 with h20 | h21
  · obtain ⟨rfl, qy18, t22, t23⟩ := h20
    subst qy18
    exact False.elim (by omega)
  · obtain ⟨rfl, qy18, t24⟩ := h21
    subst qy18
    refine q_cVi (As := [.int (q_i 0)]) (rest := []) cx hB (fun _ h => h) hN hmo kmo (by decide) rfl (r_goes0 l g hN hB.2.1 mo hmo kmo 0 (by decide) (by decide)) q_cX12_85 q_dX12_goes (by decide) rfl rfl hl.1 rfl (Nat.le_of_ble_eq_true rfl) dX12_truncate_12 (fun y26 H locs f25 ry26 h27 hF hB => ?_)
    obtain ⟨qy26, z28⟩ := h27
    have z29 : q_is (q_z f25 mo 2) xn := Eq.trans (hF.z hmo (by rw [kmo]; rfl)) hf0
    subst qy26
    refine q_ifne (tgt := 20) cx ⟨by decide, by decide⟩ dX12_truncate_15 (by decide) (fun c30 => ?_) (fun c30 => ?_)
    · exact absurd c30 (by omega)
    · refine q_iconst cx dX12_truncate_18 ?_
      refine q_iret cx hr hlk hB dX12_truncate_19 ⟨by decide, by decide⟩ ?_
      exact ⟨rfl, z29, z28⟩
set_option maxHeartbeats 4000000 in
set_option maxRecDepth 100000 in
theorem r_truncate_b (l : Launch) (g : q_G) {K : Nat → Nat} {L : List Nat} (hN : L.Nodup) {f : Nat → va_E} (hT : q_Ty g K L f) (mo : Nat) (hmo : mo ∈ L) (kmo : K mo = 12) (a0 : Int) (la0 : 0 ≤ a0) (ua0 : a0 ≤ 600) (xn : Int) (lxn : 0 ≤ xn) (uxn : xn ≤ 600) (hf0 : q_is (q_z f mo 2) xn) (hp0 : a0 ≤ xn) : q_Ct l g K L yX12_truncate cX12_truncate 2 (some .int) 2 41 [.ref mo, .int (q_i a0)] f [(12, 0, 0), (12, 2, 2)] (q_Pi (fun (z : Int) (f1 : Nat → va_E) => z = a0 ∧ q_is (q_z f1 mo 2) a0 ∧ q_is (q_z f1 mo 0) 0)) := by
  refine q_ofb (by decide +kernel) hN hT (Nat.le_of_ble_eq_true rfl) ?_
  intro p e s m below meth c ls cx hr hlk hB hl
  have hl : lv_has ls 2 [(0, .ref mo), (1, .int (q_i a0))] := hl
  obtain ⟨H, hH⟩ : ∃ H : Heap, H = s.heap := ⟨_, rfl⟩
  obtain ⟨locs, hlocs⟩ : ∃ z : List Loc, z = [] := ⟨_, rfl⟩
  rw [← hH, ← hlocs] at hB
  rw [← hH, ← hlocs]
  refine q_ald_n cx dX12_truncate_0 rfl (lv_at hl 0 rfl) ?_
  refine q_ild_n cx dX12_truncate_1 rfl (lv_at hl 1 rfl) ?_
  refine q_i2l cx ⟨by omega, by omega⟩ dX12_truncate_2 ?_
  refine q_lconst (z := 0) cx (by decide) dX12_truncate_3 ?_
  refine q_ald_n cx dX12_truncate_4 rfl (lv_at hl 0 rfl) ?_
  refine q_gX12_82 cx hB hmo kmo hf0 dX12_truncate_5 (fun lb19 ub19 => ?_)
  refine q_i2l cx ⟨by omega, by omega⟩ dX12_truncate_8 ?_
  refine q_cSi (As := [.long (q_l a0), .long (q_l 0), .long (q_l xn)]) (rest := [.ref mo]) cx hB (fun _ h => h) hN (r_isIn l g hN hB.2.1 a0 (by omega) (by omega) 0 (by decide) (by decide) xn (by omega) (by omega)) q_cX12_93 q_dX12_isIn (by decide) rfl rfl hl.1 rfl (Nat.le_of_ble_eq_true rfl) dX12_truncate_9 (fun y21 H locs f20 ry21 h22 hF hB => ?_)
  rcases h22 with h23 | h24
  · obtain ⟨rfl, qy21, t25, t26⟩ := h23
    subst qy21
    refine q_cVi (As := [.int (q_i 1)]) (rest := []) cx hB (fun _ h => h) hN hmo kmo (by decide) rfl (r_goes1 l g hN hB.2.1 mo hmo kmo 1 (by decide) (by decide)) q_cX12_85 q_dX12_goes (by decide) rfl rfl hl.1 rfl (Nat.le_of_ble_eq_true rfl) dX12_truncate_12 (fun y28 H locs f27 ry28 h29 hF hB => ?_)
    obtain ⟨qy28, z30⟩ := h29
    have z31 : q_is (q_z f27 mo 2) xn := Eq.trans (hF.z hmo (by rw [kmo]; rfl)) hf0
    subst qy28
    refine q_ifne (tgt := 20) cx ⟨by decide, by decide⟩ dX12_truncate_15 (by decide) (fun c32 => ?_) (fun c32 => ?_)
    · refine q_ald_n cx dX12_truncate_20 rfl (lv_at hl 0 rfl) ?_
      refine q_ild_n cx dX12_truncate_21 rfl (lv_at hl 1 rfl) ?_
      refine q_pX12_82 cx hB hmo kmo ⟨by omega, by omega⟩ (by omega) (by omega) rfl dX12_truncate_22 (fun H locs f33 ef33 z34 hB => ?_)
      have z35 : q_is (q_z f33 mo 0) 0 := by rw [ef33, q_setz (Or.inr (by decide))]; exact z30
      refine q_ild_n cx dX12_truncate_25 rfl (lv_at hl 1 rfl) ?_
      refine q_iret cx hr hlk hB dX12_truncate_26 ⟨by omega, by omega⟩ ?_
      exact ⟨rfl, z34, z35⟩
    · exact absurd c32 (by omega)
  · obtain ⟨rfl, qy21, t36⟩ := h24
    subst qy21
    exact False.elim (by have h7 : _ ∨ _ := t36; omega)
set_option maxHeartbeats 4000000 in
set_option maxRecDepth 100000 in
theorem r_truncate_c (l : Launch) (g : q_G) {K : Nat → Nat} {L : List Nat} (hN : L.Nodup) {f : Nat → va_E} (hT : q_Ty g K L f) (mo : Nat) (hmo : mo ∈ L) (kmo : K mo = 12) (a0 : Int) (la0 : 0 ≤ a0) (ua0 : a0 ≤ 2147483647) (xn : Int) (lxn : 0 ≤ xn) (uxn : xn ≤ 600) (hf0 : q_is (q_z f mo 2) xn) (hp0 : xn < a0) : q_Ct l g K L yX12_truncate cX12_truncate 2 (some .int) 2 41 [.ref mo, .int (q_i a0)] f [(12, 0, 0)] (q_Pi (fun (z : Int) (f1 : Nat → va_E) => z = 0 ∧ q_is (q_z f1 mo 2) xn ∧ q_is (q_z f1 mo 0) 1)) := by
  refine q_ofb (by decide +kernel) hN hT (Nat.le_of_ble_eq_true rfl) ?_
  intro p e s m below meth c ls cx hr hlk hB hl
  have hl : lv_has ls 2 [(0, .ref mo), (1, .int (q_i a0))] := hl
  obtain ⟨H, hH⟩ : ∃ H : Heap, H = s.heap := ⟨_, rfl⟩
  obtain ⟨locs, hlocs⟩ : ∃ z : List Loc, z = [] := ⟨_, rfl⟩
  rw [← hH, ← hlocs] at hB
  rw [← hH, ← hlocs]
  refine q_ald_n cx dX12_truncate_0 rfl (lv_at hl 0 rfl) ?_
  refine q_ild_n cx dX12_truncate_1 rfl (lv_at hl 1 rfl) ?_
  refine q_i2l cx ⟨by omega, by omega⟩ dX12_truncate_2 ?_
  refine q_lconst (z := 0) cx (by decide) dX12_truncate_3 ?_
  refine q_ald_n cx dX12_truncate_4 rfl (lv_at hl 0 rfl) ?_
  refine q_gX12_82 cx hB hmo kmo hf0 dX12_truncate_5 (fun lb16 ub16 => ?_)
  refine q_i2l cx ⟨by omega, by omega⟩ dX12_truncate_8 ?_
  refine q_cSi (As := [.long (q_l a0), .long (q_l 0), .long (q_l xn)]) (rest := [.ref mo]) cx hB (fun _ h => h) hN (r_isIn l g hN hB.2.1 a0 (by omega) (by omega) 0 (by decide) (by decide) xn (by omega) (by omega)) q_cX12_93 q_dX12_isIn (by decide) rfl rfl hl.1 rfl (Nat.le_of_ble_eq_true rfl) dX12_truncate_9 (fun y18 H locs f17 ry18 h19 hF hB => ?_)
  rcases h19 with h20 | h21
  · obtain ⟨rfl, qy18, t22, t23⟩ := h20
    subst qy18
    exact False.elim (by omega)
  · obtain ⟨rfl, qy18, t24⟩ := h21
    subst qy18
    refine q_cVi (As := [.int (q_i 0)]) (rest := []) cx hB (fun _ h => h) hN hmo kmo (by decide) rfl (r_goes0 l g hN hB.2.1 mo hmo kmo 0 (by decide) (by decide)) q_cX12_85 q_dX12_goes (by decide) rfl rfl hl.1 rfl (Nat.le_of_ble_eq_true rfl) dX12_truncate_12 (fun y26 H locs f25 ry26 h27 hF hB => ?_)
    obtain ⟨qy26, z28⟩ := h27
    have z29 : q_is (q_z f25 mo 2) xn := Eq.trans (hF.z hmo (by rw [kmo]; rfl)) hf0
    subst qy26
    refine q_ifne (tgt := 20) cx ⟨by decide, by decide⟩ dX12_truncate_15 (by decide) (fun c30 => ?_) (fun c30 => ?_)
    · exact absurd c30 (by omega)
    · refine q_iconst cx dX12_truncate_18 ?_
      refine q_iret cx hr hlk hB dX12_truncate_19 ⟨by decide, by decide⟩ ?_
      exact ⟨rfl, z29, z28⟩
set_option maxHeartbeats 4000000 in
set_option maxRecDepth 100000 in
theorem r_errorCode (l : Launch) (g : q_G) {K : Nat → Nat} {L : List Nat} (hN : L.Nodup) {f : Nat → va_E} (hT : q_Ty g K L f) (mo : Nat) (hmo : mo ∈ L) (kmo : K mo = 12) : q_Ct l g K L yX12_errorCode cX12_errorCode 1 (some .int) 0 0 [.ref mo] f [(12, 0, 0)] (q_Pi (fun (z : Int) (f1 : Nat → va_E) => True)) := by
  refine q_ofb (by decide +kernel) hN hT (Nat.le_of_ble_eq_true rfl) ?_
  intro p e s m below meth c ls cx hr hlk hB hl
  have hl : lv_has ls 1 [(0, .ref mo)] := hl
  obtain ⟨H, hH⟩ : ∃ H : Heap, H = s.heap := ⟨_, rfl⟩
  obtain ⟨locs, hlocs⟩ : ∃ z : List Loc, z = [] := ⟨_, rfl⟩
  rw [← hH, ← hlocs] at hB
  rw [← hH, ← hlocs]
  refine q_ald_n cx dX12_errorCode_0 rfl (lv_at hl 0 rfl) ?_
  refine q_iconst cx dX12_errorCode_1 ?_
  refine q_pX12_75 cx hB hmo kmo ⟨by decide, by decide⟩ (by decide) (by decide) rfl dX12_errorCode_2 (fun H locs f5 ef5 z6 hB => ?_)
  refine q_ald_n cx dX12_errorCode_5 rfl (lv_at hl 0 rfl) ?_
  obtain ⟨x7, ex7⟩ : ∃ zz, q_is (q_z f5 mo 10) zz := ⟨_, q_isr _⟩
  refine q_gX12_151 cx hB hmo kmo ex7 dX12_errorCode_6 (fun lb8 ub8 => ?_)
  refine q_iret cx hr hlk hB dX12_errorCode_9 ⟨by omega, by omega⟩ ?_
  trivial
set_option maxHeartbeats 4000000 in
set_option maxRecDepth 100000 in
theorem r_errorPosition (l : Launch) (g : q_G) {K : Nat → Nat} {L : List Nat} (hN : L.Nodup) {f : Nat → va_E} (hT : q_Ty g K L f) (mo : Nat) (hmo : mo ∈ L) (kmo : K mo = 12) : q_Ct l g K L yX12_errorPosition cX12_errorPosition 1 (some .int) 0 0 [.ref mo] f [(12, 0, 0)] (q_Pi (fun (z : Int) (f1 : Nat → va_E) => True)) := by
  refine q_ofb (by decide +kernel) hN hT (Nat.le_of_ble_eq_true rfl) ?_
  intro p e s m below meth c ls cx hr hlk hB hl
  have hl : lv_has ls 1 [(0, .ref mo)] := hl
  obtain ⟨H, hH⟩ : ∃ H : Heap, H = s.heap := ⟨_, rfl⟩
  obtain ⟨locs, hlocs⟩ : ∃ z : List Loc, z = [] := ⟨_, rfl⟩
  rw [← hH, ← hlocs] at hB
  rw [← hH, ← hlocs]
  refine q_ald_n cx dX12_errorPosition_0 rfl (lv_at hl 0 rfl) ?_
  refine q_iconst cx dX12_errorPosition_1 ?_
  refine q_pX12_75 cx hB hmo kmo ⟨by decide, by decide⟩ (by decide) (by decide) rfl dX12_errorPosition_2 (fun H locs f5 ef5 z6 hB => ?_)
  refine q_ald_n cx dX12_errorPosition_5 rfl (lv_at hl 0 rfl) ?_
  obtain ⟨x7, ex7⟩ : ∃ zz, q_is (q_z f5 mo 11) zz := ⟨_, q_isr _⟩
  refine q_gX12_17 cx hB hmo kmo ex7 dX12_errorPosition_6 (fun lb8 ub8 => ?_)
  refine q_iret cx hr hlk hB dX12_errorPosition_9 ⟨by omega, by omega⟩ ?_
  trivial
set_option maxHeartbeats 4000000 in
set_option maxRecDepth 100000 in
theorem r_readText (l : Launch) (g : q_G) {K : Nat → Nat} {L : List Nat} (hN : L.Nodup) {f : Nat → va_E} (hT : q_Ty g K L f) (mo : Nat) (hmo : mo ∈ L) (kmo : K mo = 12) (sr : Nat) (hsr : sr ∈ L) (ksr : K sr = 151) (as : Nat) (has : as ∈ L) (kas : K as = 153) (nm : Nat) (hnm : nm ∈ L) (knm : K nm = 156) (anm : Nat) (hanm : anm ∈ L) (kanm : K anm = 158) (bu : Nat) (hbu : bu ∈ L) (kbu : K bu = 150) (pa : Nat) (hpa : pa ∈ L) (kpa : K pa = 155) (xt : Int) (lxt : 0 ≤ xt) (uxt : xt ≤ 9999) (xm : Int) (lxm : 0 ≤ xm) (uxm : xm ≤ 60) (hf0 : q_is (q_z f sr 3) xt) (hf1 : q_is (q_z f sr 4) xm) (hr0 : q_ir (q_r f mo 13) sr) (hr1 : q_ir (q_r f mo 15) as) (hr2 : q_ir (q_r f mo 18) nm) (hr3 : q_ir (q_r f mo 20) anm) (hr4 : q_ir (q_r f mo 1) bu) (hr5 : q_ir (q_r f mo 17) pa) (hgr : q_gr f sr) (hpk : q_pk f mo pa) : q_Ct l g K L yX12_readText cX12_readText 2 (some .int) 6 136 [.ref mo] f [(12, 0, 0), (12, 2, 12), (12, 21, 21), (12, 23, 23), (151, 0, 657), (153, 0, 657), (156, 0, 9), (158, 0, 9)] (q_Pi (fun (z : Int) (f1 : Nat → va_E) => 0 ≤ z ∧ z ≤ 10 ∧ 0 ≤ q_z f1 sr 3 ∧ q_z f1 sr 3 ≤ 9999 ∧ 0 ≤ q_z f1 sr 4 ∧ q_z f1 sr 4 ≤ 60 ∧ q_is (q_z f1 mo 2) 0 ∧ q_gr f1 sr ∧ (q_pk f1 mo pa))) := by
  refine q_ofb (by decide +kernel) hN hT (Nat.le_of_ble_eq_true rfl) ?_
  intro p e s m below meth c ls cx hr hlk hB hl
  have hl : lv_has ls 2 [(0, .ref mo)] := hl
  have J84 : ∀ (n : Nat) (f84 : Nat → va_E) (v84_1 : Int) (lv84_1 : 0 ≤ v84_1) (uv84_1 : v84_1 ≤ 10) (w84_mo_8 : Int) (lw84_mo_8 : 0 ≤ w84_mo_8) (uw84_mo_8 : w84_mo_8 ≤ 0) (w84_mo_2 : Int) (lw84_mo_2 : 0 ≤ w84_mo_2) (uw84_mo_2 : w84_mo_2 ≤ 0) (w84_as_2 : Int) (lw84_as_2 : 4 ≤ w84_as_2) (uw84_as_2 : w84_as_2 ≤ 60) (w84_sr_3 : Int) (lw84_sr_3 : 0 ≤ w84_sr_3) (uw84_sr_3 : w84_sr_3 ≤ 9999) (w84_sr_4 : Int) (lw84_sr_4 : 0 ≤ w84_sr_4) (uw84_sr_4 : w84_sr_4 ≤ 60) (hj_mo_8 : q_is (q_z f84 mo 8) w84_mo_8) (hj_mo_2 : q_is (q_z f84 mo 2) w84_mo_2) (hj_as_2 : q_is (q_z f84 as 2) w84_as_2) (hj_sr_3 : q_is (q_z f84 sr 3) w84_sr_3) (hj_sr_4 : q_is (q_z f84 sr 4) w84_sr_4) (hq_mo_13 : q_ir (q_r f84 mo 13) sr) (hq_mo_15 : q_ir (q_r f84 mo 15) as) (hq_mo_18 : q_ir (q_r f84 mo 18) nm) (hq_mo_20 : q_ir (q_r f84 mo 20) anm) (hq_mo_1 : q_ir (q_r f84 mo 1) bu) (hq_mo_17 : q_ir (q_r f84 mo 17) pa) (hgr84 : q_gr f84 sr) (hpk84 : q_pk f84 mo pa) (hmu : (Int.toNat (2147483647 - v84_1)) < n) (H : Heap) (locs : List Loc) (hB : q_B g K L (fun q => q ∈ L) [(12, 0, 0), (12, 2, 12), (12, 21, 21), (12, 23, 23), (151, 0, 657), (153, 0, 657), (156, 0, 9), (158, 0, 9)] f f84 s H locs) (ls : Array Slot) (hl : lv_has ls 2 [(0, .ref mo), (1, .int (q_i v84_1))]), W p l e { frames := 6, cells := 0, slots := 0, locals := 136 } s m ([.ref mo] : List Value).toArray below meth c H locs 0 0 (MQ below (q_Q g K L [(12, 0, 0), (12, 2, 12), (12, 21, 21), (12, 23, 23), (151, 0, 657), (153, 0, 657), (156, 0, 9), (158, 0, 9)] f (q_Pi (fun (z : Int) (f1 : Nat → va_E) => 0 ≤ z ∧ z ≤ 10 ∧ 0 ≤ q_z f1 sr 3 ∧ q_z f1 sr 3 ≤ 9999 ∧ 0 ≤ q_z f1 sr 4 ∧ q_z f1 sr 4 ≤ 60 ∧ q_is (q_z f1 mo 2) 0 ∧ q_gr f1 sr ∧ (q_pk f1 mo pa)))) ([.ref mo] : List Value).toArray s 0 0 (fun q => q ∈ L)) (F0 m 84 ls []) := by
    intro n
    induction n with
    | zero =>
      intro f84 v84_1 lv84_1 uv84_1 w84_mo_8 lw84_mo_8 uw84_mo_8 w84_mo_2 lw84_mo_2 uw84_mo_2 w84_as_2 lw84_as_2 uw84_as_2 w84_sr_3 lw84_sr_3 uw84_sr_3 w84_sr_4 lw84_sr_4 uw84_sr_4 hj_mo_8 hj_mo_2 hj_as_2 hj_sr_3 hj_sr_4 hq_mo_13 hq_mo_15 hq_mo_18 hq_mo_20 hq_mo_1 hq_mo_17 hgr84 hpk84 hmu
      exact absurd hmu (Nat.not_lt_zero _)
    | succ n ih84 =>
      intro f84 v84_1 lv84_1 uv84_1 w84_mo_8 lw84_mo_8 uw84_mo_8 w84_mo_2 lw84_mo_2 uw84_mo_2 w84_as_2 lw84_as_2 uw84_as_2 w84_sr_3 lw84_sr_3 uw84_sr_3 w84_sr_4 lw84_sr_4 uw84_sr_4 hj_mo_8 hj_mo_2 hj_as_2 hj_sr_3 hj_sr_4 hq_mo_13 hq_mo_15 hq_mo_18 hq_mo_20 hq_mo_1 hq_mo_17 hgr84 hpk84 hmu H locs hB ls hl
      refine q_ild_n cx dX12_readText_84 rfl (lv_at hl 1 rfl) ?_
      refine q_ald_n cx dX12_readText_85 rfl (lv_at hl 0 rfl) ?_
      refine q_gX12_20 cx hB hmo kmo hq_mo_13 dX12_readText_86 (fun hb935 kb935 => ?_)
      refine q_iconst cx dX12_readText_89 ?_
      obtain ⟨x936, ex936⟩ : ∃ zz, q_is (q_z f84 sr (Int.toNat 0)) zz := ⟨_, q_isr _⟩
      refine q_iald (lo := 0) (hi := 10) (n := 658) cx hB hsr ksr (by decide) rfl rfl (by decide) (by decide) (by decide) rfl ex936 dX12_readText_90 (fun lb937 ub937 => ?_)
      refine q_icge (tgt := 138) cx ⟨by omega, by omega⟩ ⟨by omega, by omega⟩ dX12_readText_91 (by decide) (fun c938 => ?_) (fun c938 => ?_)
      · refine q_ald_n cx dX12_readText_138 rfl (lv_at hl 0 rfl) ?_
        refine q_iconst cx dX12_readText_139 ?_
        refine q_pX12_158 cx hB hmo kmo ⟨by decide, by decide⟩ (by decide) (by decide) rfl dX12_readText_140 (fun H locs f939 ef939 z940 hB => ?_)
        have z941 : q_is (q_z f939 mo 8) w84_mo_8 := by rw [ef939, q_setz (Or.inr (by decide))]; exact hj_mo_8
        have z942 : q_is (q_z f939 mo 2) w84_mo_2 := by rw [ef939, q_setz (Or.inr (by decide))]; exact hj_mo_2
        have z943 : q_is (q_z f939 as 2) w84_as_2 := by rw [ef939, q_setz (Or.inr (by decide))]; exact hj_as_2
        have z944 : q_is (q_z f939 sr 3) w84_sr_3 := by rw [ef939, q_setz (Or.inr (by decide))]; exact hj_sr_3
        have z945 : q_is (q_z f939 sr 4) w84_sr_4 := by rw [ef939, q_setz (Or.inr (by decide))]; exact hj_sr_4
        have z946 : q_is (q_z f939 sr 0) x936 := by rw [ef939, q_setz (Or.inr (by decide))]; exact ex936
        have z947 : q_ir (q_r f939 mo 13) sr := by rw [ef939, q_setr (Or.inr (by decide))]; exact hq_mo_13
        have z948 : q_ir (q_r f939 mo 15) as := by rw [ef939, q_setr (Or.inr (by decide))]; exact hq_mo_15
        have z949 : q_ir (q_r f939 mo 18) nm := by rw [ef939, q_setr (Or.inr (by decide))]; exact hq_mo_18
        have z950 : q_ir (q_r f939 mo 20) anm := by rw [ef939, q_setr (Or.inr (by decide))]; exact hq_mo_20
        have z951 : q_ir (q_r f939 mo 1) bu := by rw [ef939, q_setr (Or.inr (by decide))]; exact hq_mo_1
        have z952 : q_ir (q_r f939 mo 17) pa := by rw [ef939, q_setr (Or.inr (by decide))]; exact hq_mo_17
        have g953 : q_gr f939 sr := q_gr_ne hgr84 ef939 (fun q => q_kne (k := 151) (k2 := 12) (by decide) ksr kmo q)
        have hpk0 : q_pk f939 mo pa := k_pk0 z940
        refine q_ald_n cx dX12_readText_143 rfl (lv_at hl 0 rfl) ?_
        refine q_gX12_20 cx hB hmo kmo z947 dX12_readText_144 (fun hb954 kb954 => ?_)
        refine q_iconst cx dX12_readText_147 ?_
        refine q_iald (lo := 0) (hi := 10) (n := 658) cx hB hsr ksr (by decide) rfl rfl (by decide) (by decide) (by decide) rfl z946 dX12_readText_148 (fun lb956 ub956 => ?_)
        refine q_iret cx hr hlk hB dX12_readText_149 ⟨by omega, by omega⟩ ?_
        exact ⟨(by omega), (by omega), (q_isl z944 (by omega)), (q_isu z944 (by omega)), (q_isl z945 (by omega)), (q_isu z945 (by omega)), (Eq.trans z942 (by omega)), g953, hpk0⟩
      · refine q_ald_n cx dX12_readText_94 rfl (lv_at hl 0 rfl) ?_
        refine q_ild_n cx dX12_readText_95 rfl (lv_at hl 1 rfl) ?_
        refine q_iconst cx dX12_readText_96 ?_
        refine q_ald_n cx dX12_readText_97 rfl (lv_at hl 0 rfl) ?_
        refine q_ild_n cx dX12_readText_98 rfl (lv_at hl 1 rfl) ?_
        refine q_iconst cx dX12_readText_99 ?_
        refine q_cVi (As := [.int (q_i v84_1), .int (q_i 0)]) (rest := [.int (q_i 0), .int (q_i v84_1), .ref mo]) cx hB (fun _ h => h) hN hmo kmo (by decide) rfl (r_ofNode0 l g hN hB.2.1 mo hmo kmo v84_1 (by omega) (by omega) 0 (by decide) (by decide) sr hsr ksr hq_mo_13 hgr84) q_cX12_256 q_dX12_ofNode (by decide) rfl rfl hl.1 rfl (Nat.le_of_ble_eq_true rfl) dX12_readText_100 (fun y958 H locs f957 ry958 h959 hF hB => ?_)
        obtain ⟨rfl, ly958, uy958⟩ := h959
        refine q_ald_n cx dX12_readText_103 rfl (lv_at hl 0 rfl) ?_
        refine q_gX12_20 cx hB hmo kmo hq_mo_13 dX12_readText_104 (fun hb960 kb960 => ?_)
        refine q_iconst cx dX12_readText_107 ?_
        obtain ⟨x961, ex961⟩ : ∃ zz, q_is (q_z f84 sr (Int.toNat 2)) zz := ⟨_, q_isr _⟩
        refine q_sald cx hB hsr ksr (by decide) (by decide) ex961 dX12_readText_108 (fun rx961 => ?_)
        obtain ⟨lx961, ux961⟩ : 4 ≤ x961 ∧ x961 ≤ 60 := q_isb ex961 (q_gr_at hgr84 (by decide) rfl)
        refine q_irem cx ⟨by omega, by omega⟩ ⟨by omega, by omega⟩ (by omega) dX12_readText_109 (fun y963 ey963 ay963 by963 ny963 => ?_)
        refine q_cVv (As := [.int (q_i v84_1), .int (q_i 0), .int (q_i y963)]) (rest := []) cx hB (fun _ h => h) hN hmo kmo (by decide) rfl (r_setsNode0 l g hN hB.2.1 mo hmo kmo v84_1 (by omega) (by omega) 0 (by decide) (by decide) y963 (by omega) (by omega) sr hsr ksr hq_mo_13 hgr84) q_cX12_202 q_dX12_setsNode (by decide) rfl rfl hl.1 rfl (Nat.le_of_ble_eq_true rfl) dX12_readText_110 (fun H locs f964 h966 hF hB => ?_)
        have g967 := h966
        have z968 : q_is (q_z f964 mo 8) w84_mo_8 := Eq.trans (hF.z hmo (by rw [kmo]; rfl)) hj_mo_8
        have z969 : q_is (q_z f964 mo 2) w84_mo_2 := Eq.trans (hF.z hmo (by rw [kmo]; rfl)) hj_mo_2
        have z970 : q_is (q_z f964 as 2) w84_as_2 := Eq.trans (hF.z has (by rw [kas]; rfl)) hj_as_2
        have z971 : q_is (q_z f964 sr 3) w84_sr_3 := Eq.trans (hF.z hsr (by rw [ksr]; rfl)) hj_sr_3
        have z972 : q_is (q_z f964 sr 4) w84_sr_4 := Eq.trans (hF.z hsr (by rw [ksr]; rfl)) hj_sr_4
        have z973 : q_is (q_z f964 sr 0) x936 := Eq.trans (hF.z hsr (by rw [ksr]; rfl)) ex936
        have z974 : q_is (q_z f964 sr 2) x961 := Eq.trans (hF.z hsr (by rw [ksr]; rfl)) ex961
        have z975 : q_ir (q_r f964 mo 13) sr := Eq.trans (hF.r hmo (by rw [kmo]; rfl)) hq_mo_13
        have z976 : q_ir (q_r f964 mo 15) as := Eq.trans (hF.r hmo (by rw [kmo]; rfl)) hq_mo_15
        have z977 : q_ir (q_r f964 mo 18) nm := Eq.trans (hF.r hmo (by rw [kmo]; rfl)) hq_mo_18
        have z978 : q_ir (q_r f964 mo 20) anm := Eq.trans (hF.r hmo (by rw [kmo]; rfl)) hq_mo_20
        have z979 : q_ir (q_r f964 mo 1) bu := Eq.trans (hF.r hmo (by rw [kmo]; rfl)) hq_mo_1
        have z980 : q_ir (q_r f964 mo 17) pa := Eq.trans (hF.r hmo (by rw [kmo]; rfl)) hq_mo_17
        have g981 : q_pk f964 mo pa := q_pk_tr hpk84 (hF.z hmo (by rw [kmo]; rfl)) (fun i9 => hF.z hpa (by rw [kpa]; rfl))
        refine q_ald_n cx dX12_readText_113 rfl (lv_at hl 0 rfl) ?_
        refine q_ild_n cx dX12_readText_114 rfl (lv_at hl 1 rfl) ?_
        refine q_iconst cx dX12_readText_115 ?_
        refine q_ald_n cx dX12_readText_116 rfl (lv_at hl 0 rfl) ?_
        refine q_ild_n cx dX12_readText_117 rfl (lv_at hl 1 rfl) ?_
        refine q_iconst cx dX12_readText_118 ?_
        refine q_cVi (As := [.int (q_i v84_1), .int (q_i 1)]) (rest := [.int (q_i 1), .int (q_i v84_1), .ref mo]) cx hB (fun _ h => h) hN hmo kmo (by decide) rfl (r_ofNode1 l g hN hB.2.1 mo hmo kmo v84_1 (by omega) (by omega) 1 (by decide) (by decide) sr hsr ksr z975 g967) q_cX12_256 q_dX12_ofNode (by decide) rfl rfl hl.1 rfl (Nat.le_of_ble_eq_true rfl) dX12_readText_119 (fun y983 H locs f982 ry983 h984 hF hB => ?_)
        obtain ⟨rfl, ly983, uy983⟩ := h984
        refine q_ald_n cx dX12_readText_122 rfl (lv_at hl 0 rfl) ?_
        refine q_gX12_20 cx hB hmo kmo z975 dX12_readText_123 (fun hb985 kb985 => ?_)
        refine q_iconst cx dX12_readText_126 ?_
        refine q_iald (lo := (-2147483648)) (hi := 2147483647) (n := 658) cx hB hsr ksr (by decide) rfl rfl (by decide) (by decide) (by decide) rfl z974 dX12_readText_127 (fun lb987 ub987 => ?_)
        refine q_irem cx ⟨by omega, by omega⟩ ⟨by omega, by omega⟩ (by omega) dX12_readText_128 (fun y988 ey988 ay988 by988 ny988 => ?_)
        refine q_cVv (As := [.int (q_i v84_1), .int (q_i 1), .int (q_i y988)]) (rest := []) cx hB (fun _ h => h) hN hmo kmo (by decide) rfl (r_setsNode1 l g hN hB.2.1 mo hmo kmo v84_1 (by omega) (by omega) 1 (by decide) (by decide) y988 (by omega) (by omega) sr hsr ksr z975 g967) q_cX12_202 q_dX12_setsNode (by decide) rfl rfl hl.1 rfl (Nat.le_of_ble_eq_true rfl) dX12_readText_129 (fun H locs f989 h991 hF hB => ?_)
        have g992 := h991
        have z993 : q_is (q_z f989 mo 8) w84_mo_8 := Eq.trans (hF.z hmo (by rw [kmo]; rfl)) z968
        have z994 : q_is (q_z f989 mo 2) w84_mo_2 := Eq.trans (hF.z hmo (by rw [kmo]; rfl)) z969
        have z995 : q_is (q_z f989 as 2) w84_as_2 := Eq.trans (hF.z has (by rw [kas]; rfl)) z970
        have z996 : q_is (q_z f989 sr 3) w84_sr_3 := Eq.trans (hF.z hsr (by rw [ksr]; rfl)) z971
        have z997 : q_is (q_z f989 sr 4) w84_sr_4 := Eq.trans (hF.z hsr (by rw [ksr]; rfl)) z972
        have z998 : q_is (q_z f989 sr 0) x936 := Eq.trans (hF.z hsr (by rw [ksr]; rfl)) z973
        have z999 : q_is (q_z f989 sr 2) x961 := Eq.trans (hF.z hsr (by rw [ksr]; rfl)) z974
        have z1000 : q_ir (q_r f989 mo 13) sr := Eq.trans (hF.r hmo (by rw [kmo]; rfl)) z975
        have z1001 : q_ir (q_r f989 mo 15) as := Eq.trans (hF.r hmo (by rw [kmo]; rfl)) z976
        have z1002 : q_ir (q_r f989 mo 18) nm := Eq.trans (hF.r hmo (by rw [kmo]; rfl)) z977
        have z1003 : q_ir (q_r f989 mo 20) anm := Eq.trans (hF.r hmo (by rw [kmo]; rfl)) z978
        have z1004 : q_ir (q_r f989 mo 1) bu := Eq.trans (hF.r hmo (by rw [kmo]; rfl)) z979
        have z1005 : q_ir (q_r f989 mo 17) pa := Eq.trans (hF.r hmo (by rw [kmo]; rfl)) z980
        have g1006 : q_pk f989 mo pa := q_pk_tr g981 (hF.z hmo (by rw [kmo]; rfl)) (fun i9 => hF.z hpa (by rw [kpa]; rfl))
        refine q_iinc (lv' := [(1, .int (q_i (v84_1 + 1))), (0, .ref mo)]) cx dX12_readText_132 hl (k := 1) rfl (by decide) rfl (fun ls hl => ?_)
        refine lv_goto (tgt := 84) cx.1 cx.2.1 dX12_readText_135 (by decide) ?_
        exact ih84 f989 (v84_1 + 1) (by omega) (by omega) w84_mo_8 (by omega) (by omega) w84_mo_2 (by omega) (by omega) w84_as_2 (by omega) (by omega) w84_sr_3 (by omega) (by omega) w84_sr_4 (by omega) (by omega) z993 z994 z995 z996 z997 z1000 z1001 z1002 z1003 z1004 z1005 g992 g1006 (by omega) H locs hB ls (lv_sub hl [1, 0] rfl)
  have J28 : ∀ (n : Nat) (f28 : Nat → va_E) (w28_mo_8 : Int) (lw28_mo_8 : 0 ≤ w28_mo_8) (uw28_mo_8 : w28_mo_8 ≤ 0) (w28_mo_2 : Int) (lw28_mo_2 : 0 ≤ w28_mo_2) (uw28_mo_2 : w28_mo_2 ≤ 0) (w28_as_2 : Int) (lw28_as_2 : 4 ≤ w28_as_2) (uw28_as_2 : w28_as_2 ≤ 60) (w28_sr_3 : Int) (lw28_sr_3 : 0 ≤ w28_sr_3) (uw28_sr_3 : w28_sr_3 ≤ 9999) (w28_sr_4 : Int) (lw28_sr_4 : 0 ≤ w28_sr_4) (uw28_sr_4 : w28_sr_4 ≤ 60) (hj_mo_8 : q_is (q_z f28 mo 8) w28_mo_8) (hj_mo_2 : q_is (q_z f28 mo 2) w28_mo_2) (hj_as_2 : q_is (q_z f28 as 2) w28_as_2) (hj_sr_3 : q_is (q_z f28 sr 3) w28_sr_3) (hj_sr_4 : q_is (q_z f28 sr 4) w28_sr_4) (hq_mo_13 : q_ir (q_r f28 mo 13) sr) (hq_mo_15 : q_ir (q_r f28 mo 15) as) (hq_mo_18 : q_ir (q_r f28 mo 18) nm) (hq_mo_20 : q_ir (q_r f28 mo 20) anm) (hq_mo_1 : q_ir (q_r f28 mo 1) bu) (hq_mo_17 : q_ir (q_r f28 mo 17) pa) (hgr28 : q_gr f28 sr) (hpk28 : q_pk f28 mo pa) (hmu : (Int.toNat (601 - w28_mo_4)) < n) (H : Heap) (locs : List Loc) (hB : q_B g K L (fun q => q ∈ L) [(12, 0, 0), (12, 2, 12), (12, 21, 21), (12, 23, 23), (151, 0, 657), (153, 0, 657), (156, 0, 9), (158, 0, 9)] f f28 s H locs) (ls : Array Slot) (hl : lv_has ls 2 [(0, .ref mo)]), W p l e { frames := 6, cells := 0, slots := 0, locals := 136 } s m ([.ref mo] : List Value).toArray below meth c H locs 0 0 (MQ below (q_Q g K L [(12, 0, 0), (12, 2, 12), (12, 21, 21), (12, 23, 23), (151, 0, 657), (153, 0, 657), (156, 0, 9), (158, 0, 9)] f (q_Pi (fun (z : Int) (f1 : Nat → va_E) => 0 ≤ z ∧ z ≤ 10 ∧ 0 ≤ q_z f1 sr 3 ∧ q_z f1 sr 3 ≤ 9999 ∧ 0 ≤ q_z f1 sr 4 ∧ q_z f1 sr 4 ≤ 60 ∧ q_is (q_z f1 mo 2) 0 ∧ q_gr f1 sr ∧ (q_pk f1 mo pa)))) ([.ref mo] : List Value).toArray s 0 0 (fun q => q ∈ L)) (F0 m 28 ls []) := by
    intro n
    induction n with
    | zero =>
      intro f28 w28_mo_8 lw28_mo_8 uw28_mo_8 w28_mo_2 lw28_mo_2 uw28_mo_2 w28_as_2 lw28_as_2 uw28_as_2 w28_sr_3 lw28_sr_3 uw28_sr_3 w28_sr_4 lw28_sr_4 uw28_sr_4 hj_mo_8 hj_mo_2 hj_as_2 hj_sr_3 hj_sr_4 hq_mo_13 hq_mo_15 hq_mo_18 hq_mo_20 hq_mo_1 hq_mo_17 hgr28 hpk28 hmu
      exact absurd hmu (Nat.not_lt_zero _)
    | succ n ih28 =>
      intro f28 w28_mo_8 lw28_mo_8 uw28_mo_8 w28_mo_2 lw28_mo_2 uw28_mo_2 w28_as_2 lw28_as_2 uw28_as_2 w28_sr_3 lw28_sr_3 uw28_sr_3 w28_sr_4 lw28_sr_4 uw28_sr_4 hj_mo_8 hj_mo_2 hj_as_2 hj_sr_3 hj_sr_4 hq_mo_13 hq_mo_15 hq_mo_18 hq_mo_20 hq_mo_1 hq_mo_17 hgr28 hpk28 hmu H locs hB ls hl
      refine q_ald_n cx dX12_readText_28 rfl (lv_at hl 0 rfl) ?_
      refine q_cVi (As := []) (rest := []) cx hB (fun _ h => h) hN hmo kmo (by decide) rfl (r_isGood0 l g hN hB.2.1 mo hmo kmo (Eq.trans hj_mo_8 (by omega))) q_cX12_130 q_dX12_isGood (by decide) rfl rfl hl.1 rfl (Nat.le_of_ble_eq_true rfl) dX12_readText_29 (fun y1008 H locs f1007 ry1008 h1009 hF hB => ?_)
      obtain ⟨rfl, qy1008⟩ := h1009
      subst qy1008
      refine q_ifeq (tgt := 49) cx ⟨by decide, by decide⟩ dX12_readText_32 (by decide) (fun c1010 => ?_) (fun c1010 => ?_)
      · exact absurd c1010 (by omega)
      · refine q_ald_n cx dX12_readText_35 rfl (lv_at hl 0 rfl) ?_
        obtain ⟨x1011, ex1011⟩ : ∃ zz, q_is (q_z f28 mo 6) zz := ⟨_, q_isr _⟩
        refine q_gX12_117 cx hB hmo kmo ex1011 dX12_readText_36 (fun lb1012 ub1012 => ?_)
        refine q_ifeq (tgt := 49) cx ⟨by omega, by omega⟩ dX12_readText_39 (by decide) (fun c1013 => ?_) (fun c1013 => ?_)
        · refine q_ald_n cx dX12_readText_49 rfl (lv_at hl 0 rfl) ?_
          refine q_cVi (As := []) (rest := []) cx hB (fun _ h => h) hN hmo kmo (by decide) rfl (r_endsText0 l g hN hB.2.1 mo hmo kmo (Eq.trans hj_mo_8 (by omega))) q_cX12_253 q_dX12_endsText (by decide) rfl rfl hl.1 rfl (Nat.le_of_ble_eq_true rfl) dX12_readText_50 (fun y1015 H locs f1014 ry1015 h1016 hF hB => ?_)
          obtain ⟨qy1015, z1017⟩ := h1016
          have z1018 : q_is (q_z f1014 mo 8) w28_mo_8 := Eq.trans (hF.z hmo (by rw [kmo]; rfl)) hj_mo_8
          have z1019 : q_is (q_z f1014 mo 2) w28_mo_2 := Eq.trans (hF.z hmo (by rw [kmo]; rfl)) hj_mo_2
          have z1020 : q_is (q_z f1014 as 2) w28_as_2 := Eq.trans (hF.z has (by rw [kas]; rfl)) hj_as_2
          have z1021 : q_is (q_z f1014 sr 3) w28_sr_3 := Eq.trans (hF.z hsr (by rw [ksr]; rfl)) hj_sr_3
          have z1022 : q_is (q_z f1014 sr 4) w28_sr_4 := Eq.trans (hF.z hsr (by rw [ksr]; rfl)) hj_sr_4
          have z1023 : q_is (q_z f1014 mo 6) x1011 := Eq.trans (hF.z hmo (by rw [kmo]; rfl)) ex1011
          have z1024 : q_ir (q_r f1014 mo 13) sr := Eq.trans (hF.r hmo (by rw [kmo]; rfl)) hq_mo_13
          have z1025 : q_ir (q_r f1014 mo 15) as := Eq.trans (hF.r hmo (by rw [kmo]; rfl)) hq_mo_15
          have z1026 : q_ir (q_r f1014 mo 18) nm := Eq.trans (hF.r hmo (by rw [kmo]; rfl)) hq_mo_18
          have z1027 : q_ir (q_r f1014 mo 20) anm := Eq.trans (hF.r hmo (by rw [kmo]; rfl)) hq_mo_20
          have z1028 : q_ir (q_r f1014 mo 1) bu := Eq.trans (hF.r hmo (by rw [kmo]; rfl)) hq_mo_1
          have z1029 : q_ir (q_r f1014 mo 17) pa := Eq.trans (hF.r hmo (by rw [kmo]; rfl)) hq_mo_17
          have g1030 : q_gr f1014 sr := q_gr_fr hgr28 (fun i9 _ => hF.z hsr (by rw [ksr]; rfl))
          have g1031 : q_pk f1014 mo pa := q_pk_tr hpk28 (hF.z hmo (by rw [kmo]; rfl)) (fun i9 => hF.z hpa (by rw [kpa]; rfl))
          subst qy1015
          refine q_ifne (tgt := 82) cx ⟨by decide, by decide⟩ dX12_readText_53 (by decide) (fun c1032 => ?_) (fun c1032 => ?_)
          · refine q_iconst cx dX12_readText_82 ?_
            refine lv_istore_n (lv' := [(1, .int (q_i 0)), (0, .ref mo)]) cx.1 cx.2.1 dX12_readText_83 rfl hl (by decide) rfl (fun ls hl => ?_)
            exact J84 ((Int.toNat (2147483647 - 0)) + 1) f1014 0 (by decide) (by decide) w28_mo_8 (by omega) (by omega) w28_mo_2 (by omega) (by omega) w28_as_2 (by omega) (by omega) w28_sr_3 (by omega) (by omega) w28_sr_4 (by omega) (by omega) z1018 z1019 z1020 z1021 z1022 z1024 z1025 z1026 z1027 z1028 z1029 g1030 g1031 (Nat.lt_succ_self _) H locs hB ls (lv_sub hl [1, 0] rfl)
          · exact absurd c1032 (by omega)
        · refine q_ald_n cx dX12_readText_42 rfl (lv_at hl 0 rfl) ?_
          obtain ⟨x1033, ex1033⟩ : ∃ zz, q_is (q_z f28 mo 4) zz := ⟨_, q_isr _⟩
          obtain ⟨lx1033, ux1033⟩ := q_isb ex1033 (q_fib hB.2.1 hmo kmo (by decide) rfl)
          refine q_cVv (As := []) (rest := []) cx hB (fun _ h => h) hN hmo kmo (by decide) rfl (r_statement0 l g hN hB.2.1 mo hmo kmo sr hsr ksr nm hnm knm bu hbu kbu x1033 (by omega) (by omega) (Eq.trans hj_mo_8 (by omega)) ex1033 hq_mo_13 hq_mo_18 hq_mo_1 hgr28) q_cX12_250 q_dX12_statement (by decide) rfl rfl hl.1 rfl (Nat.le_of_ble_eq_true rfl) dX12_readText_43 (fun H locs f1034 h1036 hF hB => ?_)
          rcases h1036 with h1037 | h1038
          · obtain ⟨z1039, t1040, g1041⟩ := h1037
            have z1042 : q_is (q_z f1034 mo 2) w28_mo_2 := Eq.trans (hF.z hmo (by rw [kmo]; rfl)) hj_mo_2
            have z1043 : q_is (q_z f1034 as 2) w28_as_2 := Eq.trans (hF.z has (by rw [kas]; rfl)) hj_as_2
            have z1044 : q_is (q_z f1034 sr 3) w28_sr_3 := Eq.trans (hF.z hsr (by rw [ksr]; rfl)) hj_sr_3
            have z1045 : q_is (q_z f1034 sr 4) w28_sr_4 := Eq.trans (hF.z hsr (by rw [ksr]; rfl)) hj_sr_4
            have z1046 : q_ir (q_r f1034 mo 13) sr := Eq.trans (hF.r hmo (by rw [kmo]; rfl)) hq_mo_13
            have z1047 : q_ir (q_r f1034 mo 15) as := Eq.trans (hF.r hmo (by rw [kmo]; rfl)) hq_mo_15
            have z1048 : q_ir (q_r f1034 mo 18) nm := Eq.trans (hF.r hmo (by rw [kmo]; rfl)) hq_mo_18
            have z1049 : q_ir (q_r f1034 mo 20) anm := Eq.trans (hF.r hmo (by rw [kmo]; rfl)) hq_mo_20
            have z1050 : q_ir (q_r f1034 mo 1) bu := Eq.trans (hF.r hmo (by rw [kmo]; rfl)) hq_mo_1
            have z1051 : q_ir (q_r f1034 mo 17) pa := Eq.trans (hF.r hmo (by rw [kmo]; rfl)) hq_mo_17
            have g1052 : q_pk f1034 mo pa := q_pk_tr hpk28 (hF.z hmo (by rw [kmo]; rfl)) (fun i9 => hF.z hpa (by rw [kpa]; rfl))
            obtain ⟨x1053, ex1053⟩ : ∃ zz, q_is (q_z f1034 mo 4) zz := ⟨_, q_isr _⟩
            obtain ⟨lx1053, ux1053⟩ := q_isb ex1053 (q_fib hB.2.1 hmo kmo (by decide) rfl)
            obtain ⟨x1054, ex1054⟩ : ∃ zz, q_is (q_z f1034 mo 6) zz := ⟨_, q_isr _⟩
            obtain ⟨lx1054, ux1054⟩ := q_isb ex1054 (q_fib hB.2.1 hmo kmo (by decide) rfl)
            replace t1040 := q_islt9 ex1053 t1040
            refine lv_goto (tgt := 28) cx.1 cx.2.1 dX12_readText_46 (by decide) ?_
            exact ih28 f1034 0 (by decide) (by decide) w28_mo_2 (by omega) (by omega) w28_as_2 (by omega) (by omega) w28_sr_3 (by omega) (by omega) w28_sr_4 (by omega) (by omega) z1039 z1042 z1043 z1044 z1045 z1046 z1047 z1048 z1049 z1050 z1051 g1041 g1052 (by omega) H locs hB ls (lv_sub hl [0] rfl)
          · obtain ⟨lz1055, uz1055⟩ := h1038
            have z1056 : q_is (q_z f1034 mo 2) w28_mo_2 := Eq.trans (hF.z hmo (by rw [kmo]; rfl)) hj_mo_2
            have z1057 : q_is (q_z f1034 as 2) w28_as_2 := Eq.trans (hF.z has (by rw [kas]; rfl)) hj_as_2
            have z1058 : q_is (q_z f1034 sr 3) w28_sr_3 := Eq.trans (hF.z hsr (by rw [ksr]; rfl)) hj_sr_3
            have z1059 : q_is (q_z f1034 sr 4) w28_sr_4 := Eq.trans (hF.z hsr (by rw [ksr]; rfl)) hj_sr_4
            have z1060 : q_ir (q_r f1034 mo 13) sr := Eq.trans (hF.r hmo (by rw [kmo]; rfl)) hq_mo_13
            have z1061 : q_ir (q_r f1034 mo 15) as := Eq.trans (hF.r hmo (by rw [kmo]; rfl)) hq_mo_15
            have z1062 : q_ir (q_r f1034 mo 18) nm := Eq.trans (hF.r hmo (by rw [kmo]; rfl)) hq_mo_18
            have z1063 : q_ir (q_r f1034 mo 20) anm := Eq.trans (hF.r hmo (by rw [kmo]; rfl)) hq_mo_20
            have z1064 : q_ir (q_r f1034 mo 1) bu := Eq.trans (hF.r hmo (by rw [kmo]; rfl)) hq_mo_1
            have z1065 : q_ir (q_r f1034 mo 17) pa := Eq.trans (hF.r hmo (by rw [kmo]; rfl)) hq_mo_17
            have g1066 : q_pk f1034 mo pa := q_pk_tr hpk28 (hF.z hmo (by rw [kmo]; rfl)) (fun i9 => hF.z hpa (by rw [kpa]; rfl))
            obtain ⟨x1067, ex1067⟩ : ∃ zz, q_is (q_z f1034 mo 8) zz := ⟨_, q_isr _⟩
            obtain ⟨lx1067, ux1067⟩ := q_isb ex1067 ⟨lz1055, uz1055⟩
            obtain ⟨x1068, ex1068⟩ : ∃ zz, q_is (q_z f1034 mo 4) zz := ⟨_, q_isr _⟩
            obtain ⟨lx1068, ux1068⟩ := q_isb ex1068 (q_fib hB.2.1 hmo kmo (by decide) rfl)
            obtain ⟨x1069, ex1069⟩ : ∃ zz, q_is (q_z f1034 mo 6) zz := ⟨_, q_isr _⟩
            obtain ⟨lx1069, ux1069⟩ := q_isb ex1069 (q_fib hB.2.1 hmo kmo (by decide) rfl)
            refine lv_goto (tgt := 28) cx.1 cx.2.1 dX12_readText_46 (by decide) ?_
            refine q_ald_n cx dX12_readText_28 rfl (lv_at hl 0 rfl) ?_
            refine q_cVi (As := []) (rest := []) cx hB (fun _ h => h) hN hmo kmo (by decide) rfl (r_isGood1 l g hN hB.2.1 mo hmo kmo x1067 (by omega) (by omega) ex1067) q_cX12_130 q_dX12_isGood (by decide) rfl rfl hl.1 rfl (Nat.le_of_ble_eq_true rfl) dX12_readText_29 (fun y1071 H locs f1070 ry1071 h1072 hF hB => ?_)
            obtain ⟨rfl, qy1071⟩ := h1072
            subst qy1071
            refine q_ifeq (tgt := 49) cx ⟨by decide, by decide⟩ dX12_readText_32 (by decide) (fun c1073 => ?_) (fun c1073 => ?_)
            · refine q_ald_n cx dX12_readText_49 rfl (lv_at hl 0 rfl) ?_
              refine q_cVi (As := []) (rest := []) cx hB (fun _ h => h) hN hmo kmo (by decide) rfl (r_endsText1 l g hN hB.2.1 mo hmo kmo x1067 (by omega) (by omega) ex1067) q_cX12_253 q_dX12_endsText (by decide) rfl rfl hl.1 rfl (Nat.le_of_ble_eq_true rfl) dX12_readText_50 (fun y1075 H locs f1074 ry1075 h1076 hF hB => ?_)
              obtain ⟨qy1075, z1077⟩ := h1076
              have z1078 : q_is (q_z f1074 mo 2) w28_mo_2 := Eq.trans (hF.z hmo (by rw [kmo]; rfl)) z1056
              have z1079 : q_is (q_z f1074 as 2) w28_as_2 := Eq.trans (hF.z has (by rw [kas]; rfl)) z1057
              have z1080 : q_is (q_z f1074 sr 3) w28_sr_3 := Eq.trans (hF.z hsr (by rw [ksr]; rfl)) z1058
              have z1081 : q_is (q_z f1074 sr 4) w28_sr_4 := Eq.trans (hF.z hsr (by rw [ksr]; rfl)) z1059
              have z1082 : q_is (q_z f1074 mo 8) x1067 := Eq.trans (hF.z hmo (by rw [kmo]; rfl)) ex1067
              have z1083 : q_is (q_z f1074 mo 4) x1068 := Eq.trans (hF.z hmo (by rw [kmo]; rfl)) ex1068
              have z1084 : q_is (q_z f1074 mo 6) x1069 := Eq.trans (hF.z hmo (by rw [kmo]; rfl)) ex1069
              have z1085 : q_ir (q_r f1074 mo 13) sr := Eq.trans (hF.r hmo (by rw [kmo]; rfl)) z1060
              have z1086 : q_ir (q_r f1074 mo 15) as := Eq.trans (hF.r hmo (by rw [kmo]; rfl)) z1061
              have z1087 : q_ir (q_r f1074 mo 18) nm := Eq.trans (hF.r hmo (by rw [kmo]; rfl)) z1062
              have z1088 : q_ir (q_r f1074 mo 20) anm := Eq.trans (hF.r hmo (by rw [kmo]; rfl)) z1063
              have z1089 : q_ir (q_r f1074 mo 1) bu := Eq.trans (hF.r hmo (by rw [kmo]; rfl)) z1064
              have z1090 : q_ir (q_r f1074 mo 17) pa := Eq.trans (hF.r hmo (by rw [kmo]; rfl)) z1065
              have g1091 : q_pk f1074 mo pa := q_pk_tr g1066 (hF.z hmo (by rw [kmo]; rfl)) (fun i9 => hF.z hpa (by rw [kpa]; rfl))
              subst qy1075
              refine q_ifne (tgt := 82) cx ⟨by decide, by decide⟩ dX12_readText_53 (by decide) (fun c1092 => ?_) (fun c1092 => ?_)
              · exact absurd c1092 (by omega)
              · refine q_ald_n cx dX12_readText_56 rfl (lv_at hl 0 rfl) ?_
                refine q_gX12_26 cx hB hmo kmo z1086 dX12_readText_57 (fun hb1093 kb1093 => ?_)
                refine q_iconst cx dX12_readText_60 ?_
                refine q_ald_n cx dX12_readText_61 rfl (lv_at hl 0 rfl) ?_
                refine q_gX12_20 cx hB hmo kmo z1085 dX12_readText_62 (fun hb1094 kb1094 => ?_)
                refine q_iconst cx dX12_readText_65 ?_
                refine q_cSv (As := [.ref as, .int (q_i 0), .ref sr, .int (q_i 0)]) (rest := []) cx hB (fun _ h => h) hN (r_copiesRow_as_sr l g hN hB.2.1 as has kas 0 (by decide) (by decide) sr hsr ksr 0 (by decide) (by decide) w28_as_2 (by omega) (by omega) z1079) q_cX12_154 q_dX12_copiesRow (by decide) rfl rfl hl.1 rfl (Nat.le_of_ble_eq_true rfl) dX12_readText_66 (fun H locs f1095 h1097 hF hB => ?_)
                obtain ⟨lz1098, uz1098, lz1099, uz1099, t1100, g1101⟩ := h1097
                have z1102 : q_is (q_z f1095 mo 2) w28_mo_2 := Eq.trans (hF.z hmo (by rw [kmo]; rfl)) z1078
                have z1103 : q_is (q_z f1095 as 2) w28_as_2 := Eq.trans (hF.z has (by rw [kas]; rfl)) z1079
                have z1104 : q_is (q_z f1095 mo 8) x1067 := Eq.trans (hF.z hmo (by rw [kmo]; rfl)) z1082
                have z1105 : q_is (q_z f1095 mo 4) x1068 := Eq.trans (hF.z hmo (by rw [kmo]; rfl)) z1083
                have z1106 : q_is (q_z f1095 mo 6) x1069 := Eq.trans (hF.z hmo (by rw [kmo]; rfl)) z1084
                have z1107 : q_is (q_z f1095 mo 0) 1 := Eq.trans (hF.z hmo (by rw [kmo]; rfl)) z1077
                have z1108 : q_ir (q_r f1095 mo 13) sr := Eq.trans (hF.r hmo (by rw [kmo]; rfl)) z1085
                have z1109 : q_ir (q_r f1095 mo 15) as := Eq.trans (hF.r hmo (by rw [kmo]; rfl)) z1086
                have z1110 : q_ir (q_r f1095 mo 18) nm := Eq.trans (hF.r hmo (by rw [kmo]; rfl)) z1087
                have z1111 : q_ir (q_r f1095 mo 20) anm := Eq.trans (hF.r hmo (by rw [kmo]; rfl)) z1088
                have z1112 : q_ir (q_r f1095 mo 1) bu := Eq.trans (hF.r hmo (by rw [kmo]; rfl)) z1089
                have z1113 : q_ir (q_r f1095 mo 17) pa := Eq.trans (hF.r hmo (by rw [kmo]; rfl)) z1090
                have g1114 : q_pk f1095 mo pa := q_pk_tr g1091 (hF.z hmo (by rw [kmo]; rfl)) (fun i9 => hF.z hpa (by rw [kpa]; rfl))
                obtain ⟨x1115, ex1115⟩ : ∃ zz, q_is (q_z f1095 sr 3) zz := ⟨_, q_isr _⟩
                obtain ⟨lx1115, ux1115⟩ := q_isb ex1115 ⟨lz1098, uz1098⟩
                obtain ⟨x1116, ex1116⟩ : ∃ zz, q_is (q_z f1095 sr 4) zz := ⟨_, q_isr _⟩
                obtain ⟨lx1116, ux1116⟩ := q_isb ex1116 ⟨lz1099, uz1099⟩
                refine q_ald_n cx dX12_readText_69 rfl (lv_at hl 0 rfl) ?_
                refine q_gX12_42 cx hB hmo kmo z1111 dX12_readText_70 (fun hb1117 kb1117 => ?_)
                refine q_ald_n cx dX12_readText_73 rfl (lv_at hl 0 rfl) ?_
                refine q_gX12_35 cx hB hmo kmo z1110 dX12_readText_74 (fun hb1118 kb1118 => ?_)
                refine q_cSv (As := [.ref anm, .ref nm]) (rest := []) cx hB (fun _ h => h) hN (r_copiesNames_158_156 l g hN hB.2.1 anm hanm kanm nm hnm knm) q_cX12_164 q_dX12_copiesNames (by decide) rfl rfl hl.1 rfl (Nat.le_of_ble_eq_true rfl) dX12_readText_77 (fun H locs f1119 h1121 hF hB => ?_)
                have z1122 : q_is (q_z f1119 mo 2) w28_mo_2 := Eq.trans (hF.z hmo (by rw [kmo]; rfl)) z1102
                have z1123 : q_is (q_z f1119 as 2) w28_as_2 := Eq.trans (hF.z has (by rw [kas]; rfl)) z1103
                have z1124 : q_is (q_z f1119 mo 8) x1067 := Eq.trans (hF.z hmo (by rw [kmo]; rfl)) z1104
                have z1125 : q_is (q_z f1119 mo 4) x1068 := Eq.trans (hF.z hmo (by rw [kmo]; rfl)) z1105
                have z1126 : q_is (q_z f1119 mo 6) x1069 := Eq.trans (hF.z hmo (by rw [kmo]; rfl)) z1106
                have z1127 : q_is (q_z f1119 mo 0) 1 := Eq.trans (hF.z hmo (by rw [kmo]; rfl)) z1107
                have z1128 : q_is (q_z f1119 sr 3) x1115 := Eq.trans (hF.z hsr (by rw [ksr]; rfl)) ex1115
                have z1129 : q_is (q_z f1119 sr 4) x1116 := Eq.trans (hF.z hsr (by rw [ksr]; rfl)) ex1116
                have z1130 : q_ir (q_r f1119 mo 13) sr := Eq.trans (hF.r hmo (by rw [kmo]; rfl)) z1108
                have z1131 : q_ir (q_r f1119 mo 15) as := Eq.trans (hF.r hmo (by rw [kmo]; rfl)) z1109
                have z1132 : q_ir (q_r f1119 mo 18) nm := Eq.trans (hF.r hmo (by rw [kmo]; rfl)) z1110
                have z1133 : q_ir (q_r f1119 mo 20) anm := Eq.trans (hF.r hmo (by rw [kmo]; rfl)) z1111
                have z1134 : q_ir (q_r f1119 mo 1) bu := Eq.trans (hF.r hmo (by rw [kmo]; rfl)) z1112
                have z1135 : q_ir (q_r f1119 mo 17) pa := Eq.trans (hF.r hmo (by rw [kmo]; rfl)) z1113
                have g1136 : q_gr f1119 sr := q_gr_fr g1101 (fun i9 _ => hF.z hsr (by rw [ksr]; rfl))
                have g1137 : q_pk f1119 mo pa := q_pk_tr g1114 (hF.z hmo (by rw [kmo]; rfl)) (fun i9 => hF.z hpa (by rw [kpa]; rfl))
                refine q_iconst cx dX12_readText_80 ?_
                refine q_iret cx hr hlk hB dX12_readText_81 ⟨by decide, by decide⟩ ?_
                exact ⟨(by decide), (by decide), (q_isl z1128 (by omega)), (q_isu z1128 (by omega)), (q_isl z1129 (by omega)), (q_isu z1129 (by omega)), (Eq.trans z1122 (by omega)), g1136, g1137⟩
            · exact absurd c1073 (by omega)
  obtain ⟨H, hH⟩ : ∃ H : Heap, H = s.heap := ⟨_, rfl⟩
  obtain ⟨locs, hlocs⟩ : ∃ z : List Loc, z = [] := ⟨_, rfl⟩
  rw [← hH, ← hlocs] at hB
  rw [← hH, ← hlocs]
  refine q_ald_n cx dX12_readText_0 rfl (lv_at hl 0 rfl) ?_
  refine q_cVv (As := []) (rest := []) cx hB (fun _ h => h) hN hmo kmo (by decide) rfl (r_beginsText l g hN hB.2.1 mo hmo kmo bu hbu kbu hr4) q_cX12_244 q_dX12_beginsText (by decide) rfl rfl hl.1 rfl (Nat.le_of_ble_eq_true rfl) dX12_readText_1 (fun H locs f1138 h1140 hF hB => ?_)
  obtain ⟨z1141, z1142⟩ := h1140
  have z1143 : q_is (q_z f1138 sr 3) xt := Eq.trans (hF.z hsr (by rw [ksr]; rfl)) hf0
  have z1144 : q_is (q_z f1138 sr 4) xm := Eq.trans (hF.z hsr (by rw [ksr]; rfl)) hf1
  have z1145 : q_ir (q_r f1138 mo 13) sr := Eq.trans (hF.r hmo (by rw [kmo]; rfl)) hr0
  have z1146 : q_ir (q_r f1138 mo 15) as := Eq.trans (hF.r hmo (by rw [kmo]; rfl)) hr1
  have z1147 : q_ir (q_r f1138 mo 18) nm := Eq.trans (hF.r hmo (by rw [kmo]; rfl)) hr2
  have z1148 : q_ir (q_r f1138 mo 20) anm := Eq.trans (hF.r hmo (by rw [kmo]; rfl)) hr3
  have z1149 : q_ir (q_r f1138 mo 1) bu := Eq.trans (hF.r hmo (by rw [kmo]; rfl)) hr4
  have z1150 : q_ir (q_r f1138 mo 17) pa := Eq.trans (hF.r hmo (by rw [kmo]; rfl)) hr5
  have g1151 : q_gr f1138 sr := q_gr_fr hgr (fun i9 _ => hF.z hsr (by rw [ksr]; rfl))
  have g1152 : q_pk f1138 mo pa := q_pk_tr hpk (hF.z hmo (by rw [kmo]; rfl)) (fun i9 => hF.z hpa (by rw [kpa]; rfl))
  refine q_ald_n cx dX12_readText_4 rfl (lv_at hl 0 rfl) ?_
  refine q_cVv (As := []) (rest := []) cx hB (fun _ h => h) hN hmo kmo (by decide) rfl (r_laysAside l g hN hB.2.1 mo hmo kmo sr hsr ksr as has kas xt (by omega) (by omega) xm (by omega) (by omega) z1143 z1144 z1145 z1146 g1151) q_cX12_247 q_dX12_laysAside (by decide) rfl rfl hl.1 rfl (Nat.le_of_ble_eq_true rfl) dX12_readText_5 (fun H locs f1153 h1155 hF hB => ?_)
  obtain ⟨lz1156, uz1156⟩ := h1155
  have z1157 : q_is (q_z f1153 sr 3) xt := Eq.trans (hF.z hsr (by rw [ksr]; rfl)) z1143
  have z1158 : q_is (q_z f1153 sr 4) xm := Eq.trans (hF.z hsr (by rw [ksr]; rfl)) z1144
  have z1159 : q_is (q_z f1153 mo 8) 0 := Eq.trans (hF.z hmo (by rw [kmo]; rfl)) z1141
  have z1160 : q_is (q_z f1153 mo 2) 0 := Eq.trans (hF.z hmo (by rw [kmo]; rfl)) z1142
  have z1161 : q_ir (q_r f1153 mo 13) sr := Eq.trans (hF.r hmo (by rw [kmo]; rfl)) z1145
  have z1162 : q_ir (q_r f1153 mo 15) as := Eq.trans (hF.r hmo (by rw [kmo]; rfl)) z1146
  have z1163 : q_ir (q_r f1153 mo 18) nm := Eq.trans (hF.r hmo (by rw [kmo]; rfl)) z1147
  have z1164 : q_ir (q_r f1153 mo 20) anm := Eq.trans (hF.r hmo (by rw [kmo]; rfl)) z1148
  have z1165 : q_ir (q_r f1153 mo 1) bu := Eq.trans (hF.r hmo (by rw [kmo]; rfl)) z1149
  have z1166 : q_ir (q_r f1153 mo 17) pa := Eq.trans (hF.r hmo (by rw [kmo]; rfl)) z1150
  have g1167 : q_gr f1153 sr := q_gr_fr g1151 (fun i9 _ => hF.z hsr (by rw [ksr]; rfl))
  have g1168 : q_pk f1153 mo pa := q_pk_tr g1152 (hF.z hmo (by rw [kmo]; rfl)) (fun i9 => hF.z hpa (by rw [kpa]; rfl))
  obtain ⟨x1169, ex1169⟩ : ∃ zz, q_is (q_z f1153 as 2) zz := ⟨_, q_isr _⟩
  obtain ⟨lx1169, ux1169⟩ := q_isb ex1169 ⟨lz1156, uz1156⟩
  refine q_ald_n cx dX12_readText_8 rfl (lv_at hl 0 rfl) ?_
  refine q_gX12_35 cx hB hmo kmo z1163 dX12_readText_9 (fun hb1170 kb1170 => ?_)
  refine q_ald_n cx dX12_readText_12 rfl (lv_at hl 0 rfl) ?_
  refine q_gX12_42 cx hB hmo kmo z1164 dX12_readText_13 (fun hb1171 kb1171 => ?_)
  refine q_cSv (As := [.ref nm, .ref anm]) (rest := []) cx hB (fun _ h => h) hN (r_copiesNames_156_158 l g hN hB.2.1 nm hnm knm anm hanm kanm) q_cX12_164 q_dX12_copiesNames (by decide) rfl rfl hl.1 rfl (Nat.le_of_ble_eq_true rfl) dX12_readText_16 (fun H locs f1172 h1174 hF hB => ?_)
  have z1175 : q_is (q_z f1172 sr 3) xt := Eq.trans (hF.z hsr (by rw [ksr]; rfl)) z1157
  have z1176 : q_is (q_z f1172 sr 4) xm := Eq.trans (hF.z hsr (by rw [ksr]; rfl)) z1158
  have z1177 : q_is (q_z f1172 mo 8) 0 := Eq.trans (hF.z hmo (by rw [kmo]; rfl)) z1159
  have z1178 : q_is (q_z f1172 mo 2) 0 := Eq.trans (hF.z hmo (by rw [kmo]; rfl)) z1160
  have z1179 : q_is (q_z f1172 as 2) x1169 := Eq.trans (hF.z has (by rw [kas]; rfl)) ex1169
  have z1180 : q_ir (q_r f1172 mo 13) sr := Eq.trans (hF.r hmo (by rw [kmo]; rfl)) z1161
  have z1181 : q_ir (q_r f1172 mo 15) as := Eq.trans (hF.r hmo (by rw [kmo]; rfl)) z1162
  have z1182 : q_ir (q_r f1172 mo 18) nm := Eq.trans (hF.r hmo (by rw [kmo]; rfl)) z1163
  have z1183 : q_ir (q_r f1172 mo 20) anm := Eq.trans (hF.r hmo (by rw [kmo]; rfl)) z1164
  have z1184 : q_ir (q_r f1172 mo 1) bu := Eq.trans (hF.r hmo (by rw [kmo]; rfl)) z1165
  have z1185 : q_ir (q_r f1172 mo 17) pa := Eq.trans (hF.r hmo (by rw [kmo]; rfl)) z1166
  have g1186 : q_gr f1172 sr := q_gr_fr g1167 (fun i9 _ => hF.z hsr (by rw [ksr]; rfl))
  have g1187 : q_pk f1172 mo pa := q_pk_tr g1168 (hF.z hmo (by rw [kmo]; rfl)) (fun i9 => hF.z hpa (by rw [kpa]; rfl))
  refine q_ald_n cx dX12_readText_19 rfl (lv_at hl 0 rfl) ?_
  refine q_cVv (As := []) (rest := []) cx hB (fun _ h => h) hN hmo kmo (by decide) rfl (r_clears l g hN hB.2.1 mo hmo kmo sr hsr ksr nm hnm knm z1180 z1182) q_cX12_72 q_dX12_clears (by decide) rfl rfl hl.1 rfl (Nat.le_of_ble_eq_true rfl) dX12_readText_20 (fun H locs f1188 h1190 hF hB => ?_)
  obtain ⟨lz1191, uz1191, lz1192, uz1192, g1193⟩ := h1190
  have z1194 : q_is (q_z f1188 mo 8) 0 := Eq.trans (hF.z hmo (by rw [kmo]; rfl)) z1177
  have z1195 : q_is (q_z f1188 mo 2) 0 := Eq.trans (hF.z hmo (by rw [kmo]; rfl)) z1178
  have z1196 : q_is (q_z f1188 as 2) x1169 := Eq.trans (hF.z has (by rw [kas]; rfl)) z1179
  have z1197 : q_ir (q_r f1188 mo 13) sr := Eq.trans (hF.r hmo (by rw [kmo]; rfl)) z1180
  have z1198 : q_ir (q_r f1188 mo 15) as := Eq.trans (hF.r hmo (by rw [kmo]; rfl)) z1181
  have z1199 : q_ir (q_r f1188 mo 18) nm := Eq.trans (hF.r hmo (by rw [kmo]; rfl)) z1182
  have z1200 : q_ir (q_r f1188 mo 20) anm := Eq.trans (hF.r hmo (by rw [kmo]; rfl)) z1183
  have z1201 : q_ir (q_r f1188 mo 1) bu := Eq.trans (hF.r hmo (by rw [kmo]; rfl)) z1184
  have z1202 : q_ir (q_r f1188 mo 17) pa := Eq.trans (hF.r hmo (by rw [kmo]; rfl)) z1185
  have g1203 : q_pk f1188 mo pa := q_pk_tr g1187 (hF.z hmo (by rw [kmo]; rfl)) (fun i9 => hF.z hpa (by rw [kpa]; rfl))
  obtain ⟨x1204, ex1204⟩ : ∃ zz, q_is (q_z f1188 sr 3) zz := ⟨_, q_isr _⟩
  obtain ⟨lx1204, ux1204⟩ := q_isb ex1204 ⟨lz1191, uz1191⟩
  obtain ⟨x1205, ex1205⟩ : ∃ zz, q_is (q_z f1188 sr 4) zz := ⟨_, q_isr _⟩
  obtain ⟨lx1205, ux1205⟩ := q_isb ex1205 ⟨lz1192, uz1192⟩
  refine q_ald_n cx dX12_readText_23 rfl (lv_at hl 0 rfl) ?_
  refine q_iconst cx dX12_readText_24 ?_
  refine q_pX12_182 cx hB hmo kmo ⟨by decide, by decide⟩ (by decide) (by decide) rfl dX12_readText_25 (fun H locs f1206 ef1206 z1207 hB => ?_)
  have z1208 : q_is (q_z f1206 mo 8) 0 := by rw [ef1206, q_setz (Or.inr (by decide))]; exact z1194
  have z1209 : q_is (q_z f1206 mo 2) 0 := by rw [ef1206, q_setz (Or.inr (by decide))]; exact z1195
  have z1210 : q_is (q_z f1206 as 2) x1169 := by rw [ef1206, q_setz (Or.inr (by decide))]; exact z1196
  have z1211 : q_is (q_z f1206 sr 3) x1204 := by rw [ef1206, q_setz (Or.inr (by decide))]; exact ex1204
  have z1212 : q_is (q_z f1206 sr 4) x1205 := by rw [ef1206, q_setz (Or.inr (by decide))]; exact ex1205
  have z1213 : q_ir (q_r f1206 mo 13) sr := by rw [ef1206, q_setr (Or.inr (by decide))]; exact z1197
  have z1214 : q_ir (q_r f1206 mo 15) as := by rw [ef1206, q_setr (Or.inr (by decide))]; exact z1198
  have z1215 : q_ir (q_r f1206 mo 18) nm := by rw [ef1206, q_setr (Or.inr (by decide))]; exact z1199
  have z1216 : q_ir (q_r f1206 mo 20) anm := by rw [ef1206, q_setr (Or.inr (by decide))]; exact z1200
  have z1217 : q_ir (q_r f1206 mo 1) bu := by rw [ef1206, q_setr (Or.inr (by decide))]; exact z1201
  have z1218 : q_ir (q_r f1206 mo 17) pa := by rw [ef1206, q_setr (Or.inr (by decide))]; exact z1202
  have g1219 : q_gr f1206 sr := q_gr_ne g1193 ef1206 (fun q => q_kne (k := 151) (k2 := 12) (by decide) ksr kmo q)
  have g1220 : q_pk f1206 mo pa := q_pk_tr g1203 (by rw [ef1206, q_setz (Or.inr (by decide))]) (fun i9 => by rw [ef1206, q_setz (Or.inl (fun q => by rw [q, kmo] at kpa; exact absurd kpa (by decide)))])
  exact J28 ((Int.toNat (601 - w28_mo_4)) + 1) f1206 0 (by decide) (by decide) 0 (by decide) (by decide) x1169 (by omega) (by omega) x1204 (by omega) (by omega) x1205 (by omega) (by omega) z1208 z1209 z1210 z1211 z1212 z1213 z1214 z1215 z1216 z1217 z1218 g1219 g1220 (Nat.lt_succ_self _) H locs hB ls (lv_sub hl [0] rfl)
