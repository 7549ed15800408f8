set_option maxHeartbeats 4000000 in
set_option maxRecDepth 100000 in
theorem r_four (l : Launch) (g : q_G) {K : Nat → Nat} {L : List Nat} (hN : L.Nodup) {f : Nat → va_E} (hT : q_Ty g K L f) (mo : Nat) (hmo : mo ∈ L) (kmo : K mo = 12) (a0 : Int) (la0 : (-2147483648) ≤ a0) (ua0 : a0 ≤ 2147483647) (bu : Nat) (hbu : bu ∈ L) (kbu : K bu = 150) (xn : Int) (lxn : 0 ≤ xn) (uxn : xn ≤ 596) (hf0 : q_is (q_z f mo 2) xn) (hr0 : q_ir (q_r f mo 1) bu) : q_Ct l g K L yX12_four cX12_four 3 none 0 0 [.ref mo, .int (q_i a0)] f [(12, 2, 2), (150, 0, 599)] (q_Pv (fun (f1 : Nat → va_E) => q_is (q_z f1 mo 2) (xn + 4))) := by
  refine q_ofb (by decide +kernel) hN hT (Nat.le_of_ble_eq_true rfl) ?_
  intro p e s m below meth c ls cx hr hlk hB hl
  have hl : lv_has ls 3 [(0, .ref mo), (1, .int (q_i a0))] := hl
  obtain ⟨H, hH⟩ : ∃ H : Heap, H = s.heap := ⟨_, rfl⟩
  obtain ⟨locs, hlocs⟩ : ∃ z : List Loc, z = [] := ⟨_, rfl⟩
  rw [← hH, ← hlocs] at hB
  rw [← hH, ← hlocs]
  refine q_bipush cx dX12_four_0 rfl ?_
  refine lv_istore_n (lv' := [(2, .int (q_i 24)), (0, .ref mo), (1, .int (q_i a0))]) cx.1 cx.2.1 dX12_four_2 rfl hl (by decide) rfl (fun ls hl => ?_)
  refine q_ild_n cx dX12_four_3 rfl (lv_at hl 0 rfl) ?_
  refine q_iflt (tgt := 39) cx ⟨by decide, by decide⟩ dX12_four_4 (by decide) (fun c54 => ?_) (fun c54 => ?_)
  · exact absurd c54 (by omega)
  · refine q_ald_n cx dX12_four_7 rfl (lv_at hl 1 rfl) ?_
    refine q_gX12_7 cx hB hmo kmo hr0 dX12_four_8 (fun hb55 kb55 => ?_)
    refine q_ald_n cx dX12_four_11 rfl (lv_at hl 1 rfl) ?_
    refine q_gX12_82 cx hB hmo kmo hf0 dX12_four_12 (fun lb56 ub56 => ?_)
    refine q_ild_n cx dX12_four_15 rfl (lv_at hl 2 rfl) ?_
    refine q_ild_n cx dX12_four_16 rfl (lv_at hl 0 rfl) ?_
    refine q_ishr cx dX12_four_17 (fun y57 ry57 ey57 => ?_)
    refine q_sipush cx dX12_four_18 rfl ?_
    refine q_iandm cx 8 (by decide) rfl dX12_four_21 (fun y58 ly58 uy58 ey58 => ?_)
    refine q_iast (lo := 0) (hi := 255) (n := 600) cx hB hbu kbu (by decide) rfl rfl (by omega) (by omega) (by decide) rfl ⟨by omega, by omega⟩ (by omega) (by omega) (q_inWi (lo := 0) (hi := 596) (by decide) (by omega) (by omega)) dX12_four_22 (fun H locs f59 ef59 z60 hB => ?_)
    have z61 : q_is (q_z f59 mo 2) xn := by rw [ef59, q_setz (Or.inl (fun q => by rw [q, kbu] at kmo; exact absurd kmo (by decide)))]; exact hf0
    have z62 : q_ir (q_r f59 mo 1) bu := by rw [ef59, q_setr (Or.inl (fun q => by rw [q, kbu] at kmo; exact absurd kmo (by decide)))]; exact hr0
    refine q_ald_n cx dX12_four_23 rfl (lv_at hl 1 rfl) ?_
    refine lv_dup cx.1 cx.2.1 dX12_four_24 rfl ?_
    refine q_gX12_82 cx hB hmo kmo z61 dX12_four_25 (fun lb63 ub63 => ?_)
    refine q_iconst cx dX12_four_28 ?_
    refine q_iadd cx dX12_four_29 ?_
    refine q_pX12_82 cx hB hmo kmo ⟨by omega, by omega⟩ (by omega) (by omega) rfl dX12_four_30 (fun H locs f64 ef64 z65 hB => ?_)
    have z66 : q_ir (q_r f64 mo 1) bu := by rw [ef64, q_setr (Or.inr (by decide))]; exact z62
    refine q_iinc (lv' := [(2, .int (q_i (24 + (-8)))), (0, .ref mo), (1, .int (q_i a0))]) cx dX12_four_33 hl (k := 0) rfl (by decide) rfl (fun ls hl => ?_)
    refine lv_goto (tgt := 3) cx.1 cx.2.1 dX12_four_36 (by decide) ?_
    refine q_ild_n cx dX12_four_3 rfl (lv_at hl 0 rfl) ?_
    refine q_iflt (tgt := 39) cx ⟨by decide, by decide⟩ dX12_four_4 (by decide) (fun c67 => ?_) (fun c67 => ?_)
    · exact absurd c67 (by omega)
    · refine q_ald_n cx dX12_four_7 rfl (lv_at hl 1 rfl) ?_
      refine q_gX12_7 cx hB hmo kmo z66 dX12_four_8 (fun hb68 kb68 => ?_)
      refine q_ald_n cx dX12_four_11 rfl (lv_at hl 1 rfl) ?_
      refine q_gX12_82 cx hB hmo kmo z65 dX12_four_12 (fun lb69 ub69 => ?_)
      refine q_ild_n cx dX12_four_15 rfl (lv_at hl 2 rfl) ?_
      refine q_ild_n cx dX12_four_16 rfl (lv_at hl 0 rfl) ?_
      refine q_ishr cx dX12_four_17 (fun y70 ry70 ey70 => ?_)
      refine q_sipush cx dX12_four_18 rfl ?_
      refine q_iandm cx 8 (by decide) rfl dX12_four_21 (fun y71 ly71 uy71 ey71 => ?_)
      refine q_iast (lo := 0) (hi := 255) (n := 600) cx hB hbu kbu (by decide) rfl rfl (by omega) (by omega) (by decide) rfl ⟨by omega, by omega⟩ (by omega) (by omega) (q_inWi (lo := 1) (hi := 597) (by decide) (by omega) (by omega)) dX12_four_22 (fun H locs f72 ef72 z73 hB => ?_)
      have z74 : q_is (q_z f72 mo 2) (xn + 1) := by rw [ef72, q_setz (Or.inl (fun q => by rw [q, kbu] at kmo; exact absurd kmo (by decide)))]; exact z65
      have z75 : q_ir (q_r f72 mo 1) bu := by rw [ef72, q_setr (Or.inl (fun q => by rw [q, kbu] at kmo; exact absurd kmo (by decide)))]; exact z66
      refine q_ald_n cx dX12_four_23 rfl (lv_at hl 1 rfl) ?_
      refine lv_dup cx.1 cx.2.1 dX12_four_24 rfl ?_
      refine q_gX12_82 cx hB hmo kmo z74 dX12_four_25 (fun lb76 ub76 => ?_)
      refine q_iconst cx dX12_four_28 ?_
      refine q_iadd cx dX12_four_29 ?_
      refine q_pX12_82 cx hB hmo kmo ⟨by omega, by omega⟩ (by omega) (by omega) rfl dX12_four_30 (fun H locs f77 ef77 z78 hB => ?_)
      have z79 : q_ir (q_r f77 mo 1) bu := by rw [ef77, q_setr (Or.inr (by decide))]; exact z75
      refine q_iinc (lv' := [(2, .int (q_i ((24 + (-8)) + (-8)))), (0, .ref mo), (1, .int (q_i a0))]) cx dX12_four_33 hl (k := 0) rfl (by decide) rfl (fun ls hl => ?_)
      refine lv_goto (tgt := 3) cx.1 cx.2.1 dX12_four_36 (by decide) ?_
      refine q_ild_n cx dX12_four_3 rfl (lv_at hl 0 rfl) ?_
      refine q_iflt (tgt := 39) cx ⟨by decide, by decide⟩ dX12_four_4 (by decide) (fun c80 => ?_) (fun c80 => ?_)
      · exact absurd c80 (by omega)
      · refine q_ald_n cx dX12_four_7 rfl (lv_at hl 1 rfl) ?_
        refine q_gX12_7 cx hB hmo kmo z79 dX12_four_8 (fun hb81 kb81 => ?_)
        refine q_ald_n cx dX12_four_11 rfl (lv_at hl 1 rfl) ?_
        refine q_gX12_82 cx hB hmo kmo z78 dX12_four_12 (fun lb82 ub82 => ?_)
        refine q_ild_n cx dX12_four_15 rfl (lv_at hl 2 rfl) ?_
        refine q_ild_n cx dX12_four_16 rfl (lv_at hl 0 rfl) ?_
        refine q_ishr cx dX12_four_17 (fun y83 ry83 ey83 => ?_)
        refine q_sipush cx dX12_four_18 rfl ?_
        refine q_iandm cx 8 (by decide) rfl dX12_four_21 (fun y84 ly84 uy84 ey84 => ?_)
        refine q_iast (lo := 0) (hi := 255) (n := 600) cx hB hbu kbu (by decide) rfl rfl (by omega) (by omega) (by decide) rfl ⟨by omega, by omega⟩ (by omega) (by omega) (q_inWi (lo := 2) (hi := 598) (by decide) (by omega) (by omega)) dX12_four_22 (fun H locs f85 ef85 z86 hB => ?_)
        have z87 : q_is (q_z f85 mo 2) ((xn + 1) + 1) := by rw [ef85, q_setz (Or.inl (fun q => by rw [q, kbu] at kmo; exact absurd kmo (by decide)))]; exact z78
        have z88 : q_ir (q_r f85 mo 1) bu := by rw [ef85, q_setr (Or.inl (fun q => by rw [q, kbu] at kmo; exact absurd kmo (by decide)))]; exact z79
        refine q_ald_n cx dX12_four_23 rfl (lv_at hl 1 rfl) ?_
        refine lv_dup cx.1 cx.2.1 dX12_four_24 rfl ?_
        refine q_gX12_82 cx hB hmo kmo z87 dX12_four_25 (fun lb89 ub89 => ?_)
        refine q_iconst cx dX12_four_28 ?_
        refine q_iadd cx dX12_four_29 ?_
        refine q_pX12_82 cx hB hmo kmo ⟨by omega, by omega⟩ (by omega) (by omega) rfl dX12_four_30 (fun H locs f90 ef90 z91 hB => ?_)
        have z92 : q_ir (q_r f90 mo 1) bu := by rw [ef90, q_setr (Or.inr (by decide))]; exact z88
        refine q_iinc (lv' := [(2, .int (q_i (((24 + (-8)) + (-8)) + (-8)))), (0, .ref mo), (1, .int (q_i a0))]) cx dX12_four_33 hl (k := 0) rfl (by decide) rfl (fun ls hl => ?_)
        refine lv_goto (tgt := 3) cx.1 cx.2.1 dX12_four_36 (by decide) ?_
        refine q_ild_n cx dX12_four_3 rfl (lv_at hl 0 rfl) ?_
        refine q_iflt (tgt := 39) cx ⟨by decide, by decide⟩ dX12_four_4 (by decide) (fun c93 => ?_) (fun c93 => ?_)
        · exact absurd c93 (by omega)
        · refine q_ald_n cx dX12_four_7 rfl (lv_at hl 1 rfl) ?_
          refine q_gX12_7 cx hB hmo kmo z92 dX12_four_8 (fun hb94 kb94 => ?_)
          refine q_ald_n cx dX12_four_11 rfl (lv_at hl 1 rfl) ?_
          refine q_gX12_82 cx hB hmo kmo z91 dX12_four_12 (fun lb95 ub95 => ?_)
          refine q_ild_n cx dX12_four_15 rfl (lv_at hl 2 rfl) ?_
          refine q_ild_n cx dX12_four_16 rfl (lv_at hl 0 rfl) ?_
          refine q_ishr cx dX12_four_17 (fun y96 ry96 ey96 => ?_)
          refine q_sipush cx dX12_four_18 rfl ?_
          refine q_iandm cx 8 (by decide) rfl dX12_four_21 (fun y97 ly97 uy97 ey97 => ?_)
          refine q_iast (lo := 0) (hi := 255) (n := 600) cx hB hbu kbu (by decide) rfl rfl (by omega) (by omega) (by decide) rfl ⟨by omega, by omega⟩ (by omega) (by omega) (q_inWi (lo := 3) (hi := 599) (by decide) (by omega) (by omega)) dX12_four_22 (fun H locs f98 ef98 z99 hB => ?_)
          have z100 : q_is (q_z f98 mo 2) (((xn + 1) + 1) + 1) := by rw [ef98, q_setz (Or.inl (fun q => by rw [q, kbu] at kmo; exact absurd kmo (by decide)))]; exact z91
          have z101 : q_ir (q_r f98 mo 1) bu := by rw [ef98, q_setr (Or.inl (fun q => by rw [q, kbu] at kmo; exact absurd kmo (by decide)))]; exact z92
          refine q_ald_n cx dX12_four_23 rfl (lv_at hl 1 rfl) ?_
          refine lv_dup cx.1 cx.2.1 dX12_four_24 rfl ?_
          refine q_gX12_82 cx hB hmo kmo z100 dX12_four_25 (fun lb102 ub102 => ?_)
          refine q_iconst cx dX12_four_28 ?_
          refine q_iadd cx dX12_four_29 ?_
          refine q_pX12_82 cx hB hmo kmo ⟨by omega, by omega⟩ (by omega) (by omega) rfl dX12_four_30 (fun H locs f103 ef103 z104 hB => ?_)
          have z105 : q_ir (q_r f103 mo 1) bu := by rw [ef103, q_setr (Or.inr (by decide))]; exact z101
          refine q_iinc (lv' := [(2, .int (q_i ((((24 + (-8)) + (-8)) + (-8)) + (-8)))), (0, .ref mo), (1, .int (q_i a0))]) cx dX12_four_33 hl (k := 0) rfl (by decide) rfl (fun ls hl => ?_)
          refine lv_goto (tgt := 3) cx.1 cx.2.1 dX12_four_36 (by decide) ?_
          refine q_ild_n cx dX12_four_3 rfl (lv_at hl 0 rfl) ?_
          refine q_iflt (tgt := 39) cx ⟨by decide, by decide⟩ dX12_four_4 (by decide) (fun c106 => ?_) (fun c106 => ?_)
          · refine q_vret cx hr hlk hB dX12_four_39 ?_
            exact (Eq.trans z104 (by omega))
          · exact absurd c106 (by omega)
set_option maxHeartbeats 4000000 in
set_option maxRecDepth 100000 in
theorem r_feed_a (l : Launch) (g : q_G) {K : Nat → Nat} {L : List Nat} (hN : L.Nodup) {f : Nat → va_E} (hT : q_Ty g K L f) (mo : Nat) (hmo : mo ∈ L) (kmo : K mo = 12) (a0 : Int) (la0 : (-2147483648) ≤ a0) (ua0 : a0 ≤ 2147483647) (b0 : Int) (lb0 : (-2147483648) ≤ b0) (ub0 : b0 ≤ 2147483647) (c0 : Int) (lc0 : (-2147483648) ≤ c0) (uc0 : c0 ≤ 2147483647) (d0 : Int) (ld0 : (-2147483648) ≤ d0) (ud0 : d0 ≤ 2147483647) (e0 : Int) (le0 : (-2147483648) ≤ e0) (ue0 : e0 ≤ 2147483647) (bu : Nat) (hbu : bu ∈ L) (kbu : K bu = 150) (xn : Int) (lxn : 0 ≤ xn) (uxn : xn ≤ 580) (hf0 : q_is (q_z f mo 2) xn) (hr0 : q_ir (q_r f mo 1) bu) : q_Ct l g K L yX12_feed cX12_feed 6 (some .int) 2 41 [.ref mo, .int (q_i a0), .int (q_i b0), .int (q_i c0), .int (q_i d0), .int (q_i e0)] f [(12, 0, 0), (12, 2, 2), (150, 0, 599)] (q_Pi (fun (z : Int) (f1 : Nat → va_E) => z = (xn + 20) ∧ q_is (q_z f1 mo 2) (xn + 20) ∧ q_is (q_z f1 mo 0) 0)) := by
  refine q_ofb (by decide +kernel) hN hT (Nat.le_of_ble_eq_true rfl) ?_
  intro p e s m below meth c ls cx hr hlk hB hl
  have hl : lv_has ls 6 [(0, .ref mo), (1, .int (q_i a0)), (2, .int (q_i b0)), (3, .int (q_i c0)), (4, .int (q_i d0)), (5, .int (q_i e0))] := hl
  obtain ⟨H, hH⟩ : ∃ H : Heap, H = s.heap := ⟨_, rfl⟩
  obtain ⟨locs, hlocs⟩ : ∃ z : List Loc, z = [] := ⟨_, rfl⟩
  rw [← hH, ← hlocs] at hB
  rw [← hH, ← hlocs]
  refine q_ald_n cx dX12_feed_0 rfl (lv_at hl 0 rfl) ?_
  refine q_ald_n cx dX12_feed_1 rfl (lv_at hl 0 rfl) ?_
  refine q_gX12_82 cx hB hmo kmo hf0 dX12_feed_2 (fun lb41 ub41 => ?_)
  refine q_bipush cx dX12_feed_5 rfl ?_
  refine q_iadd cx dX12_feed_7 ?_
  refine q_sipush cx dX12_feed_8 rfl ?_
  refine q_icgt (tgt := 18) cx ⟨by omega, by omega⟩ ⟨by decide, by decide⟩ dX12_feed_11 (by decide) (fun c42 => ?_) (fun c42 => ?_)
  · exact absurd c42 (by omega)
  · refine q_iconst cx dX12_feed_14 ?_
    refine lv_goto (tgt := 19) cx.1 cx.2.1 dX12_feed_15 (by decide) ?_
    refine q_cVi (As := [.int (q_i 1)]) (rest := []) cx hB (fun _ h => h) hN hmo kmo (by decide) rfl (r_goes1 l g hN hB.2.1 mo hmo kmo 1 (by decide) (by decide)) q_cX12_85 q_dX12_goes (by decide) rfl rfl hl.1 rfl (Nat.le_of_ble_eq_true rfl) dX12_feed_19 (fun y44 H locs f43 ry44 h45 hF hB => ?_)
    obtain ⟨qy44, z46⟩ := h45
    have z47 : q_is (q_z f43 mo 2) xn := Eq.trans (hF.z hmo (by rw [kmo]; rfl)) hf0
    have z48 : q_ir (q_r f43 mo 1) bu := Eq.trans (hF.r hmo (by rw [kmo]; rfl)) hr0
    subst qy44
    refine q_ifne (tgt := 27) cx ⟨by decide, by decide⟩ dX12_feed_22 (by decide) (fun c49 => ?_) (fun c49 => ?_)
    · refine q_ald_n cx dX12_feed_27 rfl (lv_at hl 0 rfl) ?_
      refine q_ild_n cx dX12_feed_28 rfl (lv_at hl 1 rfl) ?_
      refine q_cVv (As := [.int (q_i a0)]) (rest := []) cx hB (fun _ h => h) hN hmo kmo (by decide) rfl (r_four l g hN hB.2.1 mo hmo kmo a0 (by omega) (by omega) bu hbu kbu xn (by omega) (by omega) z47 z48) q_cX12_89 q_dX12_four (by decide) rfl rfl hl.1 rfl (Nat.le_of_ble_eq_true rfl) dX12_feed_29 (fun H locs f50 h52 hF hB => ?_)
      have z53 := h52
      have z54 : q_is (q_z f50 mo 0) 0 := Eq.trans (hF.z hmo (by rw [kmo]; rfl)) z46
      have z55 : q_ir (q_r f50 mo 1) bu := Eq.trans (hF.r hmo (by rw [kmo]; rfl)) z48
      refine q_ald_n cx dX12_feed_32 rfl (lv_at hl 0 rfl) ?_
      refine q_ild_n cx dX12_feed_33 rfl (lv_at hl 2 rfl) ?_
      refine q_cVv (As := [.int (q_i b0)]) (rest := []) cx hB (fun _ h => h) hN hmo kmo (by decide) rfl (r_four l g hN hB.2.1 mo hmo kmo b0 (by omega) (by omega) bu hbu kbu (xn + 4) (by omega) (by omega) z53 z55) q_cX12_89 q_dX12_four (by decide) rfl rfl hl.1 rfl (Nat.le_of_ble_eq_true rfl) dX12_feed_34 (fun H locs f56 h58 hF hB => ?_)
      have z59 := h58
      have z60 : q_is (q_z f56 mo 0) 0 := Eq.trans (hF.z hmo (by rw [kmo]; rfl)) z54
      have z61 : q_ir (q_r f56 mo 1) bu := Eq.trans (hF.r hmo (by rw [kmo]; rfl)) z55
      refine q_ald_n cx dX12_feed_37 rfl (lv_at hl 0 rfl) ?_
      refine q_ild_n cx dX12_feed_38 rfl (lv_at hl 3 rfl) ?_
      refine q_cVv (As := [.int (q_i c0)]) (rest := []) cx hB (fun _ h => h) hN hmo kmo (by decide) rfl (r_four l g hN hB.2.1 mo hmo kmo c0 (by omega) (by omega) bu hbu kbu ((xn + 4) + 4) (by omega) (by omega) z59 z61) q_cX12_89 q_dX12_four (by decide) rfl rfl hl.1 rfl (Nat.le_of_ble_eq_true rfl) dX12_feed_39 (fun H locs f62 h64 hF hB => ?_)
      have z65 := h64
      have z66 : q_is (q_z f62 mo 0) 0 := Eq.trans (hF.z hmo (by rw [kmo]; rfl)) z60
      have z67 : q_ir (q_r f62 mo 1) bu := Eq.trans (hF.r hmo (by rw [kmo]; rfl)) z61
      refine q_ald_n cx dX12_feed_42 rfl (lv_at hl 0 rfl) ?_
      refine lv_iload cx.1 cx.2.1 dX12_feed_43 (lv_at hl 4 rfl) ?_
      refine q_cVv (As := [.int (q_i d0)]) (rest := []) cx hB (fun _ h => h) hN hmo kmo (by decide) rfl (r_four l g hN hB.2.1 mo hmo kmo d0 (by omega) (by omega) bu hbu kbu (((xn + 4) + 4) + 4) (by omega) (by omega) z65 z67) q_cX12_89 q_dX12_four (by decide) rfl rfl hl.1 rfl (Nat.le_of_ble_eq_true rfl) dX12_feed_45 (fun H locs f68 h70 hF hB => ?_)
      have z71 := h70
      have z72 : q_is (q_z f68 mo 0) 0 := Eq.trans (hF.z hmo (by rw [kmo]; rfl)) z66
      have z73 : q_ir (q_r f68 mo 1) bu := Eq.trans (hF.r hmo (by rw [kmo]; rfl)) z67
      refine q_ald_n cx dX12_feed_48 rfl (lv_at hl 0 rfl) ?_
      refine lv_iload cx.1 cx.2.1 dX12_feed_49 (lv_at hl 5 rfl) ?_
      refine q_cVv (As := [.int (q_i e0)]) (rest := []) cx hB (fun _ h => h) hN hmo kmo (by decide) rfl (r_four l g hN hB.2.1 mo hmo kmo e0 (by omega) (by omega) bu hbu kbu ((((xn + 4) + 4) + 4) + 4) (by omega) (by omega) z71 z73) q_cX12_89 q_dX12_four (by decide) rfl rfl hl.1 rfl (Nat.le_of_ble_eq_true rfl) dX12_feed_51 (fun H locs f74 h76 hF hB => ?_)
      have z77 := h76
      have z78 : q_is (q_z f74 mo 0) 0 := Eq.trans (hF.z hmo (by rw [kmo]; rfl)) z72
      have z79 : q_ir (q_r f74 mo 1) bu := Eq.trans (hF.r hmo (by rw [kmo]; rfl)) z73
      refine q_ald_n cx dX12_feed_54 rfl (lv_at hl 0 rfl) ?_
      refine q_gX12_82 cx hB hmo kmo z77 dX12_feed_55 (fun lb80 ub80 => ?_)
      refine q_iret cx hr hlk hB dX12_feed_58 ⟨by omega, by omega⟩ ?_
      exact ⟨(by omega), (Eq.trans z77 (by omega)), z78⟩
    · exact absurd c49 (by omega)
set_option maxHeartbeats 4000000 in
set_option maxRecDepth 100000 in
theorem r_feed_b (l : Launch) (g : q_G) {K : Nat → Nat} {L : List Nat} (hN : L.Nodup) {f : Nat → va_E} (hT : q_Ty g K L f) (mo : Nat) (hmo : mo ∈ L) (kmo : K mo = 12) (a0 : Int) (la0 : (-2147483648) ≤ a0) (ua0 : a0 ≤ 2147483647) (b0 : Int) (lb0 : (-2147483648) ≤ b0) (ub0 : b0 ≤ 2147483647) (c0 : Int) (lc0 : (-2147483648) ≤ c0) (uc0 : c0 ≤ 2147483647) (d0 : Int) (ld0 : (-2147483648) ≤ d0) (ud0 : d0 ≤ 2147483647) (e0 : Int) (le0 : (-2147483648) ≤ e0) (ue0 : e0 ≤ 2147483647) (bu : Nat) (hbu : bu ∈ L) (kbu : K bu = 150) (xn : Int) (lxn : 581 ≤ xn) (uxn : xn ≤ 600) (hf0 : q_is (q_z f mo 2) xn) (hr0 : q_ir (q_r f mo 1) bu) : q_Ct l g K L yX12_feed cX12_feed 6 (some .int) 2 41 [.ref mo, .int (q_i a0), .int (q_i b0), .int (q_i c0), .int (q_i d0), .int (q_i e0)] f [(12, 0, 0)] (q_Pi (fun (z : Int) (f1 : Nat → va_E) => z = 0 ∧ q_is (q_z f1 mo 2) xn ∧ q_is (q_z f1 mo 0) 1)) := by
  refine q_ofb (by decide +kernel) hN hT (Nat.le_of_ble_eq_true rfl) ?_
  intro p e s m below meth c ls cx hr hlk hB hl
  have hl : lv_has ls 6 [(0, .ref mo), (1, .int (q_i a0)), (2, .int (q_i b0)), (3, .int (q_i c0)), (4, .int (q_i d0)), (5, .int (q_i e0))] := hl
  obtain ⟨H, hH⟩ : ∃ H : Heap, H = s.heap := ⟨_, rfl⟩
  obtain ⟨locs, hlocs⟩ : ∃ z : List Loc, z = [] := ⟨_, rfl⟩
  rw [← hH, ← hlocs] at hB
  rw [← hH, ← hlocs]
  refine q_ald_n cx dX12_feed_0 rfl (lv_at hl 0 rfl) ?_
  refine q_ald_n cx dX12_feed_1 rfl (lv_at hl 0 rfl) ?_
  refine q_gX12_82 cx hB hmo kmo hf0 dX12_feed_2 (fun lb10 ub10 => ?_)
  refine q_bipush cx dX12_feed_5 rfl ?_
  refine q_iadd cx dX12_feed_7 ?_
  refine q_sipush cx dX12_feed_8 rfl ?_
  refine q_icgt (tgt := 18) cx ⟨by omega, by omega⟩ ⟨by decide, by decide⟩ dX12_feed_11 (by decide) (fun c11 => ?_) (fun c11 => ?_)
  · refine q_iconst cx dX12_feed_18 ?_
    refine q_cVi (As := [.int (q_i 0)]) (rest := []) cx hB (fun _ h => h) hN hmo kmo (by decide) rfl (r_goes0 l g hN hB.2.1 mo hmo kmo 0 (by decide) (by decide)) q_cX12_85 q_dX12_goes (by decide) rfl rfl hl.1 rfl (Nat.le_of_ble_eq_true rfl) dX12_feed_19 (fun y13 H locs f12 ry13 h14 hF hB => ?_)
    obtain ⟨qy13, z15⟩ := h14
    have z16 : q_is (q_z f12 mo 2) xn := Eq.trans (hF.z hmo (by rw [kmo]; rfl)) hf0
    have z17 : q_ir (q_r f12 mo 1) bu := Eq.trans (hF.r hmo (by rw [kmo]; rfl)) hr0
    subst qy13
    refine q_ifne (tgt := 27) cx ⟨by decide, by decide⟩ dX12_feed_22 (by decide) (fun c18 => ?_) (fun c18 => ?_)
    · exact absurd c18 (by omega)
    · refine q_iconst cx dX12_feed_25 ?_
      refine q_iret cx hr hlk hB dX12_feed_26 ⟨by decide, by decide⟩ ?_
      exact ⟨rfl, z16, z15⟩
  · exact absurd c11 (by omega)
set_option maxHeartbeats 4000000 in
set_option maxRecDepth 100000 in
theorem r_truncate_a (l : Launch) (g : q_G) {K : Nat → Nat} {L : List Nat} (hN : L.Nodup) {f : Nat → va_E} (hT : q_Ty g K L f) (mo : Nat) (hmo : mo ∈ L) (kmo : K mo = 12) (a0 : Int) (la0 : (-2147483648) ≤ a0) (ua0 : a0 ≤ (-1)) (xn : Int) (lxn : 0 ≤ xn) (uxn : xn ≤ 600) (hf0 : q_is (q_z f mo 2) xn) : q_Ct l g K L yX12_truncate cX12_truncate 2 (some .int) 2 41 [.ref mo, .int (q_i a0)] f [(12, 0, 0)] (q_Pi (fun (z : Int) (f1 : Nat → va_E) => z = 0 ∧ q_is (q_z f1 mo 2) xn ∧ q_is (q_z f1 mo 0) 1)) := by
  refine q_ofb (by decide +kernel) hN hT (Nat.le_of_ble_eq_true rfl) ?_
  intro p e s m below meth c ls cx hr hlk hB hl
  have hl : lv_has ls 2 [(0, .ref mo), (1, .int (q_i a0))] := hl
  obtain ⟨H, hH⟩ : ∃ H : Heap, H = s.heap := ⟨_, rfl⟩
  obtain ⟨locs, hlocs⟩ : ∃ z : List Loc, z = [] := ⟨_, rfl⟩
  rw [← hH, ← hlocs] at hB
  rw [← hH, ← hlocs]
  refine q_ald_n cx dX12_truncate_0 rfl (lv_at hl 0 rfl) ?_
  refine q_ild_n cx dX12_truncate_1 rfl (lv_at hl 1 rfl) ?_
  refine q_i2l cx ⟨by omega, by omega⟩ dX12_truncate_2 ?_
  refine q_lconst (z := 0) cx (by decide) dX12_truncate_3 ?_
  refine q_ald_n cx dX12_truncate_4 rfl (lv_at hl 0 rfl) ?_
  refine q_gX12_82 cx hB hmo kmo hf0 dX12_truncate_5 (fun lb16 ub16 => ?_)
  refine q_i2l cx ⟨by omega, by omega⟩ dX12_truncate_8 ?_
  refine q_cSi (As := [.long (q_l a0), .long (q_l 0), .long (q_l xn)]) (rest := [.ref mo]) cx hB (fun _ h => h) hN (r_isIn l g hN hB.2.1 a0 (by omega) (by omega) 0 (by decide) (by decide) xn (by omega) (by omega)) q_cX12_93 q_dX12_isIn (by decide) rfl rfl hl.1 rfl (Nat.le_of_ble_eq_true rfl) dX12_truncate_9 (fun y18 H locs f17 ry18 h19 hF hB => ?_)
  rcases h19 with h20 | h21
  · obtain ⟨rfl, qy18, t22, t23⟩ := h20
    subst qy18
    exact False.elim (by omega)
  · obtain ⟨rfl, qy18, t24⟩ := h21
    subst qy18
    refine q_cVi (As := [.int (q_i 0)]) (rest := []) cx hB (fun _ h => h) hN hmo kmo (by decide) rfl (r_goes0 l g hN hB.2.1 mo hmo kmo 0 (by decide) (by decide)) q_cX12_85 q_dX12_goes (by decide) rfl rfl hl.1 rfl (Nat.le_of_ble_eq_true rfl) dX12_truncate_12 (fun y26 H locs f25 ry26 h27 hF hB => ?_)
    obtain ⟨qy26, z28⟩ := h27
    have z29 : q_is (q_z f25 mo 2) xn := Eq.trans (hF.z hmo (by rw [kmo]; rfl)) hf0
    subst qy26
    refine q_ifne (tgt := 20) cx ⟨by decide, by decide⟩ dX12_truncate_15 (by decide) (fun c30 => ?_) (fun c30 => ?_)
    · exact absurd c30 (by omega)
    · refine q_iconst cx dX12_truncate_18 ?_
      refine q_iret cx hr hlk hB dX12_truncate_19 ⟨by decide, by decide⟩ ?_
      exact ⟨rfl, z29, z28⟩
set_option maxHeartbeats 4000000 in
set_option maxRecDepth 100000 in
theorem r_truncate_b (l : Launch) (g : q_G) {K : Nat → Nat} {L : List Nat} (hN : L.Nodup) {f : Nat → va_E} (hT : q_Ty g K L f) (mo : Nat) (hmo : mo ∈ L) (kmo : K mo = 12) (a0 : Int) (la0 : 0 ≤ a0) (ua0 : a0 ≤ 600) (xn : Int) (lxn : 0 ≤ xn) (uxn : xn ≤ 600) (hf0 : q_is (q_z f mo 2) xn) (hp0 : a0 ≤ xn) : q_Ct l g K L yX12_truncate cX12_truncate 2 (some .int) 2 41 [.ref mo, .int (q_i a0)] f [(12, 0, 0), (12, 2, 2)] (q_Pi (fun (z : Int) (f1 : Nat → va_E) => z = a0 ∧ q_is (q_z f1 mo 2) a0 ∧ q_is (q_z f1 mo 0) 0)) := by
  refine q_ofb (by decide +kernel) hN hT (Nat.le_of_ble_eq_true rfl) ?_
  intro p e s m below meth c ls cx hr hlk hB hl
  have hl : lv_has ls 2 [(0, .ref mo), (1, .int (q_i a0))] := hl
  obtain ⟨H, hH⟩ : ∃ H : Heap, H = s.heap := ⟨_, rfl⟩
  obtain ⟨locs, hlocs⟩ : ∃ z : List Loc, z = [] := ⟨_, rfl⟩
  rw [← hH, ← hlocs] at hB
  rw [← hH, ← hlocs]
  refine q_ald_n cx dX12_truncate_0 rfl (lv_at hl 0 rfl) ?_
  refine q_ild_n cx dX12_truncate_1 rfl (lv_at hl 1 rfl) ?_
  refine q_i2l cx ⟨by omega, by omega⟩ dX12_truncate_2 ?_
  refine q_lconst (z := 0) cx (by decide) dX12_truncate_3 ?_
  refine q_ald_n cx dX12_truncate_4 rfl (lv_at hl 0 rfl) ?_
  refine q_gX12_82 cx hB hmo kmo hf0 dX12_truncate_5 (fun lb19 ub19 => ?_)
  refine q_i2l cx ⟨by omega, by omega⟩ dX12_truncate_8 ?_
  refine q_cSi (As := [.long (q_l a0), .long (q_l 0), .long (q_l xn)]) (rest := [.ref mo]) cx hB (fun _ h => h) hN (r_isIn l g hN hB.2.1 a0 (by omega) (by omega) 0 (by decide) (by decide) xn (by omega) (by omega)) q_cX12_93 q_dX12_isIn (by decide) rfl rfl hl.1 rfl (Nat.le_of_ble_eq_true rfl) dX12_truncate_9 (fun y21 H locs f20 ry21 h22 hF hB => ?_)
  rcases h22 with h23 | h24
  · obtain ⟨rfl, qy21, t25, t26⟩ := h23
    subst qy21
    refine q_cVi (As := [.int (q_i 1)]) (rest := []) cx hB (fun _ h => h) hN hmo kmo (by decide) rfl (r_goes1 l g hN hB.2.1 mo hmo kmo 1 (by decide) (by decide)) q_cX12_85 q_dX12_goes (by decide) rfl rfl hl.1 rfl (Nat.le_of_ble_eq_true rfl) dX12_truncate_12 (fun y28 H locs f27 ry28 h29 hF hB => ?_)
    obtain ⟨qy28, z30⟩ := h29
    have z31 : q_is (q_z f27 mo 2) xn := Eq.trans (hF.z hmo (by rw [kmo]; rfl)) hf0
    subst qy28
    refine q_ifne (tgt := 20) cx ⟨by decide, by decide⟩ dX12_truncate_15 (by decide) (fun c32 => ?_) (fun c32 => ?_)
    · refine q_ald_n cx dX12_truncate_20 rfl (lv_at hl 0 rfl) ?_
      refine q_ild_n cx dX12_truncate_21 rfl (lv_at hl 1 rfl) ?_
      refine q_pX12_82 cx hB hmo kmo ⟨by omega, by omega⟩ (by omega) (by omega) rfl dX12_truncate_22 (fun H locs f33 ef33 z34 hB => ?_)
      have z35 : q_is (q_z f33 mo 0) 0 := by rw [ef33, q_setz (Or.inr (by decide))]; exact z30
      refine q_ild_n cx dX12_truncate_25 rfl (lv_at hl 1 rfl) ?_
      refine q_iret cx hr hlk hB dX12_truncate_26 ⟨by omega, by omega⟩ ?_
      exact ⟨rfl, z34, z35⟩
    · exact absurd c32 (by omega)
  · obtain ⟨rfl, qy21, t36⟩ := h24
    subst qy21
    exact False.elim (by have h7 : _ ∨ _ := t36; omega)
set_option maxHeartbeats 4000000 in
set_option maxRecDepth 100000 in
theorem r_truncate_c (l : Launch) (g : q_G) {K : Nat → Nat} {L : List Nat} (hN : L.Nodup) {f : Nat → va_E} (hT : q_Ty g K L f) (mo : Nat) (hmo : mo ∈ L) (kmo : K mo = 12) (a0 : Int) (la0 : 0 ≤ a0) (ua0 : a0 ≤ 2147483647) (xn : Int) (lxn : 0 ≤ xn) (uxn : xn ≤ 600) (hf0 : q_is (q_z f mo 2) xn) (hp0 : xn < a0) : q_Ct l g K L yX12_truncate cX12_truncate 2 (some .int) 2 41 [.ref mo, .int (q_i a0)] f [(12, 0, 0)] (q_Pi (fun (z : Int) (f1 : Nat → va_E) => z = 0 ∧ q_is (q_z f1 mo 2) xn ∧ q_is (q_z f1 mo 0) 1)) := by
  refine q_ofb (by decide +kernel) hN hT (Nat.le_of_ble_eq_true rfl) ?_
  intro p e s m below meth c ls cx hr hlk hB hl
  have hl : lv_has ls 2 [(0, .ref mo), (1, .int (q_i a0))] := hl
  obtain ⟨H, hH⟩ : ∃ H : Heap, H = s.heap := ⟨_, rfl⟩
  obtain ⟨locs, hlocs⟩ : ∃ z : List Loc, z = [] := ⟨_, rfl⟩
  rw [← hH, ← hlocs] at hB
  rw [← hH, ← hlocs]
  refine q_ald_n cx dX12_truncate_0 rfl (lv_at hl 0 rfl) ?_
  refine q_ild_n cx dX12_truncate_1 rfl (lv_at hl 1 rfl) ?_
  refine q_i2l cx ⟨by omega, by omega⟩ dX12_truncate_2 ?_
  refine q_lconst (z := 0) cx (by decide) dX12_truncate_3 ?_
  refine q_ald_n cx dX12_truncate_4 rfl (lv_at hl 0 rfl) ?_
  refine q_gX12_82 cx hB hmo kmo hf0 dX12_truncate_5 (fun lb16 ub16 => ?_)
  refine q_i2l cx ⟨by omega, by omega⟩ dX12_truncate_8 ?_
  refine q_cSi (As := [.long (q_l a0), .long (q_l 0), .long (q_l xn)]) (rest := [.ref mo]) cx hB (fun _ h => h) hN (r_isIn l g hN hB.2.1 a0 (by omega) (by omega) 0 (by decide) (by decide) xn (by omega) (by omega)) q_cX12_93 q_dX12_isIn (by decide) rfl rfl hl.1 rfl (Nat.le_of_ble_eq_true rfl) dX12_truncate_9 (fun y18 H locs f17 ry18 h19 hF hB => ?_)
  rcases h19 with h20 | h21
  · obtain ⟨rfl, qy18, t22, t23⟩ := h20
    subst qy18
    exact False.elim (by omega)
  · obtain ⟨rfl, qy18, t24⟩ := h21
    subst qy18
    refine q_cVi (As := [.int (q_i 0)]) (rest := []) cx hB (fun _ h => h) hN hmo kmo (by decide) rfl (r_goes0 l g hN hB.2.1 mo hmo kmo 0 (by decide) (by decide)) q_cX12_85 q_dX12_goes (by decide) rfl rfl hl.1 rfl (Nat.le_of_ble_eq_true rfl) dX12_truncate_12 (fun y26 H locs f25 ry26 h27 hF hB => ?_)
    obtain ⟨qy26, z28⟩ := h27
    have z29 : q_is (q_z f25 mo 2) xn := Eq.trans (hF.z hmo (by rw [kmo]; rfl)) hf0
    subst qy26
    refine q_ifne (tgt := 20) cx ⟨by decide, by decide⟩ dX12_truncate_15 (by decide) (fun c30 => ?_) (fun c30 => ?_)
    · exact absurd c30 (by omega)
    · refine q_iconst cx dX12_truncate_18 ?_
      refine q_iret cx hr hlk hB dX12_truncate_19 ⟨by decide, by decide⟩ ?_
      exact ⟨rfl, z29, z28⟩
set_option maxHeartbeats 4000000 in
set_option maxRecDepth 100000 in
theorem r_errorCode (l : Launch) (g : q_G) {K : Nat → Nat} {L : List Nat} (hN : L.Nodup) {f : Nat → va_E} (hT : q_Ty g K L f) (mo : Nat) (hmo : mo ∈ L) (kmo : K mo = 12) : q_Ct l g K L yX12_errorCode cX12_errorCode 1 (some .int) 0 0 [.ref mo] f [(12, 0, 0)] (q_Pi (fun (z : Int) (f1 : Nat → va_E) => True)) := by
  refine q_ofb (by decide +kernel) hN hT (Nat.le_of_ble_eq_true rfl) ?_
  intro p e s m below meth c ls cx hr hlk hB hl
  have hl : lv_has ls 1 [(0, .ref mo)] := hl
  obtain ⟨H, hH⟩ : ∃ H : Heap, H = s.heap := ⟨_, rfl⟩
  obtain ⟨locs, hlocs⟩ : ∃ z : List Loc, z = [] := ⟨_, rfl⟩
  rw [← hH, ← hlocs] at hB
  rw [← hH, ← hlocs]
  refine q_ald_n cx dX12_errorCode_0 rfl (lv_at hl 0 rfl) ?_
  refine q_iconst cx dX12_errorCode_1 ?_
  refine q_pX12_75 cx hB hmo kmo ⟨by decide, by decide⟩ (by decide) (by decide) rfl dX12_errorCode_2 (fun H locs f5 ef5 z6 hB => ?_)
  refine q_ald_n cx dX12_errorCode_5 rfl (lv_at hl 0 rfl) ?_
  obtain ⟨x7, ex7⟩ : ∃ zz, q_is (q_z f5 mo 10) zz := ⟨_, q_isr _⟩
  refine q_gX12_151 cx hB hmo kmo ex7 dX12_errorCode_6 (fun lb8 ub8 => ?_)
  refine q_iret cx hr hlk hB dX12_errorCode_9 ⟨by omega, by omega⟩ ?_
  trivial
set_option maxHeartbeats 4000000 in
set_option maxRecDepth 100000 in
theorem r_errorPosition (l : Launch) (g : q_G) {K : Nat → Nat} {L : List Nat} (hN : L.Nodup) {f : Nat → va_E} (hT : q_Ty g K L f) (mo : Nat) (hmo : mo ∈ L) (kmo : K mo = 12) : q_Ct l g K L yX12_errorPosition cX12_errorPosition 1 (some .int) 0 0 [.ref mo] f [(12, 0, 0)] (q_Pi (fun (z : Int) (f1 : Nat → va_E) => True)) := by
  refine q_ofb (by decide +kernel) hN hT (Nat.le_of_ble_eq_true rfl) ?_
  intro p e s m below meth c ls cx hr hlk hB hl
  have hl : lv_has ls 1 [(0, .ref mo)] := hl
  obtain ⟨H, hH⟩ : ∃ H : Heap, H = s.heap := ⟨_, rfl⟩
  obtain ⟨locs, hlocs⟩ : ∃ z : List Loc, z = [] := ⟨_, rfl⟩
  rw [← hH, ← hlocs] at hB
  rw [← hH, ← hlocs]
  refine q_ald_n cx dX12_errorPosition_0 rfl (lv_at hl 0 rfl) ?_
  refine q_iconst cx dX12_errorPosition_1 ?_
  refine q_pX12_75 cx hB hmo kmo ⟨by decide, by decide⟩ (by decide) (by decide) rfl dX12_errorPosition_2 (fun H locs f5 ef5 z6 hB => ?_)
  refine q_ald_n cx dX12_errorPosition_5 rfl (lv_at hl 0 rfl) ?_
  obtain ⟨x7, ex7⟩ : ∃ zz, q_is (q_z f5 mo 11) zz := ⟨_, q_isr _⟩
  refine q_gX12_17 cx hB hmo kmo ex7 dX12_errorPosition_6 (fun lb8 ub8 => ?_)
  refine q_iret cx hr hlk hB dX12_errorPosition_9 ⟨by omega, by omega⟩ ?_
  trivial
set_option maxHeartbeats 4000000 in
set_option maxRecDepth 100000 in
theorem r_readText (l : Launch) (g : q_G) {K : Nat → Nat} {L : List Nat} (hN : L.Nodup) {f : Nat → va_E} (hT : q_Ty g K L f) (mo : Nat) (hmo : mo ∈ L) (kmo : K mo = 12) (sr : Nat) (hsr : sr ∈ L) (ksr : K sr = 151) (as : Nat) (has : as ∈ L) (kas : K as = 153) (nm : Nat) (hnm : nm ∈ L) (knm : K nm = 156) (anm : Nat) (hanm : anm ∈ L) (kanm : K anm = 158) (bu : Nat) (hbu : bu ∈ L) (kbu : K bu = 150) (pa : Nat) (hpa : pa ∈ L) (kpa : K pa = 155) (xt : Int) (lxt : 0 ≤ xt) (uxt : xt ≤ 9999) (xm : Int) (lxm : 0 ≤ xm) (uxm : xm ≤ 60) (hf0 : q_is (q_z f sr 3) xt) (hf1 : q_is (q_z f sr 4) xm) (hr0 : q_ir (q_r f mo 13) sr) (hr1 : q_ir (q_r f mo 15) as) (hr2 : q_ir (q_r f mo 18) nm) (hr3 : q_ir (q_r f mo 20) anm) (hr4 : q_ir (q_r f mo 1) bu) (hr5 : q_ir (q_r f mo 17) pa) (hgr : q_gr f sr) (hpk : q_pk f mo pa) : q_Ct l g K L yX12_readText cX12_readText 2 (some .int) 6 136 [.ref mo] f [(12, 0, 0), (12, 2, 12), (12, 21, 21), (12, 23, 23), (151, 0, 657), (153, 0, 657), (156, 0, 9), (158, 0, 9)] (q_Pi (fun (z : Int) (f1 : Nat → va_E) => 0 ≤ z ∧ z ≤ 10 ∧ 0 ≤ q_z f1 sr 3 ∧ q_z f1 sr 3 ≤ 9999 ∧ 0 ≤ q_z f1 sr 4 ∧ q_z f1 sr 4 ≤ 60 ∧ q_is (q_z f1 mo 2) 0 ∧ q_gr f1 sr ∧ (q_pk f1 mo pa))) := by
  refine q_ofb (by decide +kernel) hN hT (Nat.le_of_ble_eq_true rfl) ?_
  intro p e s m below meth c ls cx hr hlk hB hl
  have hl : lv_has ls 2 [(0, .ref mo)] := hl
  have J84 : ∀ (n : Nat) (f84 : Nat → va_E) (v84_1 : Int) (lv84_1 : 0 ≤ v84_1) (uv84_1 : v84_1 ≤ 10) (w84_mo_8 : Int) (lw84_mo_8 : 0 ≤ w84_mo_8) (uw84_mo_8 : w84_mo_8 ≤ 0) (w84_mo_2 : Int) (lw84_mo_2 : 0 ≤ w84_mo_2) (uw84_mo_2 : w84_mo_2 ≤ 0) (w84_mo_4 : Int) (lw84_mo_4 : 0 ≤ w84_mo_4) (uw84_mo_4 : w84_mo_4 ≤ 600) (w84_as_2 : Int) (lw84_as_2 : 4 ≤ w84_as_2) (uw84_as_2 : w84_as_2 ≤ 60) (w84_sr_3 : Int) (lw84_sr_3 : 0 ≤ w84_sr_3) (uw84_sr_3 : w84_sr_3 ≤ 9999) (w84_sr_4 : Int) (lw84_sr_4 : 0 ≤ w84_sr_4) (uw84_sr_4 : w84_sr_4 ≤ 60) (hj_mo_8 : q_is (q_z f84 mo 8) w84_mo_8) (hj_mo_2 : q_is (q_z f84 mo 2) w84_mo_2) (hj_mo_4 : q_is (q_z f84 mo 4) w84_mo_4) (hj_as_2 : q_is (q_z f84 as 2) w84_as_2) (hj_sr_3 : q_is (q_z f84 sr 3) w84_sr_3) (hj_sr_4 : q_is (q_z f84 sr 4) w84_sr_4) (hq_mo_13 : q_ir (q_r f84 mo 13) sr) (hq_mo_15 : q_ir (q_r f84 mo 15) as) (hq_mo_18 : q_ir (q_r f84 mo 18) nm) (hq_mo_20 : q_ir (q_r f84 mo 20) anm) (hq_mo_1 : q_ir (q_r f84 mo 1) bu) (hq_mo_17 : q_ir (q_r f84 mo 17) pa) (hgr84 : q_gr f84 sr) (hpk84 : q_pk f84 mo pa) (hmu : (Int.toNat (2147483647 - v84_1)) < n) (H : Heap) (locs : List Loc) (hB : q_B g K L (fun q => q ∈ L) [(12, 0, 0), (12, 2, 12), (12, 21, 21), (12, 23, 23), (151, 0, 657), (153, 0, 657), (156, 0, 9), (158, 0, 9)] f f84 s H locs) (ls : Array Slot) (hl : lv_has ls 2 [(0, .ref mo), (1, .int (q_i v84_1))]), W p l e { frames := 6, cells := 0, slots := 0, locals := 136 } s m ([.ref mo] : List Value).toArray below meth c H locs 0 0 (MQ below (q_Q g K L [(12, 0, 0), (12, 2, 12), (12, 21, 21), (12, 23, 23), (151, 0, 657), (153, 0, 657), (156, 0, 9), (158, 0, 9)] f (q_Pi (fun (z : Int) (f1 : Nat → va_E) => 0 ≤ z ∧ z ≤ 10 ∧ 0 ≤ q_z f1 sr 3 ∧ q_z f1 sr 3 ≤ 9999 ∧ 0 ≤ q_z f1 sr 4 ∧ q_z f1 sr 4 ≤ 60 ∧ q_is (q_z f1 mo 2) 0 ∧ q_gr f1 sr ∧ (q_pk f1 mo pa)))) ([.ref mo] : List Value).toArray s 0 0 (fun q => q ∈ L)) (F0 m 84 ls []) := by
    intro n
    induction n with
    | zero =>
      intro f84 v84_1 lv84_1 uv84_1 w84_mo_8 lw84_mo_8 uw84_mo_8 w84_mo_2 lw84_mo_2 uw84_mo_2 w84_mo_4 lw84_mo_4 uw84_mo_4 w84_as_2 lw84_as_2 uw84_as_2 w84_sr_3 lw84_sr_3 uw84_sr_3 w84_sr_4 lw84_sr_4 uw84_sr_4 hj_mo_8 hj_mo_2 hj_mo_4 hj_as_2 hj_sr_3 hj_sr_4 hq_mo_13 hq_mo_15 hq_mo_18 hq_mo_20 hq_mo_1 hq_mo_17 hgr84 hpk84 hmu
      exact absurd hmu (Nat.not_lt_zero _)
    | succ n ih84 =>
      intro f84 v84_1 lv84_1 uv84_1 w84_mo_8 lw84_mo_8 uw84_mo_8 w84_mo_2 lw84_mo_2 uw84_mo_2 w84_mo_4 lw84_mo_4 uw84_mo_4 w84_as_2 lw84_as_2 uw84_as_2 w84_sr_3 lw84_sr_3 uw84_sr_3 w84_sr_4 lw84_sr_4 uw84_sr_4 hj_mo_8 hj_mo_2 hj_mo_4 hj_as_2 hj_sr_3 hj_sr_4 hq_mo_13 hq_mo_15 hq_mo_18 hq_mo_20 hq_mo_1 hq_mo_17 hgr84 hpk84 hmu H locs hB ls hl
      refine q_ild_n cx dX12_readText_84 rfl (lv_at hl 1 rfl) ?_
      refine q_ald_n cx dX12_readText_85 rfl (lv_at hl 0 rfl) ?_
      refine q_gX12_20 cx hB hmo kmo hq_mo_13 dX12_readText_86 (fun hb975 kb975 => ?_)
      refine q_iconst cx dX12_readText_89 ?_
      obtain ⟨x976, ex976⟩ : ∃ zz, q_is (q_z f84 sr (Int.toNat 0)) zz := ⟨_, q_isr _⟩
      refine q_iald (lo := 0) (hi := 10) (n := 658) cx hB hsr ksr (by decide) rfl rfl (by decide) (by decide) (by decide) rfl ex976 dX12_readText_90 (fun lb977 ub977 => ?_)
      refine q_icge (tgt := 138) cx ⟨by omega, by omega⟩ ⟨by omega, by omega⟩ dX12_readText_91 (by decide) (fun c978 => ?_) (fun c978 => ?_)
      · refine q_ald_n cx dX12_readText_138 rfl (lv_at hl 0 rfl) ?_
        refine q_iconst cx dX12_readText_139 ?_
        refine q_pX12_158 cx hB hmo kmo ⟨by decide, by decide⟩ (by decide) (by decide) rfl dX12_readText_140 (fun H locs f979 ef979 z980 hB => ?_)
        have z981 : q_is (q_z f979 mo 8) w84_mo_8 := by rw [ef979, q_setz (Or.inr (by decide))]; exact hj_mo_8
        have z982 : q_is (q_z f979 mo 2) w84_mo_2 := by rw [ef979, q_setz (Or.inr (by decide))]; exact hj_mo_2
        have z983 : q_is (q_z f979 mo 4) w84_mo_4 := by rw [ef979, q_setz (Or.inr (by decide))]; exact hj_mo_4
        have z984 : q_is (q_z f979 as 2) w84_as_2 := by rw [ef979, q_setz (Or.inr (by decide))]; exact hj_as_2
        have z985 : q_is (q_z f979 sr 3) w84_sr_3 := by rw [ef979, q_setz (Or.inr (by decide))]; exact hj_sr_3
        have z986 : q_is (q_z f979 sr 4) w84_sr_4 := by rw [ef979, q_setz (Or.inr (by decide))]; exact hj_sr_4
        have z987 : q_is (q_z f979 sr 0) x976 := by rw [ef979, q_setz (Or.inr (by decide))]; exact ex976
        have z988 : q_ir (q_r f979 mo 13) sr := by rw [ef979, q_setr (Or.inr (by decide))]; exact hq_mo_13
        have z989 : q_ir (q_r f979 mo 15) as := by rw [ef979, q_setr (Or.inr (by decide))]; exact hq_mo_15
        have z990 : q_ir (q_r f979 mo 18) nm := by rw [ef979, q_setr (Or.inr (by decide))]; exact hq_mo_18
        have z991 : q_ir (q_r f979 mo 20) anm := by rw [ef979, q_setr (Or.inr (by decide))]; exact hq_mo_20
        have z992 : q_ir (q_r f979 mo 1) bu := by rw [ef979, q_setr (Or.inr (by decide))]; exact hq_mo_1
        have z993 : q_ir (q_r f979 mo 17) pa := by rw [ef979, q_setr (Or.inr (by decide))]; exact hq_mo_17
        have g994 : q_gr f979 sr := q_gr_ne hgr84 ef979 (fun q => q_kne (k := 151) (k2 := 12) (by decide) ksr kmo q)
        have hpk0 : q_pk f979 mo pa := k_pk0 z980
        refine q_ald_n cx dX12_readText_143 rfl (lv_at hl 0 rfl) ?_
        refine q_gX12_20 cx hB hmo kmo z988 dX12_readText_144 (fun hb995 kb995 => ?_)
        refine q_iconst cx dX12_readText_147 ?_
        refine q_iald (lo := 0) (hi := 10) (n := 658) cx hB hsr ksr (by decide) rfl rfl (by decide) (by decide) (by decide) rfl z987 dX12_readText_148 (fun lb997 ub997 => ?_)
        refine q_iret cx hr hlk hB dX12_readText_149 ⟨by omega, by omega⟩ ?_
        exact ⟨(by omega), (by omega), (q_isl z985 (by omega)), (q_isu z985 (by omega)), (q_isl z986 (by omega)), (q_isu z986 (by omega)), (Eq.trans z982 (by omega)), g994, hpk0⟩
      · refine q_ald_n cx dX12_readText_94 rfl (lv_at hl 0 rfl) ?_
        refine q_ild_n cx dX12_readText_95 rfl (lv_at hl 1 rfl) ?_
        refine q_iconst cx dX12_readText_96 ?_
        refine q_ald_n cx dX12_readText_97 rfl (lv_at hl 0 rfl) ?_
        refine q_ild_n cx dX12_readText_98 rfl (lv_at hl 1 rfl) ?_
        refine q_iconst cx dX12_readText_99 ?_
        refine q_cVi (As := [.int (q_i v84_1), .int (q_i 0)]) (rest := [.int (q_i 0), .int (q_i v84_1), .ref mo]) cx hB (fun _ h => h) hN hmo kmo (by decide) rfl (r_ofNode0 l g hN hB.2.1 mo hmo kmo v84_1 (by omega) (by omega) 0 (by decide) (by decide) sr hsr ksr hq_mo_13 hgr84) q_cX12_256 q_dX12_ofNode (by decide) rfl rfl hl.1 rfl (Nat.le_of_ble_eq_true rfl) dX12_readText_100 (fun y999 H locs f998 ry999 h1000 hF hB => ?_)
        obtain ⟨rfl, ly999, uy999⟩ := h1000
        refine q_ald_n cx dX12_readText_103 rfl (lv_at hl 0 rfl) ?_
        refine q_gX12_20 cx hB hmo kmo hq_mo_13 dX12_readText_104 (fun hb1001 kb1001 => ?_)
        refine q_iconst cx dX12_readText_107 ?_
        obtain ⟨x1002, ex1002⟩ : ∃ zz, q_is (q_z f84 sr (Int.toNat 2)) zz := ⟨_, q_isr _⟩
        refine q_sald cx hB hsr ksr (by decide) (by decide) ex1002 dX12_readText_108 (fun rx1002 => ?_)
        obtain ⟨lx1002, ux1002⟩ : 4 ≤ x1002 ∧ x1002 ≤ 60 := q_isb ex1002 (q_gr_at hgr84 (by decide) rfl)
        refine q_irem cx ⟨by omega, by omega⟩ ⟨by omega, by omega⟩ (by omega) dX12_readText_109 (fun y1004 ey1004 ay1004 by1004 ny1004 => ?_)
        refine q_cVv (As := [.int (q_i v84_1), .int (q_i 0), .int (q_i y1004)]) (rest := []) cx hB (fun _ h => h) hN hmo kmo (by decide) rfl (r_setsNode0 l g hN hB.2.1 mo hmo kmo v84_1 (by omega) (by omega) 0 (by decide) (by decide) y1004 (by omega) (by omega) sr hsr ksr hq_mo_13 hgr84) q_cX12_202 q_dX12_setsNode (by decide) rfl rfl hl.1 rfl (Nat.le_of_ble_eq_true rfl) dX12_readText_110 (fun H locs f1005 h1007 hF hB => ?_)
        have g1008 := h1007
        have z1009 : q_is (q_z f1005 mo 8) w84_mo_8 := Eq.trans (hF.z hmo (by rw [kmo]; rfl)) hj_mo_8
        have z1010 : q_is (q_z f1005 mo 2) w84_mo_2 := Eq.trans (hF.z hmo (by rw [kmo]; rfl)) hj_mo_2
        have z1011 : q_is (q_z f1005 mo 4) w84_mo_4 := Eq.trans (hF.z hmo (by rw [kmo]; rfl)) hj_mo_4
        have z1012 : q_is (q_z f1005 as 2) w84_as_2 := Eq.trans (hF.z has (by rw [kas]; rfl)) hj_as_2
        have z1013 : q_is (q_z f1005 sr 3) w84_sr_3 := Eq.trans (hF.z hsr (by rw [ksr]; rfl)) hj_sr_3
        have z1014 : q_is (q_z f1005 sr 4) w84_sr_4 := Eq.trans (hF.z hsr (by rw [ksr]; rfl)) hj_sr_4
        have z1015 : q_is (q_z f1005 sr 0) x976 := Eq.trans (hF.z hsr (by rw [ksr]; rfl)) ex976
        have z1016 : q_is (q_z f1005 sr 2) x1002 := Eq.trans (hF.z hsr (by rw [ksr]; rfl)) ex1002
        have z1017 : q_ir (q_r f1005 mo 13) sr := Eq.trans (hF.r hmo (by rw [kmo]; rfl)) hq_mo_13
        have z1018 : q_ir (q_r f1005 mo 15) as := Eq.trans (hF.r hmo (by rw [kmo]; rfl)) hq_mo_15
        have z1019 : q_ir (q_r f1005 mo 18) nm := Eq.trans (hF.r hmo (by rw [kmo]; rfl)) hq_mo_18
        have z1020 : q_ir (q_r f1005 mo 20) anm := Eq.trans (hF.r hmo (by rw [kmo]; rfl)) hq_mo_20
        have z1021 : q_ir (q_r f1005 mo 1) bu := Eq.trans (hF.r hmo (by rw [kmo]; rfl)) hq_mo_1
        have z1022 : q_ir (q_r f1005 mo 17) pa := Eq.trans (hF.r hmo (by rw [kmo]; rfl)) hq_mo_17
        have g1023 : q_pk f1005 mo pa := q_pk_tr hpk84 (hF.z hmo (by rw [kmo]; rfl)) (fun i9 => hF.z hpa (by rw [kpa]; rfl))
        refine q_ald_n cx dX12_readText_113 rfl (lv_at hl 0 rfl) ?_
        refine q_ild_n cx dX12_readText_114 rfl (lv_at hl 1 rfl) ?_
        refine q_iconst cx dX12_readText_115 ?_
        refine q_ald_n cx dX12_readText_116 rfl (lv_at hl 0 rfl) ?_
        refine q_ild_n cx dX12_readText_117 rfl (lv_at hl 1 rfl) ?_
        refine q_iconst cx dX12_readText_118 ?_
        refine q_cVi (As := [.int (q_i v84_1), .int (q_i 1)]) (rest := [.int (q_i 1), .int (q_i v84_1), .ref mo]) cx hB (fun _ h => h) hN hmo kmo (by decide) rfl (r_ofNode1 l g hN hB.2.1 mo hmo kmo v84_1 (by omega) (by omega) 1 (by decide) (by decide) sr hsr ksr z1017 g1008) q_cX12_256 q_dX12_ofNode (by decide) rfl rfl hl.1 rfl (Nat.le_of_ble_eq_true rfl) dX12_readText_119 (fun y1025 H locs f1024 ry1025 h1026 hF hB => ?_)
        obtain ⟨rfl, ly1025, uy1025⟩ := h1026
        refine q_ald_n cx dX12_readText_122 rfl (lv_at hl 0 rfl) ?_
        refine q_gX12_20 cx hB hmo kmo z1017 dX12_readText_123 (fun hb1027 kb1027 => ?_)
        refine q_iconst cx dX12_readText_126 ?_
        refine q_iald (lo := (-2147483648)) (hi := 2147483647) (n := 658) cx hB hsr ksr (by decide) rfl rfl (by decide) (by decide) (by decide) rfl z1016 dX12_readText_127 (fun lb1029 ub1029 => ?_)
        refine q_irem cx ⟨by omega, by omega⟩ ⟨by omega, by omega⟩ (by omega) dX12_readText_128 (fun y1030 ey1030 ay1030 by1030 ny1030 => ?_)
        refine q_cVv (As := [.int (q_i v84_1), .int (q_i 1), .int (q_i y1030)]) (rest := []) cx hB (fun _ h => h) hN hmo kmo (by decide) rfl (r_setsNode1 l g hN hB.2.1 mo hmo kmo v84_1 (by omega) (by omega) 1 (by decide) (by decide) y1030 (by omega) (by omega) sr hsr ksr z1017 g1008) q_cX12_202 q_dX12_setsNode (by decide) rfl rfl hl.1 rfl (Nat.le_of_ble_eq_true rfl) dX12_readText_129 (fun H locs f1031 h1033 hF hB => ?_)
        have g1034 := h1033
        have z1035 : q_is (q_z f1031 mo 8) w84_mo_8 := Eq.trans (hF.z hmo (by rw [kmo]; rfl)) z1009
        have z1036 : q_is (q_z f1031 mo 2) w84_mo_2 := Eq.trans (hF.z hmo (by rw [kmo]; rfl)) z1010
        have z1037 : q_is (q_z f1031 mo 4) w84_mo_4 := Eq.trans (hF.z hmo (by rw [kmo]; rfl)) z1011
        have z1038 : q_is (q_z f1031 as 2) w84_as_2 := Eq.trans (hF.z has (by rw [kas]; rfl)) z1012
        have z1039 : q_is (q_z f1031 sr 3) w84_sr_3 := Eq.trans (hF.z hsr (by rw [ksr]; rfl)) z1013
        have z1040 : q_is (q_z f1031 sr 4) w84_sr_4 := Eq.trans (hF.z hsr (by rw [ksr]; rfl)) z1014
        have z1041 : q_is (q_z f1031 sr 0) x976 := Eq.trans (hF.z hsr (by rw [ksr]; rfl)) z1015
        have z1042 : q_is (q_z f1031 sr 2) x1002 := Eq.trans (hF.z hsr (by rw [ksr]; rfl)) z1016
        have z1043 : q_ir (q_r f1031 mo 13) sr := Eq.trans (hF.r hmo (by rw [kmo]; rfl)) z1017
        have z1044 : q_ir (q_r f1031 mo 15) as := Eq.trans (hF.r hmo (by rw [kmo]; rfl)) z1018
        have z1045 : q_ir (q_r f1031 mo 18) nm := Eq.trans (hF.r hmo (by rw [kmo]; rfl)) z1019
        have z1046 : q_ir (q_r f1031 mo 20) anm := Eq.trans (hF.r hmo (by rw [kmo]; rfl)) z1020
        have z1047 : q_ir (q_r f1031 mo 1) bu := Eq.trans (hF.r hmo (by rw [kmo]; rfl)) z1021
        have z1048 : q_ir (q_r f1031 mo 17) pa := Eq.trans (hF.r hmo (by rw [kmo]; rfl)) z1022
        have g1049 : q_pk f1031 mo pa := q_pk_tr g1023 (hF.z hmo (by rw [kmo]; rfl)) (fun i9 => hF.z hpa (by rw [kpa]; rfl))
        refine q_iinc (lv' := [(1, .int (q_i (v84_1 + 1))), (0, .ref mo)]) cx dX12_readText_132 hl (k := 1) rfl (by decide) rfl (fun ls hl => ?_)
        refine lv_goto (tgt := 84) cx.1 cx.2.1 dX12_readText_135 (by decide) ?_
        exact ih84 f1031 (v84_1 + 1) (by omega) (by omega) w84_mo_8 (by omega) (by omega) w84_mo_2 (by omega) (by omega) w84_mo_4 (by omega) (by omega) w84_as_2 (by omega) (by omega) w84_sr_3 (by omega) (by omega) w84_sr_4 (by omega) (by omega) z1035 z1036 z1037 z1038 z1039 z1040 z1043 z1044 z1045 z1046 z1047 z1048 g1034 g1049 (by omega) H locs hB ls (lv_sub hl [1, 0] rfl)
  have J28 : ∀ (n : Nat) (f28 : Nat → va_E) (w28_mo_8 : Int) (lw28_mo_8 : 0 ≤ w28_mo_8) (uw28_mo_8 : w28_mo_8 ≤ 0) (w28_mo_2 : Int) (lw28_mo_2 : 0 ≤ w28_mo_2) (uw28_mo_2 : w28_mo_2 ≤ 0) (w28_mo_4 : Int) (lw28_mo_4 : 0 ≤ w28_mo_4) (uw28_mo_4 : w28_mo_4 ≤ 600) (w28_as_2 : Int) (lw28_as_2 : 4 ≤ w28_as_2) (uw28_as_2 : w28_as_2 ≤ 60) (w28_sr_3 : Int) (lw28_sr_3 : 0 ≤ w28_sr_3) (uw28_sr_3 : w28_sr_3 ≤ 9999) (w28_sr_4 : Int) (lw28_sr_4 : 0 ≤ w28_sr_4) (uw28_sr_4 : w28_sr_4 ≤ 60) (hj_mo_8 : q_is (q_z f28 mo 8) w28_mo_8) (hj_mo_2 : q_is (q_z f28 mo 2) w28_mo_2) (hj_mo_4 : q_is (q_z f28 mo 4) w28_mo_4) (hj_as_2 : q_is (q_z f28 as 2) w28_as_2) (hj_sr_3 : q_is (q_z f28 sr 3) w28_sr_3) (hj_sr_4 : q_is (q_z f28 sr 4) w28_sr_4) (hq_mo_13 : q_ir (q_r f28 mo 13) sr) (hq_mo_15 : q_ir (q_r f28 mo 15) as) (hq_mo_18 : q_ir (q_r f28 mo 18) nm) (hq_mo_20 : q_ir (q_r f28 mo 20) anm) (hq_mo_1 : q_ir (q_r f28 mo 1) bu) (hq_mo_17 : q_ir (q_r f28 mo 17) pa) (hgr28 : q_gr f28 sr) (hpk28 : q_pk f28 mo pa) (hmu : (Int.toNat (601 - w28_mo_4)) < n) (H : Heap) (locs : List Loc) (hB : q_B g K L (fun q => q ∈ L) [(12, 0, 0), (12, 2, 12), (12, 21, 21), (12, 23, 23), (151, 0, 657), (153, 0, 657), (156, 0, 9), (158, 0, 9)] f f28 s H locs) (ls : Array Slot) (hl : lv_has ls 2 [(0, .ref mo)]), W p l e { frames := 6, cells := 0, slots := 0, locals := 136 } s m ([.ref mo] : List Value).toArray below meth c H locs 0 0 (MQ below (q_Q g K L [(12, 0, 0), (12, 2, 12), (12, 21, 21), (12, 23, 23), (151, 0, 657), (153, 0, 657), (156, 0, 9), (158, 0, 9)] f (q_Pi (fun (z : Int) (f1 : Nat → va_E) => 0 ≤ z ∧ z ≤ 10 ∧ 0 ≤ q_z f1 sr 3 ∧ q_z f1 sr 3 ≤ 9999 ∧ 0 ≤ q_z f1 sr 4 ∧ q_z f1 sr 4 ≤ 60 ∧ q_is (q_z f1 mo 2) 0 ∧ q_gr f1 sr ∧ (q_pk f1 mo pa)))) ([.ref mo] : List Value).toArray s 0 0 (fun q => q ∈ L)) (F0 m 28 ls []) := by
    intro n
    induction n with
    | zero =>
      intro f28 w28_mo_8 lw28_mo_8 uw28_mo_8 w28_mo_2 lw28_mo_2 uw28_mo_2 w28_mo_4 lw28_mo_4 uw28_mo_4 w28_as_2 lw28_as_2 uw28_as_2 w28_sr_3 lw28_sr_3 uw28_sr_3 w28_sr_4 lw28_sr_4 uw28_sr_4 hj_mo_8 hj_mo_2 hj_mo_4 hj_as_2 hj_sr_3 hj_sr_4 hq_mo_13 hq_mo_15 hq_mo_18 hq_mo_20 hq_mo_1 hq_mo_17 hgr28 hpk28 hmu
      exact absurd hmu (Nat.not_lt_zero _)
    | succ n ih28 =>
      intro f28 w28_mo_8 lw28_mo_8 uw28_mo_8 w28_mo_2 lw28_mo_2 uw28_mo_2 w28_mo_4 lw28_mo_4 uw28_mo_4 w28_as_2 lw28_as_2 uw28_as_2 w28_sr_3 lw28_sr_3 uw28_sr_3 w28_sr_4 lw28_sr_4 uw28_sr_4 hj_mo_8 hj_mo_2 hj_mo_4 hj_as_2 hj_sr_3 hj_sr_4 hq_mo_13 hq_mo_15 hq_mo_18 hq_mo_20 hq_mo_1 hq_mo_17 hgr28 hpk28 hmu H locs hB ls hl
      refine q_ald_n cx dX12_readText_28 rfl (lv_at hl 0 rfl) ?_
      refine q_cVi (As := []) (rest := []) cx hB (fun _ h => h) hN hmo kmo (by decide) rfl (r_isGood0 l g hN hB.2.1 mo hmo kmo (Eq.trans hj_mo_8 (by omega))) q_cX12_130 q_dX12_isGood (by decide) rfl rfl hl.1 rfl (Nat.le_of_ble_eq_true rfl) dX12_readText_29 (fun y1051 H locs f1050 ry1051 h1052 hF hB => ?_)
      obtain ⟨rfl, qy1051⟩ := h1052
      subst qy1051
      refine q_ifeq (tgt := 49) cx ⟨by decide, by decide⟩ dX12_readText_32 (by decide) (fun c1053 => ?_) (fun c1053 => ?_)
      · exact absurd c1053 (by omega)
      · refine q_ald_n cx dX12_readText_35 rfl (lv_at hl 0 rfl) ?_
        obtain ⟨x1054, ex1054⟩ : ∃ zz, q_is (q_z f28 mo 6) zz := ⟨_, q_isr _⟩
        refine q_gX12_117 cx hB hmo kmo ex1054 dX12_readText_36 (fun lb1055 ub1055 => ?_)
        refine q_ifeq (tgt := 49) cx ⟨by omega, by omega⟩ dX12_readText_39 (by decide) (fun c1056 => ?_) (fun c1056 => ?_)
        · refine q_ald_n cx dX12_readText_49 rfl (lv_at hl 0 rfl) ?_
          refine q_cVi (As := []) (rest := []) cx hB (fun _ h => h) hN hmo kmo (by decide) rfl (r_endsText0 l g hN hB.2.1 mo hmo kmo (Eq.trans hj_mo_8 (by omega))) q_cX12_253 q_dX12_endsText (by decide) rfl rfl hl.1 rfl (Nat.le_of_ble_eq_true rfl) dX12_readText_50 (fun y1058 H locs f1057 ry1058 h1059 hF hB => ?_)
          obtain ⟨qy1058, z1060⟩ := h1059
          have z1061 : q_is (q_z f1057 mo 8) w28_mo_8 := Eq.trans (hF.z hmo (by rw [kmo]; rfl)) hj_mo_8
          have z1062 : q_is (q_z f1057 mo 2) w28_mo_2 := Eq.trans (hF.z hmo (by rw [kmo]; rfl)) hj_mo_2
          have z1063 : q_is (q_z f1057 mo 4) w28_mo_4 := Eq.trans (hF.z hmo (by rw [kmo]; rfl)) hj_mo_4
          have z1064 : q_is (q_z f1057 as 2) w28_as_2 := Eq.trans (hF.z has (by rw [kas]; rfl)) hj_as_2
          have z1065 : q_is (q_z f1057 sr 3) w28_sr_3 := Eq.trans (hF.z hsr (by rw [ksr]; rfl)) hj_sr_3
          have z1066 : q_is (q_z f1057 sr 4) w28_sr_4 := Eq.trans (hF.z hsr (by rw [ksr]; rfl)) hj_sr_4
          have z1067 : q_is (q_z f1057 mo 6) x1054 := Eq.trans (hF.z hmo (by rw [kmo]; rfl)) ex1054
          have z1068 : q_ir (q_r f1057 mo 13) sr := Eq.trans (hF.r hmo (by rw [kmo]; rfl)) hq_mo_13
          have z1069 : q_ir (q_r f1057 mo 15) as := Eq.trans (hF.r hmo (by rw [kmo]; rfl)) hq_mo_15
          have z1070 : q_ir (q_r f1057 mo 18) nm := Eq.trans (hF.r hmo (by rw [kmo]; rfl)) hq_mo_18
          have z1071 : q_ir (q_r f1057 mo 20) anm := Eq.trans (hF.r hmo (by rw [kmo]; rfl)) hq_mo_20
          have z1072 : q_ir (q_r f1057 mo 1) bu := Eq.trans (hF.r hmo (by rw [kmo]; rfl)) hq_mo_1
          have z1073 : q_ir (q_r f1057 mo 17) pa := Eq.trans (hF.r hmo (by rw [kmo]; rfl)) hq_mo_17
          have g1074 : q_gr f1057 sr := q_gr_fr hgr28 (fun i9 _ => hF.z hsr (by rw [ksr]; rfl))
          have g1075 : q_pk f1057 mo pa := q_pk_tr hpk28 (hF.z hmo (by rw [kmo]; rfl)) (fun i9 => hF.z hpa (by rw [kpa]; rfl))
          subst qy1058
          refine q_ifne (tgt := 82) cx ⟨by decide, by decide⟩ dX12_readText_53 (by decide) (fun c1076 => ?_) (fun c1076 => ?_)
          · refine q_iconst cx dX12_readText_82 ?_
            refine lv_istore_n (lv' := [(1, .int (q_i 0)), (0, .ref mo)]) cx.1 cx.2.1 dX12_readText_83 rfl hl (by decide) rfl (fun ls hl => ?_)
            exact J84 ((Int.toNat (2147483647 - 0)) + 1) f1057 0 (by decide) (by decide) w28_mo_8 (by omega) (by omega) w28_mo_2 (by omega) (by omega) w28_mo_4 (by omega) (by omega) w28_as_2 (by omega) (by omega) w28_sr_3 (by omega) (by omega) w28_sr_4 (by omega) (by omega) z1061 z1062 z1063 z1064 z1065 z1066 z1068 z1069 z1070 z1071 z1072 z1073 g1074 g1075 (Nat.lt_succ_self _) H locs hB ls (lv_sub hl [1, 0] rfl)
          · exact absurd c1076 (by omega)
        · refine q_ald_n cx dX12_readText_42 rfl (lv_at hl 0 rfl) ?_
          refine q_cVv (As := []) (rest := []) cx hB (fun _ h => h) hN hmo kmo (by decide) rfl (r_statement0 l g hN hB.2.1 mo hmo kmo sr hsr ksr nm hnm knm bu hbu kbu w28_mo_4 (by omega) (by omega) (Eq.trans hj_mo_8 (by omega)) hj_mo_4 hq_mo_13 hq_mo_18 hq_mo_1 hgr28) q_cX12_250 q_dX12_statement (by decide) rfl rfl hl.1 rfl (Nat.le_of_ble_eq_true rfl) dX12_readText_43 (fun H locs f1077 h1079 hF hB => ?_)
          rcases h1079 with h1080 | h1081
          · obtain ⟨z1082, t1083, g1084⟩ := h1080
            have z1085 : q_is (q_z f1077 mo 2) w28_mo_2 := Eq.trans (hF.z hmo (by rw [kmo]; rfl)) hj_mo_2
            have z1086 : q_is (q_z f1077 as 2) w28_as_2 := Eq.trans (hF.z has (by rw [kas]; rfl)) hj_as_2
            have z1087 : q_is (q_z f1077 sr 3) w28_sr_3 := Eq.trans (hF.z hsr (by rw [ksr]; rfl)) hj_sr_3
            have z1088 : q_is (q_z f1077 sr 4) w28_sr_4 := Eq.trans (hF.z hsr (by rw [ksr]; rfl)) hj_sr_4
            have z1089 : q_ir (q_r f1077 mo 13) sr := Eq.trans (hF.r hmo (by rw [kmo]; rfl)) hq_mo_13
            have z1090 : q_ir (q_r f1077 mo 15) as := Eq.trans (hF.r hmo (by rw [kmo]; rfl)) hq_mo_15
            have z1091 : q_ir (q_r f1077 mo 18) nm := Eq.trans (hF.r hmo (by rw [kmo]; rfl)) hq_mo_18
            have z1092 : q_ir (q_r f1077 mo 20) anm := Eq.trans (hF.r hmo (by rw [kmo]; rfl)) hq_mo_20
            have z1093 : q_ir (q_r f1077 mo 1) bu := Eq.trans (hF.r hmo (by rw [kmo]; rfl)) hq_mo_1
            have z1094 : q_ir (q_r f1077 mo 17) pa := Eq.trans (hF.r hmo (by rw [kmo]; rfl)) hq_mo_17
            have g1095 : q_pk f1077 mo pa := q_pk_tr hpk28 (hF.z hmo (by rw [kmo]; rfl)) (fun i9 => hF.z hpa (by rw [kpa]; rfl))
            obtain ⟨x1096, ex1096⟩ : ∃ zz, q_is (q_z f1077 mo 4) zz := ⟨_, q_isr _⟩
            obtain ⟨lx1096, ux1096⟩ := q_isb ex1096 (q_fib hB.2.1 hmo kmo (by decide) rfl)
            obtain ⟨x1097, ex1097⟩ : ∃ zz, q_is (q_z f1077 mo 6) zz := ⟨_, q_isr _⟩
            obtain ⟨lx1097, ux1097⟩ := q_isb ex1097 (q_fib hB.2.1 hmo kmo (by decide) rfl)
            replace t1083 := q_islt9 ex1096 t1083
            refine lv_goto (tgt := 28) cx.1 cx.2.1 dX12_readText_46 (by decide) ?_
            exact ih28 f1077 0 (by decide) (by decide) w28_mo_2 (by omega) (by omega) x1096 (by omega) (by omega) w28_as_2 (by omega) (by omega) w28_sr_3 (by omega) (by omega) w28_sr_4 (by omega) (by omega) z1082 z1085 ex1096 z1086 z1087 z1088 z1089 z1090 z1091 z1092 z1093 z1094 g1084 g1095 (by omega) H locs hB ls (lv_sub hl [0] rfl)
          · obtain ⟨lz1098, uz1098⟩ := h1081
            have z1099 : q_is (q_z f1077 mo 2) w28_mo_2 := Eq.trans (hF.z hmo (by rw [kmo]; rfl)) hj_mo_2
            have z1100 : q_is (q_z f1077 as 2) w28_as_2 := Eq.trans (hF.z has (by rw [kas]; rfl)) hj_as_2
            have z1101 : q_is (q_z f1077 sr 3) w28_sr_3 := Eq.trans (hF.z hsr (by rw [ksr]; rfl)) hj_sr_3
            have z1102 : q_is (q_z f1077 sr 4) w28_sr_4 := Eq.trans (hF.z hsr (by rw [ksr]; rfl)) hj_sr_4
            have z1103 : q_ir (q_r f1077 mo 13) sr := Eq.trans (hF.r hmo (by rw [kmo]; rfl)) hq_mo_13
            have z1104 : q_ir (q_r f1077 mo 15) as := Eq.trans (hF.r hmo (by rw [kmo]; rfl)) hq_mo_15
            have z1105 : q_ir (q_r f1077 mo 18) nm := Eq.trans (hF.r hmo (by rw [kmo]; rfl)) hq_mo_18
            have z1106 : q_ir (q_r f1077 mo 20) anm := Eq.trans (hF.r hmo (by rw [kmo]; rfl)) hq_mo_20
            have z1107 : q_ir (q_r f1077 mo 1) bu := Eq.trans (hF.r hmo (by rw [kmo]; rfl)) hq_mo_1
            have z1108 : q_ir (q_r f1077 mo 17) pa := Eq.trans (hF.r hmo (by rw [kmo]; rfl)) hq_mo_17
            have g1109 : q_pk f1077 mo pa := q_pk_tr hpk28 (hF.z hmo (by rw [kmo]; rfl)) (fun i9 => hF.z hpa (by rw [kpa]; rfl))
            obtain ⟨x1110, ex1110⟩ : ∃ zz, q_is (q_z f1077 mo 8) zz := ⟨_, q_isr _⟩
            obtain ⟨lx1110, ux1110⟩ := q_isb ex1110 ⟨lz1098, uz1098⟩
            obtain ⟨x1111, ex1111⟩ : ∃ zz, q_is (q_z f1077 mo 4) zz := ⟨_, q_isr _⟩
            obtain ⟨lx1111, ux1111⟩ := q_isb ex1111 (q_fib hB.2.1 hmo kmo (by decide) rfl)
            obtain ⟨x1112, ex1112⟩ : ∃ zz, q_is (q_z f1077 mo 6) zz := ⟨_, q_isr _⟩
            obtain ⟨lx1112, ux1112⟩ := q_isb ex1112 (q_fib hB.2.1 hmo kmo (by decide) rfl)
            refine lv_goto (tgt := 28) cx.1 cx.2.1 dX12_readText_46 (by decide) ?_
            refine q_ald_n cx dX12_readText_28 rfl (lv_at hl 0 rfl) ?_
            refine q_cVi (As := []) (rest := []) cx hB (fun _ h => h) hN hmo kmo (by decide) rfl (r_isGood1 l g hN hB.2.1 mo hmo kmo x1110 (by omega) (by omega) ex1110) q_cX12_130 q_dX12_isGood (by decide) rfl rfl hl.1 rfl (Nat.le_of_ble_eq_true rfl) dX12_readText_29 (fun y1114 H locs f1113 ry1114 h1115 hF hB => ?_)
            obtain ⟨rfl, qy1114⟩ := h1115
            subst qy1114
            refine q_ifeq (tgt := 49) cx ⟨by decide, by decide⟩ dX12_readText_32 (by decide) (fun c1116 => ?_) (fun c1116 => ?_)
            · refine q_ald_n cx dX12_readText_49 rfl (lv_at hl 0 rfl) ?_
              refine q_cVi (As := []) (rest := []) cx hB (fun _ h => h) hN hmo kmo (by decide) rfl (r_endsText1 l g hN hB.2.1 mo hmo kmo x1110 (by omega) (by omega) ex1110) q_cX12_253 q_dX12_endsText (by decide) rfl rfl hl.1 rfl (Nat.le_of_ble_eq_true rfl) dX12_readText_50 (fun y1118 H locs f1117 ry1118 h1119 hF hB => ?_)
              obtain ⟨qy1118, z1120⟩ := h1119
              have z1121 : q_is (q_z f1117 mo 2) w28_mo_2 := Eq.trans (hF.z hmo (by rw [kmo]; rfl)) z1099
              have z1122 : q_is (q_z f1117 as 2) w28_as_2 := Eq.trans (hF.z has (by rw [kas]; rfl)) z1100
              have z1123 : q_is (q_z f1117 sr 3) w28_sr_3 := Eq.trans (hF.z hsr (by rw [ksr]; rfl)) z1101
              have z1124 : q_is (q_z f1117 sr 4) w28_sr_4 := Eq.trans (hF.z hsr (by rw [ksr]; rfl)) z1102
              have z1125 : q_is (q_z f1117 mo 8) x1110 := Eq.trans (hF.z hmo (by rw [kmo]; rfl)) ex1110
              have z1126 : q_is (q_z f1117 mo 4) x1111 := Eq.trans (hF.z hmo (by rw [kmo]; rfl)) ex1111
              have z1127 : q_is (q_z f1117 mo 6) x1112 := Eq.trans (hF.z hmo (by rw [kmo]; rfl)) ex1112
              have z1128 : q_ir (q_r f1117 mo 13) sr := Eq.trans (hF.r hmo (by rw [kmo]; rfl)) z1103
              have z1129 : q_ir (q_r f1117 mo 15) as := Eq.trans (hF.r hmo (by rw [kmo]; rfl)) z1104
              have z1130 : q_ir (q_r f1117 mo 18) nm := Eq.trans (hF.r hmo (by rw [kmo]; rfl)) z1105
              have z1131 : q_ir (q_r f1117 mo 20) anm := Eq.trans (hF.r hmo (by rw [kmo]; rfl)) z1106
              have z1132 : q_ir (q_r f1117 mo 1) bu := Eq.trans (hF.r hmo (by rw [kmo]; rfl)) z1107
              have z1133 : q_ir (q_r f1117 mo 17) pa := Eq.trans (hF.r hmo (by rw [kmo]; rfl)) z1108
              have g1134 : q_pk f1117 mo pa := q_pk_tr g1109 (hF.z hmo (by rw [kmo]; rfl)) (fun i9 => hF.z hpa (by rw [kpa]; rfl))
              subst qy1118
              refine q_ifne (tgt := 82) cx ⟨by decide, by decide⟩ dX12_readText_53 (by decide) (fun c1135 => ?_) (fun c1135 => ?_)
              · exact absurd c1135 (by omega)
              · refine q_ald_n cx dX12_readText_56 rfl (lv_at hl 0 rfl) ?_
                refine q_gX12_26 cx hB hmo kmo z1129 dX12_readText_57 (fun hb1136 kb1136 => ?_)
                refine q_iconst cx dX12_readText_60 ?_
                refine q_ald_n cx dX12_readText_61 rfl (lv_at hl 0 rfl) ?_
                refine q_gX12_20 cx hB hmo kmo z1128 dX12_readText_62 (fun hb1137 kb1137 => ?_)
                refine q_iconst cx dX12_readText_65 ?_
                refine q_cSv (As := [.ref as, .int (q_i 0), .ref sr, .int (q_i 0)]) (rest := []) cx hB (fun _ h => h) hN (r_copiesRow_as_sr l g hN hB.2.1 as has kas 0 (by decide) (by decide) sr hsr ksr 0 (by decide) (by decide) w28_as_2 (by omega) (by omega) z1122) q_cX12_154 q_dX12_copiesRow (by decide) rfl rfl hl.1 rfl (Nat.le_of_ble_eq_true rfl) dX12_readText_66 (fun H locs f1138 h1140 hF hB => ?_)
                obtain ⟨lz1141, uz1141, lz1142, uz1142, t1143, g1144⟩ := h1140
                have z1145 : q_is (q_z f1138 mo 2) w28_mo_2 := Eq.trans (hF.z hmo (by rw [kmo]; rfl)) z1121
                have z1146 : q_is (q_z f1138 as 2) w28_as_2 := Eq.trans (hF.z has (by rw [kas]; rfl)) z1122
                have z1147 : q_is (q_z f1138 mo 8) x1110 := Eq.trans (hF.z hmo (by rw [kmo]; rfl)) z1125
                have z1148 : q_is (q_z f1138 mo 4) x1111 := Eq.trans (hF.z hmo (by rw [kmo]; rfl)) z1126
                have z1149 : q_is (q_z f1138 mo 6) x1112 := Eq.trans (hF.z hmo (by rw [kmo]; rfl)) z1127
                have z1150 : q_is (q_z f1138 mo 0) 1 := Eq.trans (hF.z hmo (by rw [kmo]; rfl)) z1120
                have z1151 : q_ir (q_r f1138 mo 13) sr := Eq.trans (hF.r hmo (by rw [kmo]; rfl)) z1128
                have z1152 : q_ir (q_r f1138 mo 15) as := Eq.trans (hF.r hmo (by rw [kmo]; rfl)) z1129
                have z1153 : q_ir (q_r f1138 mo 18) nm := Eq.trans (hF.r hmo (by rw [kmo]; rfl)) z1130
                have z1154 : q_ir (q_r f1138 mo 20) anm := Eq.trans (hF.r hmo (by rw [kmo]; rfl)) z1131
                have z1155 : q_ir (q_r f1138 mo 1) bu := Eq.trans (hF.r hmo (by rw [kmo]; rfl)) z1132
                have z1156 : q_ir (q_r f1138 mo 17) pa := Eq.trans (hF.r hmo (by rw [kmo]; rfl)) z1133
                have g1157 : q_pk f1138 mo pa := q_pk_tr g1134 (hF.z hmo (by rw [kmo]; rfl)) (fun i9 => hF.z hpa (by rw [kpa]; rfl))
                obtain ⟨x1158, ex1158⟩ : ∃ zz, q_is (q_z f1138 sr 3) zz := ⟨_, q_isr _⟩
                obtain ⟨lx1158, ux1158⟩ := q_isb ex1158 ⟨lz1141, uz1141⟩
                obtain ⟨x1159, ex1159⟩ : ∃ zz, q_is (q_z f1138 sr 4) zz := ⟨_, q_isr _⟩
                obtain ⟨lx1159, ux1159⟩ := q_isb ex1159 ⟨lz1142, uz1142⟩
                refine q_ald_n cx dX12_readText_69 rfl (lv_at hl 0 rfl) ?_
                refine q_gX12_42 cx hB hmo kmo z1154 dX12_readText_70 (fun hb1160 kb1160 => ?_)
                refine q_ald_n cx dX12_readText_73 rfl (lv_at hl 0 rfl) ?_
                refine q_gX12_35 cx hB hmo kmo z1153 dX12_readText_74 (fun hb1161 kb1161 => ?_)
                refine q_cSv (As := [.ref anm, .ref nm]) (rest := []) cx hB (fun _ h => h) hN (r_copiesNames_158_156 l g hN hB.2.1 anm hanm kanm nm hnm knm) q_cX12_164 q_dX12_copiesNames (by decide) rfl rfl hl.1 rfl (Nat.le_of_ble_eq_true rfl) dX12_readText_77 (fun H locs f1162 h1164 hF hB => ?_)
                have z1165 : q_is (q_z f1162 mo 2) w28_mo_2 := Eq.trans (hF.z hmo (by rw [kmo]; rfl)) z1145
                have z1166 : q_is (q_z f1162 as 2) w28_as_2 := Eq.trans (hF.z has (by rw [kas]; rfl)) z1146
                have z1167 : q_is (q_z f1162 mo 8) x1110 := Eq.trans (hF.z hmo (by rw [kmo]; rfl)) z1147
                have z1168 : q_is (q_z f1162 mo 4) x1111 := Eq.trans (hF.z hmo (by rw [kmo]; rfl)) z1148
                have z1169 : q_is (q_z f1162 mo 6) x1112 := Eq.trans (hF.z hmo (by rw [kmo]; rfl)) z1149
                have z1170 : q_is (q_z f1162 mo 0) 1 := Eq.trans (hF.z hmo (by rw [kmo]; rfl)) z1150
                have z1171 : q_is (q_z f1162 sr 3) x1158 := Eq.trans (hF.z hsr (by rw [ksr]; rfl)) ex1158
                have z1172 : q_is (q_z f1162 sr 4) x1159 := Eq.trans (hF.z hsr (by rw [ksr]; rfl)) ex1159
                have z1173 : q_ir (q_r f1162 mo 13) sr := Eq.trans (hF.r hmo (by rw [kmo]; rfl)) z1151
                have z1174 : q_ir (q_r f1162 mo 15) as := Eq.trans (hF.r hmo (by rw [kmo]; rfl)) z1152
                have z1175 : q_ir (q_r f1162 mo 18) nm := Eq.trans (hF.r hmo (by rw [kmo]; rfl)) z1153
                have z1176 : q_ir (q_r f1162 mo 20) anm := Eq.trans (hF.r hmo (by rw [kmo]; rfl)) z1154
                have z1177 : q_ir (q_r f1162 mo 1) bu := Eq.trans (hF.r hmo (by rw [kmo]; rfl)) z1155
                have z1178 : q_ir (q_r f1162 mo 17) pa := Eq.trans (hF.r hmo (by rw [kmo]; rfl)) z1156
                have g1179 : q_gr f1162 sr := q_gr_fr g1144 (fun i9 _ => hF.z hsr (by rw [ksr]; rfl))
                have g1180 : q_pk f1162 mo pa := q_pk_tr g1157 (hF.z hmo (by rw [kmo]; rfl)) (fun i9 => hF.z hpa (by rw [kpa]; rfl))
                refine q_iconst cx dX12_readText_80 ?_
                refine q_iret cx hr hlk hB dX12_readText_81 ⟨by decide, by decide⟩ ?_
                exact ⟨(by decide), (by decide), (q_isl z1171 (by omega)), (q_isu z1171 (by omega)), (q_isl z1172 (by omega)), (q_isu z1172 (by omega)), (Eq.trans z1165 (by omega)), g1179, g1180⟩
            · exact absurd c1116 (by omega)
  obtain ⟨H, hH⟩ : ∃ H : Heap, H = s.heap := ⟨_, rfl⟩
  obtain ⟨locs, hlocs⟩ : ∃ z : List Loc, z = [] := ⟨_, rfl⟩
  rw [← hH, ← hlocs] at hB
  rw [← hH, ← hlocs]
  refine q_ald_n cx dX12_readText_0 rfl (lv_at hl 0 rfl) ?_
  refine q_cVv (As := []) (rest := []) cx hB (fun _ h => h) hN hmo kmo (by decide) rfl (r_beginsText l g hN hB.2.1 mo hmo kmo bu hbu kbu hr4) q_cX12_244 q_dX12_beginsText (by decide) rfl rfl hl.1 rfl (Nat.le_of_ble_eq_true rfl) dX12_readText_1 (fun H locs f1181 h1183 hF hB => ?_)
  obtain ⟨z1184, z1185⟩ := h1183
  have z1186 : q_is (q_z f1181 sr 3) xt := Eq.trans (hF.z hsr (by rw [ksr]; rfl)) hf0
  have z1187 : q_is (q_z f1181 sr 4) xm := Eq.trans (hF.z hsr (by rw [ksr]; rfl)) hf1
  have z1188 : q_ir (q_r f1181 mo 13) sr := Eq.trans (hF.r hmo (by rw [kmo]; rfl)) hr0
  have z1189 : q_ir (q_r f1181 mo 15) as := Eq.trans (hF.r hmo (by rw [kmo]; rfl)) hr1
  have z1190 : q_ir (q_r f1181 mo 18) nm := Eq.trans (hF.r hmo (by rw [kmo]; rfl)) hr2
  have z1191 : q_ir (q_r f1181 mo 20) anm := Eq.trans (hF.r hmo (by rw [kmo]; rfl)) hr3
  have z1192 : q_ir (q_r f1181 mo 1) bu := Eq.trans (hF.r hmo (by rw [kmo]; rfl)) hr4
  have z1193 : q_ir (q_r f1181 mo 17) pa := Eq.trans (hF.r hmo (by rw [kmo]; rfl)) hr5
  have g1194 : q_gr f1181 sr := q_gr_fr hgr (fun i9 _ => hF.z hsr (by rw [ksr]; rfl))
  have g1195 : q_pk f1181 mo pa := q_pk_tr hpk (hF.z hmo (by rw [kmo]; rfl)) (fun i9 => hF.z hpa (by rw [kpa]; rfl))
  obtain ⟨x1196, ex1196⟩ : ∃ zz, q_is (q_z f1181 mo 4) zz := ⟨_, q_isr _⟩
  obtain ⟨lx1196, ux1196⟩ := q_isb ex1196 (q_fib hB.2.1 hmo kmo (by decide) rfl)
  obtain ⟨x1197, ex1197⟩ : ∃ zz, q_is (q_z f1181 mo 6) zz := ⟨_, q_isr _⟩
  obtain ⟨lx1197, ux1197⟩ := q_isb ex1197 (q_fib hB.2.1 hmo kmo (by decide) rfl)
  refine q_ald_n cx dX12_readText_4 rfl (lv_at hl 0 rfl) ?_
  refine q_cVv (As := []) (rest := []) cx hB (fun _ h => h) hN hmo kmo (by decide) rfl (r_laysAside l g hN hB.2.1 mo hmo kmo sr hsr ksr as has kas xt (by omega) (by omega) xm (by omega) (by omega) z1186 z1187 z1188 z1189 g1194) q_cX12_247 q_dX12_laysAside (by decide) rfl rfl hl.1 rfl (Nat.le_of_ble_eq_true rfl) dX12_readText_5 (fun H locs f1198 h1200 hF hB => ?_)
  obtain ⟨lz1201, uz1201⟩ := h1200
  have z1202 : q_is (q_z f1198 sr 3) xt := Eq.trans (hF.z hsr (by rw [ksr]; rfl)) z1186
  have z1203 : q_is (q_z f1198 sr 4) xm := Eq.trans (hF.z hsr (by rw [ksr]; rfl)) z1187
  have z1204 : q_is (q_z f1198 mo 8) 0 := Eq.trans (hF.z hmo (by rw [kmo]; rfl)) z1184
  have z1205 : q_is (q_z f1198 mo 2) 0 := Eq.trans (hF.z hmo (by rw [kmo]; rfl)) z1185
  have z1206 : q_is (q_z f1198 mo 4) x1196 := Eq.trans (hF.z hmo (by rw [kmo]; rfl)) ex1196
  have z1207 : q_is (q_z f1198 mo 6) x1197 := Eq.trans (hF.z hmo (by rw [kmo]; rfl)) ex1197
  have z1208 : q_ir (q_r f1198 mo 13) sr := Eq.trans (hF.r hmo (by rw [kmo]; rfl)) z1188
  have z1209 : q_ir (q_r f1198 mo 15) as := Eq.trans (hF.r hmo (by rw [kmo]; rfl)) z1189
  have z1210 : q_ir (q_r f1198 mo 18) nm := Eq.trans (hF.r hmo (by rw [kmo]; rfl)) z1190
  have z1211 : q_ir (q_r f1198 mo 20) anm := Eq.trans (hF.r hmo (by rw [kmo]; rfl)) z1191
  have z1212 : q_ir (q_r f1198 mo 1) bu := Eq.trans (hF.r hmo (by rw [kmo]; rfl)) z1192
  have z1213 : q_ir (q_r f1198 mo 17) pa := Eq.trans (hF.r hmo (by rw [kmo]; rfl)) z1193
  have g1214 : q_gr f1198 sr := q_gr_fr g1194 (fun i9 _ => hF.z hsr (by rw [ksr]; rfl))
  have g1215 : q_pk f1198 mo pa := q_pk_tr g1195 (hF.z hmo (by rw [kmo]; rfl)) (fun i9 => hF.z hpa (by rw [kpa]; rfl))
  obtain ⟨x1216, ex1216⟩ : ∃ zz, q_is (q_z f1198 as 2) zz := ⟨_, q_isr _⟩
  obtain ⟨lx1216, ux1216⟩ := q_isb ex1216 ⟨lz1201, uz1201⟩
  refine q_ald_n cx dX12_readText_8 rfl (lv_at hl 0 rfl) ?_
  refine q_gX12_35 cx hB hmo kmo z1210 dX12_readText_9 (fun hb1217 kb1217 => ?_)
  refine q_ald_n cx dX12_readText_12 rfl (lv_at hl 0 rfl) ?_
  refine q_gX12_42 cx hB hmo kmo z1211 dX12_readText_13 (fun hb1218 kb1218 => ?_)
  refine q_cSv (As := [.ref nm, .ref anm]) (rest := []) cx hB (fun _ h => h) hN (r_copiesNames_156_158 l g hN hB.2.1 nm hnm knm anm hanm kanm) q_cX12_164 q_dX12_copiesNames (by decide) rfl rfl hl.1 rfl (Nat.le_of_ble_eq_true rfl) dX12_readText_16 (fun H locs f1219 h1221 hF hB => ?_)
  have z1222 : q_is (q_z f1219 sr 3) xt := Eq.trans (hF.z hsr (by rw [ksr]; rfl)) z1202
  have z1223 : q_is (q_z f1219 sr 4) xm := Eq.trans (hF.z hsr (by rw [ksr]; rfl)) z1203
  have z1224 : q_is (q_z f1219 mo 8) 0 := Eq.trans (hF.z hmo (by rw [kmo]; rfl)) z1204
  have z1225 : q_is (q_z f1219 mo 2) 0 := Eq.trans (hF.z hmo (by rw [kmo]; rfl)) z1205
  have z1226 : q_is (q_z f1219 mo 4) x1196 := Eq.trans (hF.z hmo (by rw [kmo]; rfl)) z1206
  have z1227 : q_is (q_z f1219 mo 6) x1197 := Eq.trans (hF.z hmo (by rw [kmo]; rfl)) z1207
  have z1228 : q_is (q_z f1219 as 2) x1216 := Eq.trans (hF.z has (by rw [kas]; rfl)) ex1216
  have z1229 : q_ir (q_r f1219 mo 13) sr := Eq.trans (hF.r hmo (by rw [kmo]; rfl)) z1208
  have z1230 : q_ir (q_r f1219 mo 15) as := Eq.trans (hF.r hmo (by rw [kmo]; rfl)) z1209
  have z1231 : q_ir (q_r f1219 mo 18) nm := Eq.trans (hF.r hmo (by rw [kmo]; rfl)) z1210
  have z1232 : q_ir (q_r f1219 mo 20) anm := Eq.trans (hF.r hmo (by rw [kmo]; rfl)) z1211
  have z1233 : q_ir (q_r f1219 mo 1) bu := Eq.trans (hF.r hmo (by rw [kmo]; rfl)) z1212
  have z1234 : q_ir (q_r f1219 mo 17) pa := Eq.trans (hF.r hmo (by rw [kmo]; rfl)) z1213
  have g1235 : q_gr f1219 sr := q_gr_fr g1214 (fun i9 _ => hF.z hsr (by rw [ksr]; rfl))
  have g1236 : q_pk f1219 mo pa := q_pk_tr g1215 (hF.z hmo (by rw [kmo]; rfl)) (fun i9 => hF.z hpa (by rw [kpa]; rfl))
  refine q_ald_n cx dX12_readText_19 rfl (lv_at hl 0 rfl) ?_
  refine q_cVv (As := []) (rest := []) cx hB (fun _ h => h) hN hmo kmo (by decide) rfl (r_clears l g hN hB.2.1 mo hmo kmo sr hsr ksr nm hnm knm z1229 z1231) q_cX12_72 q_dX12_clears (by decide) rfl rfl hl.1 rfl (Nat.le_of_ble_eq_true rfl) dX12_readText_20 (fun H locs f1237 h1239 hF hB => ?_)
  obtain ⟨lz1240, uz1240, lz1241, uz1241, g1242⟩ := h1239
  have z1243 : q_is (q_z f1237 mo 8) 0 := Eq.trans (hF.z hmo (by rw [kmo]; rfl)) z1224
  have z1244 : q_is (q_z f1237 mo 2) 0 := Eq.trans (hF.z hmo (by rw [kmo]; rfl)) z1225
  have z1245 : q_is (q_z f1237 mo 4) x1196 := Eq.trans (hF.z hmo (by rw [kmo]; rfl)) z1226
  have z1246 : q_is (q_z f1237 mo 6) x1197 := Eq.trans (hF.z hmo (by rw [kmo]; rfl)) z1227
  have z1247 : q_is (q_z f1237 as 2) x1216 := Eq.trans (hF.z has (by rw [kas]; rfl)) z1228
  have z1248 : q_ir (q_r f1237 mo 13) sr := Eq.trans (hF.r hmo (by rw [kmo]; rfl)) z1229
  have z1249 : q_ir (q_r f1237 mo 15) as := Eq.trans (hF.r hmo (by rw [kmo]; rfl)) z1230
  have z1250 : q_ir (q_r f1237 mo 18) nm := Eq.trans (hF.r hmo (by rw [kmo]; rfl)) z1231
  have z1251 : q_ir (q_r f1237 mo 20) anm := Eq.trans (hF.r hmo (by rw [kmo]; rfl)) z1232
  have z1252 : q_ir (q_r f1237 mo 1) bu := Eq.trans (hF.r hmo (by rw [kmo]; rfl)) z1233
  have z1253 : q_ir (q_r f1237 mo 17) pa := Eq.trans (hF.r hmo (by rw [kmo]; rfl)) z1234
  have g1254 : q_pk f1237 mo pa := q_pk_tr g1236 (hF.z hmo (by rw [kmo]; rfl)) (fun i9 => hF.z hpa (by rw [kpa]; rfl))
  obtain ⟨x1255, ex1255⟩ : ∃ zz, q_is (q_z f1237 sr 3) zz := ⟨_, q_isr _⟩
  obtain ⟨lx1255, ux1255⟩ := q_isb ex1255 ⟨lz1240, uz1240⟩
  obtain ⟨x1256, ex1256⟩ : ∃ zz, q_is (q_z f1237 sr 4) zz := ⟨_, q_isr _⟩
  obtain ⟨lx1256, ux1256⟩ := q_isb ex1256 ⟨lz1241, uz1241⟩
  refine q_ald_n cx dX12_readText_23 rfl (lv_at hl 0 rfl) ?_
  refine q_iconst cx dX12_readText_24 ?_
  refine q_pX12_182 cx hB hmo kmo ⟨by decide, by decide⟩ (by decide) (by decide) rfl dX12_readText_25 (fun H locs f1257 ef1257 z1258 hB => ?_)
  have z1259 : q_is (q_z f1257 mo 8) 0 := by rw [ef1257, q_setz (Or.inr (by decide))]; exact z1243
  have z1260 : q_is (q_z f1257 mo 2) 0 := by rw [ef1257, q_setz (Or.inr (by decide))]; exact z1244
  have z1261 : q_is (q_z f1257 mo 4) x1196 := by rw [ef1257, q_setz (Or.inr (by decide))]; exact z1245
  have z1262 : q_is (q_z f1257 mo 6) x1197 := by rw [ef1257, q_setz (Or.inr (by decide))]; exact z1246
  have z1263 : q_is (q_z f1257 as 2) x1216 := by rw [ef1257, q_setz (Or.inr (by decide))]; exact z1247
  have z1264 : q_is (q_z f1257 sr 3) x1255 := by rw [ef1257, q_setz (Or.inr (by decide))]; exact ex1255
  have z1265 : q_is (q_z f1257 sr 4) x1256 := by rw [ef1257, q_setz (Or.inr (by decide))]; exact ex1256
  have z1266 : q_ir (q_r f1257 mo 13) sr := by rw [ef1257, q_setr (Or.inr (by decide))]; exact z1248
  have z1267 : q_ir (q_r f1257 mo 15) as := by rw [ef1257, q_setr (Or.inr (by decide))]; exact z1249
  have z1268 : q_ir (q_r f1257 mo 18) nm := by rw [ef1257, q_setr (Or.inr (by decide))]; exact z1250
  have z1269 : q_ir (q_r f1257 mo 20) anm := by rw [ef1257, q_setr (Or.inr (by decide))]; exact z1251
  have z1270 : q_ir (q_r f1257 mo 1) bu := by rw [ef1257, q_setr (Or.inr (by decide))]; exact z1252
  have z1271 : q_ir (q_r f1257 mo 17) pa := by rw [ef1257, q_setr (Or.inr (by decide))]; exact z1253
  have g1272 : q_gr f1257 sr := q_gr_ne g1242 ef1257 (fun q => q_kne (k := 151) (k2 := 12) (by decide) ksr kmo q)
  have g1273 : q_pk f1257 mo pa := q_pk_tr g1254 (by rw [ef1257, q_setz (Or.inr (by decide))]) (fun i9 => by rw [ef1257, q_setz (Or.inl (fun q => by rw [q, kmo] at kpa; exact absurd kpa (by decide)))])
  exact J28 ((Int.toNat (601 - x1196)) + 1) f1257 0 (by decide) (by decide) 0 (by decide) (by decide) x1196 (by omega) (by omega) x1216 (by omega) (by omega) x1255 (by omega) (by omega) x1256 (by omega) (by omega) z1259 z1260 z1261 z1263 z1264 z1265 z1266 z1267 z1268 z1269 z1270 z1271 g1272 g1273 (Nat.lt_succ_self _) H locs hB ls (lv_sub hl [0] rfl)
