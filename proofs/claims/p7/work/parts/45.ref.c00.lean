set_option maxHeartbeats 4000000 in
set_option maxRecDepth 100000 in
theorem r_four (l : Launch) (g : q_G) {K : Nat → Nat} {L : List Nat} (hN : L.Nodup) {f : Nat → va_E} (hT : q_Ty g K L f) (mo : Nat) (hmo : mo ∈ L) (kmo : K mo = 12) (a0 : Int) (la0 : (-2147483648) ≤ a0) (ua0 : a0 ≤ 2147483647) (bu : Nat) (hbu : bu ∈ L) (kbu : K bu = 150) (xn : Int) (lxn : 0 ≤ xn) (uxn : xn ≤ 596) (hf0 : q_is (q_z f mo 2) xn) (hr0 : q_ir (q_r f mo 1) bu) : q_Ct l g K L yX12_four cX12_four 3 none 0 0 [.ref mo, .int (q_i a0)] f [(12, 2, 2), (150, 0, 599)] (q_Pv (fun (f1 : Nat → va_E) => q_is (q_z f1 mo 2) (xn + 4))) := by
  refine q_ofb (by decide +kernel) hN hT (Nat.le_of_ble_eq_true rfl) ?_
  intro p e s m below meth c ls cx hr hlk hB hl
  have hl : lv_has ls 3 [(0, .ref mo), (1, .int (q_i a0))] := hl
  obtain ⟨H, hH⟩ : ∃ H : Heap, H = s.heap := ⟨_, rfl⟩
  obtain ⟨locs, hlocs⟩ : ∃ z : List Loc, z = [] := ⟨_, rfl⟩
  rw [← hH, ← hlocs] at hB
  rw [← hH, ← hlocs]
  refine q_bipush cx dX12_four_0 rfl ?_
  refine lv_istore_n (lv' := [(2, .int (q_i 24)), (0, .ref mo), (1, .int (q_i a0))]) cx.1 cx.2.1 dX12_four_2 rfl hl (by decide) rfl (fun ls hl => ?_)
  refine q_ild_n cx dX12_four_3 rfl (lv_at hl 0 rfl) ?_
  refine q_iflt (tgt := 39) cx ⟨by decide, by decide⟩ dX12_four_4 (by decide) (fun c54 => ?_) (fun c54 => ?_)
  · exact absurd c54 (by omega)
  · refine q_ald_n cx dX12_four_7 rfl (lv_at hl 1 rfl) ?_
    refine q_gX12_7 cx hB hmo kmo hr0 dX12_four_8 (fun hb55 kb55 => ?_)
    refine q_ald_n cx dX12_four_11 rfl (lv_at hl 1 rfl) ?_
    refine q_gX12_82 cx hB hmo kmo hf0 dX12_four_12 (fun lb56 ub56 => ?_)
    refine q_ild_n cx dX12_four_15 rfl (lv_at hl 2 rfl) ?_
    refine q_ild_n cx dX12_four_16 rfl (lv_at hl 0 rfl) ?_
    refine q_ishr cx dX12_four_17 (fun y57 ry57 ey57 => ?_)
    refine q_sipush cx dX12_four_18 rfl ?_
    refine q_iandm cx 8 (by decide) rfl dX12_four_21 (fun y58 ly58 uy58 ey58 => ?_)
    refine q_iast (lo := 0) (hi := 255) (n := 600) cx hB hbu kbu (by decide) rfl rfl (by omega) (by omega) (by decide) rfl ⟨by omega, by omega⟩ (by omega) (by omega) (q_inWi (lo := 0) (hi := 596) (by decide) (by omega) (by omega)) dX12_four_22 (fun H locs f59 ef59 z60 hB => ?_)
    have z61 : q_is (q_z f59 mo 2) xn := by rw [ef59, q_setz (Or.inl (fun q => by rw [q, kbu] at kmo; exact absurd kmo (by decide)))]; exact hf0
    have z62 : q_ir (q_r f59 mo 1) bu := by rw [ef59, q_setr (Or.inl (fun q => by rw [q, kbu] at kmo; exact absurd kmo (by decide)))]; exact hr0
    refine q_ald_n cx dX12_four_23 rfl (lv_at hl 1 rfl) ?_
    refine lv_dup cx.1 cx.2.1 dX12_four_24 rfl ?_
    refine q_gX12_82 cx hB hmo kmo z61 dX12_four_25 (fun lb63 ub63 => ?_)
    refine q_iconst cx dX12_four_28 ?_
    refine q_iadd cx dX12_four_29 ?_
    refine q_pX12_82 cx hB hmo kmo ⟨by omega, by omega⟩ (by omega) (by omega) rfl dX12_four_30 (fun H locs f64 ef64 z65 hB => ?_)
    have z66 : q_ir (q_r f64 mo 1) bu := by rw [ef64, q_setr (Or.inr (by decide))]; exact z62
    refine q_iinc (lv' := [(2, .int (q_i (24 + (-8)))), (0, .ref mo), (1, .int (q_i a0))]) cx dX12_four_33 hl (k := 0) rfl (by decide) rfl (fun ls hl => ?_)
    refine lv_goto (tgt := 3) cx.1 cx.2.1 dX12_four_36 (by decide) ?_
    refine q_ild_n cx dX12_four_3 rfl (lv_at hl 0 rfl) ?_
    refine q_iflt (tgt := 39) cx ⟨by decide, by decide⟩ dX12_four_4 (by decide) (fun c67 => ?_) (fun c67 => ?_)
    · exact absurd c67 (by omega)
    · refine q_ald_n cx dX12_four_7 rfl (lv_at hl 1 rfl) ?_
      refine q_gX12_7 cx hB hmo kmo z66 dX12_four_8 (fun hb68 kb68 => ?_)
      refine q_ald_n cx dX12_four_11 rfl (lv_at hl 1 rfl) ?_
      refine q_gX12_82 cx hB hmo kmo z65 dX12_four_12 (fun lb69 ub69 => ?_)
      refine q_ild_n cx dX12_four_15 rfl (lv_at hl 2 rfl) ?_
      refine q_ild_n cx dX12_four_16 rfl (lv_at hl 0 rfl) ?_
      refine q_ishr cx dX12_four_17 (fun y70 ry70 ey70 => ?_)
      refine q_sipush cx dX12_four_18 rfl ?_
      refine q_iandm cx 8 (by decide) rfl dX12_four_21 (fun y71 ly71 uy71 ey71 => ?_)
      refine q_iast (lo := 0) (hi := 255) (n := 600) cx hB hbu kbu (by decide) rfl rfl (by omega) (by omega) (by decide) rfl ⟨by omega, by omega⟩ (by omega) (by omega) (q_inWi (lo := 1) (hi := 597) (by decide) (by omega) (by omega)) dX12_four_22 (fun H locs f72 ef72 z73 hB => ?_)
      have z74 : q_is (q_z f72 mo 2) (xn + 1) := by rw [ef72, q_setz (Or.inl (fun q => by rw [q, kbu] at kmo; exact absurd kmo (by decide)))]; exact z65
      have z75 : q_ir (q_r f72 mo 1) bu := by rw [ef72, q_setr (Or.inl (fun q => by rw [q, kbu] at kmo; exact absurd kmo (by decide)))]; exact z66
      refine q_ald_n cx dX12_four_23 rfl (lv_at hl 1 rfl) ?_
      refine lv_dup cx.1 cx.2.1 dX12_four_24 rfl ?_
      refine q_gX12_82 cx hB hmo kmo z74 dX12_four_25 (fun lb76 ub76 => ?_)
      refine q_iconst cx dX12_four_28 ?_
      refine q_iadd cx dX12_four_29 ?_
      refine q_pX12_82 cx hB hmo kmo ⟨by omega, by omega⟩ (by omega) (by omega) rfl dX12_four_30 (fun H locs f77 ef77 z78 hB => ?_)
      have z79 : q_ir (q_r f77 mo 1) bu := by rw [ef77, q_setr (Or.inr (by decide))]; exact z75
      refine q_iinc (lv' := [(2, .int (q_i ((24 + (-8)) + (-8)))), (0, .ref mo), (1, .int (q_i a0))]) cx dX12_four_33 hl (k := 0) rfl (by decide) rfl (fun ls hl => ?_)
      refine lv_goto (tgt := 3) cx.1 cx.2.1 dX12_four_36 (by decide) ?_
      refine q_ild_n cx dX12_four_3 rfl (lv_at hl 0 rfl) ?_
      refine q_iflt (tgt := 39) cx ⟨by decide, by decide⟩ dX12_four_4 (by decide) (fun c80 => ?_) (fun c80 => ?_)
      · exact absurd c80 (by omega)
      · refine q_ald_n cx dX12_four_7 rfl (lv_at hl 1 rfl) ?_
        refine q_gX12_7 cx hB hmo kmo z79 dX12_four_8 (fun hb81 kb81 => ?_)
        refine q_ald_n cx dX12_four_11 rfl (lv_at hl 1 rfl) ?_
        refine q_gX12_82 cx hB hmo kmo z78 dX12_four_12 (fun lb82 ub82 => ?_)
        refine q_ild_n cx dX12_four_15 rfl (lv_at hl 2 rfl) ?_
        refine q_ild_n cx dX12_four_16 rfl (lv_at hl 0 rfl) ?_
        refine q_ishr cx dX12_four_17 (fun y83 ry83 ey83 => ?_)
        refine q_sipush cx dX12_four_18 rfl ?_
        refine q_iandm cx 8 (by decide) rfl dX12_four_21 (fun y84 ly84 uy84 ey84 => ?_)
        refine q_iast (lo := 0) (hi := 255) (n := 600) cx hB hbu kbu (by decide) rfl rfl (by omega) (by omega) (by decide) rfl ⟨by omega, by omega⟩ (by omega) (by omega) (q_inWi (lo := 2) (hi := 598) (by decide) (by omega) (by omega)) dX12_four_22 (fun H locs f85 ef85 z86 hB => ?_)
        have z87 : q_is (q_z f85 mo 2) ((xn + 1) + 1) := by rw [ef85, q_setz (Or.inl (fun q => by rw [q, kbu] at kmo; exact absurd kmo (by decide)))]; exact z78
        have z88 : q_ir (q_r f85 mo 1) bu := by rw [ef85, q_setr (Or.inl (fun q => by rw [q, kbu] at kmo; exact absurd kmo (by decide)))]; exact z79
        refine q_ald_n cx dX12_four_23 rfl (lv_at hl 1 rfl) ?_
        refine lv_dup cx.1 cx.2.1 dX12_four_24 rfl ?_
        refine q_gX12_82 cx hB hmo kmo z87 dX12_four_25 (fun lb89 ub89 => ?_)
        refine q_iconst cx dX12_four_28 ?_
        refine q_iadd cx dX12_four_29 ?_
        refine q_pX12_82 cx hB hmo kmo ⟨by omega, by omega⟩ (by omega) (by omega) rfl dX12_four_30 (fun H locs f90 ef90 z91 hB => ?_)
        have z92 : q_ir (q_r f90 mo 1) bu := by rw [ef90, q_setr (Or.inr (by decide))]; exact z88
        refine q_iinc (lv' := [(2, .int (q_i (((24 + (-8)) + (-8)) + (-8)))), (0, .ref mo), (1, .int (q_i a0))]) cx dX12_four_33 hl (k := 0) rfl (by decide) rfl (fun ls hl => ?_)
        refine lv_goto (tgt := 3) cx.1 cx.2.1 dX12_four_36 (by decide) ?_
        refine q_ild_n cx dX12_four_3 rfl (lv_at hl 0 rfl) ?_
        refine q_iflt (tgt := 39) cx ⟨by decide, by decide⟩ dX12_four_4 (by decide) (fun c93 => ?_) (fun c93 => ?_)
        · exact absurd c93 (by omega)
        · refine q_ald_n cx dX12_four_7 rfl (lv_at hl 1 rfl) ?_
          refine q_gX12_7 cx hB hmo kmo z92 dX12_four_8 (fun hb94 kb94 => ?_)
          refine q_ald_n cx dX12_four_11 rfl (lv_at hl 1 rfl) ?_
          refine q_gX12_82 cx hB hmo kmo z91 dX12_four_12 (fun lb95 ub95 => ?_)
          refine q_ild_n cx dX12_four_15 rfl (lv_at hl 2 rfl) ?_
          refine q_ild_n cx dX12_four_16 rfl (lv_at hl 0 rfl) ?_
          refine q_ishr cx dX12_four_17 (fun y96 ry96 ey96 => ?_)
          refine q_sipush cx dX12_four_18 rfl ?_
          refine q_iandm cx 8 (by decide) rfl dX12_four_21 (fun y97 ly97 uy97 ey97 => ?_)
          refine q_iast (lo := 0) (hi := 255) (n := 600) cx hB hbu kbu (by decide) rfl rfl (by omega) (by omega) (by decide) rfl ⟨by omega, by omega⟩ (by omega) (by omega) (q_inWi (lo := 3) (hi := 599) (by decide) (by omega) (by omega)) dX12_four_22 (fun H locs f98 ef98 z99 hB => ?_)
          have z100 : q_is (q_z f98 mo 2) (((xn + 1) + 1) + 1) := by rw [ef98, q_setz (Or.inl (fun q => by rw [q, kbu] at kmo; exact absurd kmo (by decide)))]; exact z91
          have z101 : q_ir (q_r f98 mo 1) bu := by rw [ef98, q_setr (Or.inl (fun q => by rw [q, kbu] at kmo; exact absurd kmo (by decide)))]; exact z92
          refine q_ald_n cx dX12_four_23 rfl (lv_at hl 1 rfl) ?_
          refine lv_dup cx.1 cx.2.1 dX12_four_24 rfl ?_
          refine q_gX12_82 cx hB hmo kmo z100 dX12_four_25 (fun lb102 ub102 => ?_)
          refine q_iconst cx dX12_four_28 ?_
          refine q_iadd cx dX12_four_29 ?_
          refine q_pX12_82 cx hB hmo kmo ⟨by omega, by omega⟩ (by omega) (by omega) rfl dX12_four_30 (fun H locs f103 ef103 z104 hB => ?_)
          have z105 : q_ir (q_r f103 mo 1) bu := by rw [ef103, q_setr (Or.inr (by decide))]; exact z101
          refine q_iinc (lv' := [(2, .int (q_i ((((24 + (-8)) + (-8)) + (-8)) + (-8)))), (0, .ref mo), (1, .int (q_i a0))]) cx dX12_four_33 hl (k := 0) rfl (by decide) rfl (fun ls hl => ?_)
          refine lv_goto (tgt := 3) cx.1 cx.2.1 dX12_four_36 (by decide) ?_
          refine q_ild_n cx dX12_four_3 rfl (lv_at hl 0 rfl) ?_
          refine q_iflt (tgt := 39) cx ⟨by decide, by decide⟩ dX12_four_4 (by decide) (fun c106 => ?_) (fun c106 => ?_)
          · refine q_vret cx hr hlk hB dX12_four_39 ?_
            exact (Eq.trans z104 (by omega))
          · exact absurd c106 (by omega)
set_option maxHeartbeats 4000000 in
set_option maxRecDepth 100000 in
theorem r_feed_a (l : Launch) (g : q_G) {K : Nat → Nat} {L : List Nat} (hN : L.Nodup) {f : Nat → va_E} (hT : q_Ty g K L f) (mo : Nat) (hmo : mo ∈ L) (kmo : K mo = 12) (a0 : Int) (la0 : (-2147483648) ≤ a0) (ua0 : a0 ≤ 2147483647) (b0 : Int) (lb0 : (-2147483648) ≤ b0) (ub0 : b0 ≤ 2147483647) (c0 : Int) (lc0 : (-2147483648) ≤ c0) (uc0 : c0 ≤ 2147483647) (d0 : Int) (ld0 : (-2147483648) ≤ d0) (ud0 : d0 ≤ 2147483647) (e0 : Int) (le0 : (-2147483648) ≤ e0) (ue0 : e0 ≤ 2147483647) (bu : Nat) (hbu : bu ∈ L) (kbu : K bu = 150) (xn : Int) (lxn : 0 ≤ xn) (uxn : xn ≤ 580) (hf0 : q_is (q_z f mo 2) xn) (hr0 : q_ir (q_r f mo 1) bu) : q_Ct l g K L yX12_feed cX12_feed 6 (some .int) 2 41 [.ref mo, .int (q_i a0), .int (q_i b0), .int (q_i c0), .int (q_i d0), .int (q_i e0)] f [(12, 0, 0), (12, 2, 2), (150, 0, 599)] (q_Pi (fun (z : Int) (f1 : Nat → va_E) => z = (xn + 20) ∧ q_is (q_z f1 mo 2) (xn + 20) ∧ q_is (q_z f1 mo 0) 0)) := by
  refine q_ofb (by decide +kernel) hN hT (Nat.le_of_ble_eq_true rfl) ?_
  intro p e s m below meth c ls cx hr hlk hB hl
  have hl : lv_has ls 6 [(0, .ref mo), (1, .int (q_i a0)), (2, .int (q_i b0)), (3, .int (q_i c0)), (4, .int (q_i d0)), (5, .int (q_i e0))] := hl
  obtain ⟨H, hH⟩ : ∃ H : Heap, H = s.heap := ⟨_, rfl⟩
  obtain ⟨locs, hlocs⟩ : ∃ z : List Loc, z = [] := ⟨_, rfl⟩
  rw [← hH, ← hlocs] at hB
  rw [← hH, ← hlocs]
  refine q_ald_n cx dX12_feed_0 rfl (lv_at hl 0 rfl) ?_
  refine q_ald_n cx dX12_feed_1 rfl (lv_at hl 0 rfl) ?_
  refine q_gX12_82 cx hB hmo kmo hf0 dX12_feed_2 (fun lb41 ub41 => ?_)
  refine q_bipush cx dX12_feed_5 rfl ?_
  refine q_iadd cx dX12_feed_7 ?_
  refine q_sipush cx dX12_feed_8 rfl ?_
  refine q_icgt (tgt := 18) cx ⟨by omega, by omega⟩ ⟨by decide, by decide⟩ dX12_feed_11 (by decide) (fun c42 => ?_) (fun c42 => ?_)
  · exact absurd c42 (by omega)
  · refine q_iconst cx dX12_feed_14 ?_
    refine lv_goto (tgt := 19) cx.1 cx.2.1 dX12_feed_15 (by decide) ?_
    refine q_cVi (As := [.int (q_i 1)]) (rest := []) cx hB (fun _ h => h) hN hmo kmo (by decide) rfl (r_goes1 l g hN hB.2.1 mo hmo kmo 1 (by decide) (by decide)) q_cX12_85 q_dX12_goes (by decide) rfl rfl hl.1 rfl (Nat.le_of_ble_eq_true rfl) dX12_feed_19 (fun y44 H locs f43 ry44 h45 hF hB => ?_)
    obtain ⟨qy44, z46⟩ := h45
    have z47 : q_is (q_z f43 mo 2) xn := Eq.trans (hF.z hmo (by rw [kmo]; rfl)) hf0
    have z48 : q_ir (q_r f43 mo 1) bu := Eq.trans (hF.r hmo (by rw [kmo]; rfl)) hr0
    subst qy44
    refine q_ifne (tgt := 27) cx ⟨by decide, by decide⟩ dX12_feed_22 (by decide) (fun c49 => ?_) (fun c49 => ?_)
    · refine q_ald_n cx dX12_feed_27 rfl (lv_at hl 0 rfl) ?_
      refine q_ild_n cx dX12_feed_28 rfl (lv_at hl 1 rfl) ?_
      refine q_cVv (As := [.int (q_i a0)]) (rest := []) cx hB (fun _ h => h) hN hmo kmo (by decide) rfl (r_four l g hN hB.2.1 mo hmo kmo a0 (by omega) (by omega) bu hbu kbu xn (by omega) (by omega) z47 z48) q_cX12_89 q_dX12_four (by decide) rfl rfl hl.1 rfl (Nat.le_of_ble_eq_true rfl) dX12_feed_29 (fun H locs f50 h52 hF hB => ?_)
      have z53 := h52
      have z54 : q_is (q_z f50 mo 0) 0 := Eq.trans (hF.z hmo (by rw [kmo]; rfl)) z46
      have z55 : q_ir (q_r f50 mo 1) bu := Eq.trans (hF.r hmo (by rw [kmo]; rfl)) z48
      refine q_ald_n cx dX12_feed_32 rfl (lv_at hl 0 rfl) ?_
      refine q_ild_n cx dX12_feed_33 rfl (lv_at hl 2 rfl) ?_
      refine q_cVv (As := [.int (q_i b0)]) (rest := []) cx hB (fun _ h => h) hN hmo kmo (by decide) rfl (r_four l g hN hB.2.1 mo hmo kmo b0 (by omega) (by omega) bu hbu kbu (xn + 4) (by omega) (by omega) z53 z55) q_cX12_89 q_dX12_four (by decide) rfl rfl hl.1 rfl (Nat.le_of_ble_eq_true rfl) dX12_feed_34 (fun H locs f56 h58 hF hB => ?_)
      have z59 := h58
      have z60 : q_is (q_z f56 mo 0) 0 := Eq.trans (hF.z hmo (by rw [kmo]; rfl)) z54
      have z61 : q_ir (q_r f56 mo 1) bu := Eq.trans (hF.r hmo (by rw [kmo]; rfl)) z55
      refine q_ald_n cx dX12_feed_37 rfl (lv_at hl 0 rfl) ?_
      refine q_ild_n cx dX12_feed_38 rfl (lv_at hl 3 rfl) ?_
      refine q_cVv (As := [.int (q_i c0)]) (rest := []) cx hB (fun _ h => h) hN hmo kmo (by decide) rfl (r_four l g hN hB.2.1 mo hmo kmo c0 (by omega) (by omega) bu hbu kbu ((xn + 4) + 4) (by omega) (by omega) z59 z61) q_cX12_89 q_dX12_four (by decide) rfl rfl hl.1 rfl (Nat.le_of_ble_eq_true rfl) dX12_feed_39 (fun H locs f62 h64 hF hB => ?_)
      have z65 := h64
      have z66 : q_is (q_z f62 mo 0) 0 := Eq.trans (hF.z hmo (by rw [kmo]; rfl)) z60
      have z67 : q_ir (q_r f62 mo 1) bu := Eq.trans (hF.r hmo (by rw [kmo]; rfl)) z61
      refine q_ald_n cx dX12_feed_42 rfl (lv_at hl 0 rfl) ?_
      refine lv_iload cx.1 cx.2.1 dX12_feed_43 (lv_at hl 4 rfl) ?_
      refine q_cVv (As := [.int (q_i d0)]) (rest := []) cx hB (fun _ h => h) hN hmo kmo (by decide) rfl (r_four l g hN hB.2.1 mo hmo kmo d0 (by omega) (by omega) bu hbu kbu (((xn + 4) + 4) + 4) (by omega) (by omega) z65 z67) q_cX12_89 q_dX12_four (by decide) rfl rfl hl.1 rfl (Nat.le_of_ble_eq_true rfl) dX12_feed_45 (fun H locs f68 h70 hF hB => ?_)
      have z71 := h70
      have z72 : q_is (q_z f68 mo 0) 0 := Eq.trans (hF.z hmo (by rw [kmo]; rfl)) z66
      have z73 : q_ir (q_r f68 mo 1) bu := Eq.trans (hF.r hmo (by rw [kmo]; rfl)) z67
      refine q_ald_n cx dX12_feed_48 rfl (lv_at hl 0 rfl) ?_
      refine lv_iload cx.1 cx.2.1 dX12_feed_49 (lv_at hl 5 rfl) ?_
      refine q_cVv (As := [.int (q_i e0)]) (rest := []) cx hB (fun _ h => h) hN hmo kmo (by decide) rfl (r_four l g hN hB.2.1 mo hmo kmo e0 (by omega) (by omega) bu hbu kbu ((((xn + 4) + 4) + 4) + 4) (by omega) (by omega) z71 z73) q_cX12_89 q_dX12_four (by decide) rfl rfl hl.1 rfl (Nat.le_of_ble_eq_true rfl) dX12_feed_51 (fun H locs f74 h76 hF hB => ?_)
      have z77 := h76
      have z78 : q_is (q_z f74 mo 0) 0 := Eq.trans (hF.z hmo (by rw [kmo]; rfl)) z72
      have z79 : q_ir (q_r f74 mo 1) bu := Eq.trans (hF.r hmo (by rw [kmo]; rfl)) z73
      refine q_ald_n cx dX12_feed_54 rfl (lv_at hl 0 rfl) ?_
      refine q_gX12_82 cx hB hmo kmo z77 dX12_feed_55 (fun lb80 ub80 => ?_)
      refine q_iret cx hr hlk hB dX12_feed_58 ⟨by omega, by omega⟩ ?_
      exact ⟨(by omega), (Eq.trans z77 (by omega)), z78⟩
    · exact absurd c49 (by omega)
set_option maxHeartbeats 4000000 in
set_option maxRecDepth 100000 in
theorem r_feed_b (l : Launch) (g : q_G) {K : Nat → Nat} {L : List Nat} (hN : L.Nodup) {f : Nat → va_E} (hT : q_Ty g K L f) (mo : Nat) (hmo : mo ∈ L) (kmo : K mo = 12) (a0 : Int) (la0 : (-2147483648) ≤ a0) (ua0 : a0 ≤ 2147483647) (b0 : Int) (lb0 : (-2147483648) ≤ b0) (ub0 : b0 ≤ 2147483647) (c0 : Int) (lc0 : (-2147483648) ≤ c0) (uc0 : c0 ≤ 2147483647) (d0 : Int) (ld0 : (-2147483648) ≤ d0) (ud0 : d0 ≤ 2147483647) (e0 : Int) (le0 : (-2147483648) ≤ e0) (ue0 : e0 ≤ 2147483647) (bu : Nat) (hbu : bu ∈ L) (kbu : K bu = 150) (xn : Int) (lxn : 581 ≤ xn) (uxn : xn ≤ 600) (hf0 : q_is (q_z f mo 2) xn) (hr0 : q_ir (q_r f mo 1) bu) : q_Ct l g K L yX12_feed cX12_feed 6 (some .int) 2 41 [.ref mo, .int (q_i a0), .int (q_i b0), .int (q_i c0), .int (q_i d0), .int (q_i e0)] f [(12, 0, 0)] (q_Pi (fun (z : Int) (f1 : Nat → va_E) => z = 0 ∧ q_is (q_z f1 mo 2) xn ∧ q_is (q_z f1 mo 0) 1)) := by
  refine q_ofb (by decide +kernel) hN hT (Nat.le_of_ble_eq_true rfl) ?_
  intro p e s m below meth c ls cx hr hlk hB hl
  have hl : lv_has ls 6 [(0, .ref mo), (1, .int (q_i a0)), (2, .int (q_i b0)), (3, .int (q_i c0)), (4, .int (q_i d0)), (5, .int (q_i e0))] := hl
  obtain ⟨H, hH⟩ : ∃ H : Heap, H = s.heap := ⟨_, rfl⟩
  obtain ⟨locs, hlocs⟩ : ∃ z : List Loc, z = [] := ⟨_, rfl⟩
  rw [← hH, ← hlocs] at hB
  rw [← hH, ← hlocs]
  refine q_ald_n cx dX12_feed_0 rfl (lv_at hl 0 rfl) ?_
  refine q_ald_n cx dX12_feed_1 rfl (lv_at hl 0 rfl) ?_
  refine q_gX12_82 cx hB hmo kmo hf0 dX12_feed_2 (fun lb10 ub10 => ?_)
  refine q_bipush cx dX12_feed_5 rfl ?_
  refine q_iadd cx dX12_feed_7 ?_
  refine q_sipush cx dX12_feed_8 rfl ?_
  refine q_icgt (tgt := 18) cx ⟨by omega, by omega⟩ ⟨by decide, by decide⟩ dX12_feed_11 (by decide) (fun c11 => ?_) (fun c11 => ?_)
  · refine q_iconst cx dX12_feed_18 ?_
    refine q_cVi (As := [.int (q_i 0)]) (rest := []) cx hB (fun _ h => h) hN hmo kmo (by decide) rfl (r_goes0 l g hN hB.2.1 mo hmo kmo 0 (by decide) (by decide)) q_cX12_85 q_dX12_goes (by decide) rfl rfl hl.1 rfl (Nat.le_of_ble_eq_true rfl) dX12_feed_19 (fun y13 H locs f12 ry13 h14 hF hB => ?_)
    obtain ⟨qy13, z15⟩ := h14
    have z16 : q_is (q_z f12 mo 2) xn := Eq.trans (hF.z hmo (by rw [kmo]; rfl)) hf0
    have z17 : q_ir (q_r f12 mo 1) bu := Eq.trans (hF.r hmo (by rw [kmo]; rfl)) hr0
    subst qy13
    refine q_ifne (tgt := 27) cx ⟨by decide, by decide⟩ dX12_feed_22 (by decide) (fun c18 => ?_) (fun c18 => ?_)
    · exact absurd c18 (by omega)
    · refine q_iconst cx dX12_feed_25 ?_
      refine q_iret cx hr hlk hB dX12_feed_26 ⟨by decide, by decide⟩ ?_
      exact ⟨rfl, z16, z15⟩
  · exact absurd c11 (by omega)
set_option maxHeartbeats 4000000 in
set_option maxRecDepth 100000 in
theorem r_truncate_a (l : Launch) (g : q_G) {K : Nat → Nat} {L : List Nat} (hN : L.Nodup) {f : Nat → va_E} (hT : q_Ty g K L f) (mo : Nat) (hmo : mo ∈ L) (kmo : K mo = 12) (a0 : Int) (la0 : (-2147483648) ≤ a0) (ua0 : a0 ≤ (-1)) (xn : Int) (lxn : 0 ≤ xn) (uxn : xn ≤ 600) (hf0 : q_is (q_z f mo 2) xn) : q_Ct l g K L yX12_truncate cX12_truncate 2 (some .int) 2 41 [.ref mo, .int (q_i a0)] f [(12, 0, 0)] (q_Pi (fun (z : Int) (f1 : Nat → va_E) => z = 0 ∧ q_is (q_z f1 mo 2) xn ∧ q_is (q_z f1 mo 0) 1)) := by
  refine q_ofb (by decide +kernel) hN hT (Nat.le_of_ble_eq_true rfl) ?_
  intro p e s m below meth c ls cx hr hlk hB hl
  have hl : lv_has ls 2 [(0, .ref mo), (1, .int (q_i a0))] := hl
  obtain ⟨H, hH⟩ : ∃ H : Heap, H = s.heap := ⟨_, rfl⟩
  obtain ⟨locs, hlocs⟩ : ∃ z : List Loc, z = [] := ⟨_, rfl⟩
  rw [← hH, ← hlocs] at hB
  rw [← hH, ← hlocs]
  refine q_ald_n cx dX12_truncate_0 rfl (lv_at hl 0 rfl) ?_
  refine q_ild_n cx dX12_truncate_1 rfl (lv_at hl 1 rfl) ?_
  refine q_i2l cx ⟨by omega, by omega⟩ dX12_truncate_2 ?_
  refine q_lconst (z := 0) cx (by decide) dX12_truncate_3 ?_
  refine q_ald_n cx dX12_truncate_4 rfl (lv_at hl 0 rfl) ?_
  refine q_gX12_82 cx hB hmo kmo hf0 dX12_truncate_5 (fun lb16 ub16 => ?_)
  refine q_i2l cx ⟨by omega, by omega⟩ dX12_truncate_8 ?_
  refine q_cSi (As := [.long (q_l a0), .long (q_l 0), .long (q_l xn)]) (rest := [.ref mo]) cx hB (fun _ h => h) hN (r_isIn l g hN hB.2.1 a0 (by omega) (by omega) 0 (by decide) (by decide) xn (by omega) (by omega)) q_cX12_93 q_dX12_isIn (by decide) rfl rfl hl.1 rfl (Nat.le_of_ble_eq_true rfl) dX12_truncate_9 (fun y18 H locs f17 ry18 h19 hF hB => ?_)
  rcases h19 with h20 | h21
  · obtain ⟨rfl, qy18, t22, t23⟩ := h20
    subst qy18
    exact False.elim (by omega)
  · obtain ⟨rfl, qy18, t24⟩ := h21
    subst qy18
    refine q_cVi (As := [.int (q_i 0)]) (rest := []) cx hB (fun _ h => h) hN hmo kmo (by decide) rfl (r_goes0 l g hN hB.2.1 mo hmo kmo 0 (by decide) (by decide)) q_cX12_85 q_dX12_goes (by decide) rfl rfl hl.1 rfl (Nat.le_of_ble_eq_true rfl) dX12_truncate_12 (fun y26 H locs f25 ry26 h27 hF hB => ?_)
    obtain ⟨qy26, z28⟩ := h27
    have z29 : q_is (q_z f25 mo 2) xn := Eq.trans (hF.z hmo (by rw [kmo]; rfl)) hf0
    subst qy26
    refine q_ifne (tgt := 20) cx ⟨by decide, by decide⟩ dX12_truncate_15 (by decide) (fun c30 => ?_) (fun c30 => ?_)
    · exact absurd c30 (by omega)
    · refine q_iconst cx dX12_truncate_18 ?_
      refine q_iret cx hr hlk hB dX12_truncate_19 ⟨by decide, by decide⟩ ?_
      exact ⟨rfl, z29, z28⟩
set_option maxHeartbeats 4000000 in
set_option maxRecDepth 100000 in
theorem r_truncate_b (l : Launch) (g : q_G) {K : Nat → Nat} {L : List Nat} (hN : L.Nodup) {f : Nat → va_E} (hT : q_Ty g K L f) (mo : Nat) (hmo : mo ∈ L) (kmo : K mo = 12) (a0 : Int) (la0 : 0 ≤ a0) (ua0 : a0 ≤ 600) (xn : Int) (lxn : 0 ≤ xn) (uxn : xn ≤ 600) (hf0 : q_is (q_z f mo 2) xn) (hp0 : a0 ≤ xn) : q_Ct l g K L yX12_truncate cX12_truncate 2 (some .int) 2 41 [.ref mo, .int (q_i a0)] f [(12, 0, 0), (12, 2, 2)] (q_Pi (fun (z : Int) (f1 : Nat → va_E) => z = a0 ∧ q_is (q_z f1 mo 2) a0 ∧ q_is (q_z f1 mo 0) 0)) := by
  refine q_ofb (by decide +kernel) hN hT (Nat.le_of_ble_eq_true rfl) ?_
  intro p e s m below meth c ls cx hr hlk hB hl
  have hl : lv_has ls 2 [(0, .ref mo), (1, .int (q_i a0))] := hl
  obtain ⟨H, hH⟩ : ∃ H : Heap, H = s.heap := ⟨_, rfl⟩
  obtain ⟨locs, hlocs⟩ : ∃ z : List Loc, z = [] := ⟨_, rfl⟩
  rw [← hH, ← hlocs] at hB
  rw [← hH, ← hlocs]
  refine q_ald_n cx dX12_truncate_0 rfl (lv_at hl 0 rfl) ?_
  refine q_ild_n cx dX12_truncate_1 rfl (lv_at hl 1 rfl) ?_
  refine q_i2l cx ⟨by omega, by omega⟩ dX12_truncate_2 ?_
  refine q_lconst (z := 0) cx (by decide) dX12_truncate_3 ?_
  refine q_ald_n cx dX12_truncate_4 rfl (lv_at hl 0 rfl) ?_
  refine q_gX12_82 cx hB hmo kmo hf0 dX12_truncate_5 (fun lb19 ub19 => ?_)
  refine q_i2l cx ⟨by omega, by omega⟩ dX12_truncate_8 ?_
  refine q_cSi (As := [.long (q_l a0), .long (q_l 0), .long (q_l xn)]) (rest := [.ref mo]) cx hB (fun _ h => h) hN (r_isIn l g hN hB.2.1 a0 (by omega) (by omega) 0 (by decide) (by decide) xn (by omega) (by omega)) q_cX12_93 q_dX12_isIn (by decide) rfl rfl hl.1 rfl (Nat.le_of_ble_eq_true rfl) dX12_truncate_9 (fun y21 H locs f20 ry21 h22 hF hB => ?_)
  rcases h22 with h23 | h24
  · obtain ⟨rfl, qy21, t25, t26⟩ := h23
    subst qy21
    refine q_cVi (As := [.int (q_i 1)]) (rest := []) cx hB (fun _ h => h) hN hmo kmo (by decide) rfl (r_goes1 l g hN hB.2.1 mo hmo kmo 1 (by decide) (by decide)) q_cX12_85 q_dX12_goes (by decide) rfl rfl hl.1 rfl (Nat.le_of_ble_eq_true rfl) dX12_truncate_12 (fun y28 H locs f27 ry28 h29 hF hB => ?_)
    obtain ⟨qy28, z30⟩ := h29
    have z31 : q_is (q_z f27 mo 2) xn := Eq.trans (hF.z hmo (by rw [kmo]; rfl)) hf0
    subst qy28
    refine q_ifne (tgt := 20) cx ⟨by decide, by decide⟩ dX12_truncate_15 (by decide) (fun c32 => ?_) (fun c32 => ?_)
    · refine q_ald_n cx dX12_truncate_20 rfl (lv_at hl 0 rfl) ?_
      refine q_ild_n cx dX12_truncate_21 rfl (lv_at hl 1 rfl) ?_
      refine q_pX12_82 cx hB hmo kmo ⟨by omega, by omega⟩ (by omega) (by omega) rfl dX12_truncate_22 (fun H locs f33 ef33 z34 hB => ?_)
      have z35 : q_is (q_z f33 mo 0) 0 := by rw [ef33, q_setz (Or.inr (by decide))]; exact z30
      refine q_ild_n cx dX12_truncate_25 rfl (lv_at hl 1 rfl) ?_
      refine q_iret cx hr hlk hB dX12_truncate_26 ⟨by omega, by omega⟩ ?_
      exact ⟨rfl, z34, z35⟩
    · exact absurd c32 (by omega)
  · obtain ⟨rfl, qy21, t36⟩ := h24
    subst qy21
    exact False.elim (by have h7 : _ ∨ _ := t36; omega)
set_option maxHeartbeats 4000000 in
set_option maxRecDepth 100000 in
theorem r_truncate_c (l : Launch) (g : q_G) {K : Nat → Nat} {L : List Nat} (hN : L.Nodup) {f : Nat → va_E} (hT : q_Ty g K L f) (mo : Nat) (hmo : mo ∈ L) (kmo : K mo = 12) (a0 : Int) (la0 : 0 ≤ a0) (ua0 : a0 ≤ 2147483647) (xn : Int) (lxn : 0 ≤ xn) (uxn : xn ≤ 600) (hf0 : q_is (q_z f mo 2) xn) (hp0 : xn < a0) : q_Ct l g K L yX12_truncate cX12_truncate 2 (some .int) 2 41 [.ref mo, .int (q_i a0)] f [(12, 0, 0)] (q_Pi (fun (z : Int) (f1 : Nat → va_E) => z = 0 ∧ q_is (q_z f1 mo 2) xn ∧ q_is (q_z f1 mo 0) 1)) := by
  refine q_ofb (by decide +kernel) hN hT (Nat.le_of_ble_eq_true rfl) ?_
  intro p e s m below meth c ls cx hr hlk hB hl
  have hl : lv_has ls 2 [(0, .ref mo), (1, .int (q_i a0))] := hl
  obtain ⟨H, hH⟩ : ∃ H : Heap, H = s.heap := ⟨_, rfl⟩
  obtain ⟨locs, hlocs⟩ : ∃ z : List Loc, z = [] := ⟨_, rfl⟩
  rw [← hH, ← hlocs] at hB
  rw [← hH, ← hlocs]
  refine q_ald_n cx dX12_truncate_0 rfl (lv_at hl 0 rfl) ?_
  refine q_ild_n cx dX12_truncate_1 rfl (lv_at hl 1 rfl) ?_
  refine q_i2l cx ⟨by omega, by omega⟩ dX12_truncate_2 ?_
  refine q_lconst (z := 0) cx (by decide) dX12_truncate_3 ?_
  refine q_ald_n cx dX12_truncate_4 rfl (lv_at hl 0 rfl) ?_
  refine q_gX12_82 cx hB hmo kmo hf0 dX12_truncate_5 (fun lb16 ub16 => ?_)
  refine q_i2l cx ⟨by omega, by omega⟩ dX12_truncate_8 ?_
  refine q_cSi (As := [.long (q_l a0), .long (q_l 0), .long (q_l xn)]) (rest := [.ref mo]) cx hB (fun _ h => h) hN (r_isIn l g hN hB.2.1 a0 (by omega) (by omega) 0 (by decide) (by decide) xn (by omega) (by omega)) q_cX12_93 q_dX12_isIn (by decide) rfl rfl hl.1 rfl (Nat.le_of_ble_eq_true rfl) dX12_truncate_9 (fun y18 H locs f17 ry18 h19 hF hB => ?_)
  rcases h19 with h20 | h21
  · obtain ⟨rfl, qy18, t22, t23⟩ := h20
    subst qy18
    exact False.elim (by omega)
  · obtain ⟨rfl, qy18, t24⟩ := h21
    subst qy18
    refine q_cVi (As := [.int (q_i 0)]) (rest := []) cx hB (fun _ h => h) hN hmo kmo (by decide) rfl (r_goes0 l g hN hB.2.1 mo hmo kmo 0 (by decide) (by decide)) q_cX12_85 q_dX12_goes (by decide) rfl rfl hl.1 rfl (Nat.le_of_ble_eq_true rfl) dX12_truncate_12 (fun y26 H locs f25 ry26 h27 hF hB => ?_)
    obtain ⟨qy26, z28⟩ := h27
    have z29 : q_is (q_z f25 mo 2) xn := Eq.trans (hF.z hmo (by rw [kmo]; rfl)) hf0
    subst qy26
    refine q_ifne (tgt := 20) cx ⟨by decide, by decide⟩ dX12_truncate_15 (by decide) (fun c30 => ?_) (fun c30 => ?_)
    · exact absurd c30 (by omega)
    · refine q_iconst cx dX12_truncate_18 ?_
      refine q_iret cx hr hlk hB dX12_truncate_19 ⟨by decide, by decide⟩ ?_
      exact ⟨rfl, z29, z28⟩
set_option maxHeartbeats 4000000 in
set_option maxRecDepth 100000 in
theorem r_errorCode (l : Launch) (g : q_G) {K : Nat → Nat} {L : List Nat} (hN : L.Nodup) {f : Nat → va_E} (hT : q_Ty g K L f) (mo : Nat) (hmo : mo ∈ L) (kmo : K mo = 12) : q_Ct l g K L yX12_errorCode cX12_errorCode 1 (some .int) 0 0 [.ref mo] f [(12, 0, 0)] (q_Pi (fun (z : Int) (f1 : Nat → va_E) => True)) := by
  refine q_ofb (by decide +kernel) hN hT (Nat.le_of_ble_eq_true rfl) ?_
  intro p e s m below meth c ls cx hr hlk hB hl
  have hl : lv_has ls 1 [(0, .ref mo)] := hl
  obtain ⟨H, hH⟩ : ∃ H : Heap, H = s.heap := ⟨_, rfl⟩
  obtain ⟨locs, hlocs⟩ : ∃ z : List Loc, z = [] := ⟨_, rfl⟩
  rw [← hH, ← hlocs] at hB
  rw [← hH, ← hlocs]
  refine q_ald_n cx dX12_errorCode_0 rfl (lv_at hl 0 rfl) ?_
  refine q_iconst cx dX12_errorCode_1 ?_
  refine q_pX12_75 cx hB hmo kmo ⟨by decide, by decide⟩ (by decide) (by decide) rfl dX12_errorCode_2 (fun H locs f5 ef5 z6 hB => ?_)
  refine q_ald_n cx dX12_errorCode_5 rfl (lv_at hl 0 rfl) ?_
  obtain ⟨x7, ex7⟩ : ∃ zz, q_is (q_z f5 mo 10) zz := ⟨_, q_isr _⟩
  refine q_gX12_151 cx hB hmo kmo ex7 dX12_errorCode_6 (fun lb8 ub8 => ?_)
  refine q_iret cx hr hlk hB dX12_errorCode_9 ⟨by omega, by omega⟩ ?_
  trivial
set_option maxHeartbeats 4000000 in
set_option maxRecDepth 100000 in
theorem r_errorPosition (l : Launch) (g : q_G) {K : Nat → Nat} {L : List Nat} (hN : L.Nodup) {f : Nat → va_E} (hT : q_Ty g K L f) (mo : Nat) (hmo : mo ∈ L) (kmo : K mo = 12) : q_Ct l g K L yX12_errorPosition cX12_errorPosition 1 (some .int) 0 0 [.ref mo] f [(12, 0, 0)] (q_Pi (fun (z : Int) (f1 : Nat → va_E) => True)) := by
  refine q_ofb (by decide +kernel) hN hT (Nat.le_of_ble_eq_true rfl) ?_
  intro p e s m below meth c ls cx hr hlk hB hl
  have hl : lv_has ls 1 [(0, .ref mo)] := hl
  obtain ⟨H, hH⟩ : ∃ H : Heap, H = s.heap := ⟨_, rfl⟩
  obtain ⟨locs, hlocs⟩ : ∃ z : List Loc, z = [] := ⟨_, rfl⟩
  rw [← hH, ← hlocs] at hB
  rw [← hH, ← hlocs]
  refine q_ald_n cx dX12_errorPosition_0 rfl (lv_at hl 0 rfl) ?_
  refine q_iconst cx dX12_errorPosition_1 ?_
  refine q_pX12_75 cx hB hmo kmo ⟨by decide, by decide⟩ (by decide) (by decide) rfl dX12_errorPosition_2 (fun H locs f5 ef5 z6 hB => ?_)
  refine q_ald_n cx dX12_errorPosition_5 rfl (lv_at hl 0 rfl) ?_
  obtain ⟨x7, ex7⟩ : ∃ zz, q_is (q_z f5 mo 11) zz := ⟨_, q_isr _⟩
  refine q_gX12_17 cx hB hmo kmo ex7 dX12_errorPosition_6 (fun lb8 ub8 => ?_)
  refine q_iret cx hr hlk hB dX12_errorPosition_9 ⟨by omega, by omega⟩ ?_
  trivial
