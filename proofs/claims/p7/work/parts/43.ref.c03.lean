set_option maxHeartbeats 4000000 in
set_option maxRecDepth 100000 in
theorem r_passes (l : Launch) (g : q_G) {K : Nat → Nat} {L : List Nat} (hN : L.Nodup) {f : Nat → va_E} (hT : q_Ty g K L f) (mo : Nat) (hmo : mo ∈ L) (kmo : K mo = 12) (a0 : Int) (la0 : 0 ≤ a0) (ua0 : a0 ≤ 60) (sr : Nat) (hsr : sr ∈ L) (ksr : K sr = 151) (hp : Nat) (hhp : hp ∈ L) (khp : K hp = 159) (hr0 : q_ir (q_r f mo 13) sr) (hr1 : q_ir (q_r f mo 24) hp) (hgr : q_gr f sr) : q_Ct l g K L yX12_passes cX12_passes 7 (some .boolean) 6 135 [.ref mo, .int (q_i a0)] f [(12, 27, 28), (151, 12, 87), (151, 172, 657), (159, 0, 9)] (q_Pi (fun (z : Int) (f1 : Nat → va_E) => 0 ≤ z ∧ z ≤ 1 ∧ q_gr f1 sr)) := by
  refine q_ofb (by decide +kernel) hN hT (Nat.le_of_ble_eq_true rfl) ?_
  intro p e s m below meth c ls cx hr hlk hB hl
  have hl : lv_has ls 7 [(0, .ref mo), (1, .int (q_i a0))] := hl
  obtain ⟨H, hH⟩ : ∃ H : Heap, H = s.heap := ⟨_, rfl⟩
  obtain ⟨locs, hlocs⟩ : ∃ z : List Loc, z = [] := ⟨_, rfl⟩
  rw [← hH, ← hlocs] at hB
  rw [← hH, ← hlocs]
  refine q_ald_n cx dX12_passes_0 rfl (lv_at hl 0 rfl) ?_
  refine q_ild_n cx dX12_passes_1 rfl (lv_at hl 1 rfl) ?_
  refine q_iconst cx dX12_passes_2 ?_
  refine q_cVi (As := [.int (q_i a0), .int (q_i 2)]) (rest := []) cx hB (fun _ h => h) hN hmo kmo (by decide) rfl (r_ofMessage2 l g hN hB.2.1 mo hmo kmo a0 (by omega) (by omega) 2 (by decide) (by decide) sr hsr ksr hr0 hgr) q_cX12_308 q_dX12_ofMessage (by decide) rfl rfl hl.1 rfl (Nat.le_of_ble_eq_true rfl) dX12_passes_3 (fun y499 H locs f498 ry499 h500 hF hB => ?_)
  obtain ⟨rfl, ly499, uy499, t501⟩ := h500
  refine lv_istore_n (lv' := [(2, .int (q_i y499)), (0, .ref mo), (1, .int (q_i a0))]) cx.1 cx.2.1 dX12_passes_6 rfl hl (by decide) rfl (fun ls hl => ?_)
  refine q_ald_n cx dX12_passes_7 rfl (lv_at hl 1 rfl) ?_
  refine q_ild_n cx dX12_passes_8 rfl (lv_at hl 0 rfl) ?_
  refine q_ald_n cx dX12_passes_9 rfl (lv_at hl 1 rfl) ?_
  refine q_ild_n cx dX12_passes_10 rfl (lv_at hl 2 rfl) ?_
  refine q_iconst cx dX12_passes_11 ?_
  refine q_cVi (As := [.int (q_i a0), .int (q_i 1)]) (rest := [.int (q_i y499), .ref mo]) cx hB (fun _ h => h) hN hmo kmo (by decide) rfl (r_ofMessage1 l g hN hB.2.1 mo hmo kmo a0 (by omega) (by omega) 1 (by decide) (by decide) sr hsr ksr hr0 hgr) q_cX12_308 q_dX12_ofMessage (by decide) rfl rfl hl.1 rfl (Nat.le_of_ble_eq_true rfl) dX12_passes_12 (fun y503 H locs f502 ry503 h504 hF hB => ?_)
  obtain ⟨rfl, ly503, uy503⟩ := h504
  refine q_cVi (As := [.int (q_i y499), .int (q_i y503)]) (rest := []) cx hB (fun _ h => h) hN hmo kmo (by decide) rfl (r_nextOf l g hN hB.2.1 mo hmo kmo y499 (by omega) (by omega) y503 (by omega) (by omega) sr hsr ksr hp hhp khp hr0 hr1 hgr) q_cX12_311 q_dX12_nextOf (by decide) rfl rfl hl.1 rfl (Nat.le_of_ble_eq_true rfl) dX12_passes_15 (fun y506 H locs f505 ry506 h507 hF hB => ?_)
  obtain ⟨ly506, uy506⟩ := h507
  have z508 : q_ir (q_r f505 mo 13) sr := Eq.trans (hF.r hmo (by rw [kmo]; rfl)) hr0
  have z509 : q_ir (q_r f505 mo 24) hp := Eq.trans (hF.r hmo (by rw [kmo]; rfl)) hr1
  have g510 : q_gr f505 sr := q_gr_fr hgr (fun i9 _ => hF.z hsr (by rw [ksr]; rfl))
  refine lv_istore_n (lv' := [(3, .int (q_i y506)), (2, .int (q_i y499)), (0, .ref mo), (1, .int (q_i a0))]) cx.1 cx.2.1 dX12_passes_18 rfl hl (by decide) rfl (fun ls hl => ?_)
  refine q_ild_n cx dX12_passes_19 rfl (lv_at hl 0 rfl) ?_
  refine q_iconst cx dX12_passes_20 ?_
  refine q_iceq (tgt := 46) cx ⟨by omega, by omega⟩ ⟨by decide, by decide⟩ dX12_passes_21 (by decide) (fun c511 => ?_) (fun c511 => ?_)
  · refine q_iconst cx dX12_passes_46 ?_
    refine q_zret cx hr hlk hB dX12_passes_47 (by decide) (by decide) ?_
    exact ⟨(by decide), (by decide), g510⟩
  · refine q_ald_n cx dX12_passes_24 rfl (lv_at hl 2 rfl) ?_
    obtain ⟨x512, ex512⟩ : ∃ zz, q_is (q_z f505 mo 27) zz := ⟨_, q_isr _⟩
    refine q_gX12_314 cx hB hmo kmo ex512 dX12_passes_25 (fun lb513 ub513 => ?_)
    refine q_ild_n cx dX12_passes_28 rfl (lv_at hl 1 rfl) ?_
    refine q_cSi (As := [.int (q_i x512), .int (q_i y499)]) (rest := []) cx hB (fun _ h => h) hN (r_has l g hN hB.2.1 x512 (by omega) (by omega) y499 (by omega) (by omega)) q_cX12_185 q_dX12_has (by decide) rfl rfl hl.1 rfl (Nat.le_of_ble_eq_true rfl) dX12_passes_29 (fun y515 H locs f514 ry515 h516 hF hB => ?_)
    obtain ⟨rfl, ly515, uy515⟩ := h516
    refine q_ifne (tgt := 46) cx ⟨by omega, by omega⟩ dX12_passes_32 (by decide) (fun c517 => ?_) (fun c517 => ?_)
    · refine q_iconst cx dX12_passes_46 ?_
      refine q_zret cx hr hlk hB dX12_passes_47 (by decide) (by decide) ?_
      exact ⟨(by decide), (by decide), g510⟩
    · refine q_ald_n cx dX12_passes_35 rfl (lv_at hl 2 rfl) ?_
      obtain ⟨x518, ex518⟩ : ∃ zz, q_is (q_z f505 mo 28) zz := ⟨_, q_isr _⟩
      refine q_gX12_317 cx hB hmo kmo ex518 dX12_passes_36 (fun lb519 ub519 => ?_)
      refine q_ild_n cx dX12_passes_39 rfl (lv_at hl 0 rfl) ?_
      refine q_cSi (As := [.int (q_i x518), .int (q_i y506)]) (rest := []) cx hB (fun _ h => h) hN (r_has l g hN hB.2.1 x518 (by omega) (by omega) y506 (by omega) (by omega)) q_cX12_185 q_dX12_has (by decide) rfl rfl hl.1 rfl (Nat.le_of_ble_eq_true rfl) dX12_passes_40 (fun y521 H locs f520 ry521 h522 hF hB => ?_)
      obtain ⟨rfl, ly521, uy521⟩ := h522
      refine q_ifeq (tgt := 48) cx ⟨by omega, by omega⟩ dX12_passes_43 (by decide) (fun c523 => ?_) (fun c523 => ?_)
      · refine q_ald_n cx dX12_passes_48 rfl (lv_at hl 2 rfl) ?_
        obtain ⟨x524, ex524⟩ : ∃ zz, q_is (q_z f505 mo 26) zz := ⟨_, q_isr _⟩
        refine q_gX12_283 cx hB hmo kmo ex524 dX12_passes_49 (fun lb525 ub525 => ?_)
        refine q_ild_n cx dX12_passes_52 rfl (lv_at hl 1 rfl) ?_
        refine q_cSi (As := [.int (q_i x524), .int (q_i y499)]) (rest := []) cx hB (fun _ h => h) hN (r_has l g hN hB.2.1 x524 (by omega) (by omega) y499 (by omega) (by omega)) q_cX12_185 q_dX12_has (by decide) rfl rfl hl.1 rfl (Nat.le_of_ble_eq_true rfl) dX12_passes_53 (fun y527 H locs f526 ry527 h528 hF hB => ?_)
        obtain ⟨rfl, ly527, uy527⟩ := h528
        refine q_ifeq (tgt := 74) cx ⟨by omega, by omega⟩ dX12_passes_56 (by decide) (fun c529 => ?_) (fun c529 => ?_)
        · refine q_iconst cx dX12_passes_74 ?_
          refine lv_istore (lv' := [(4, .int (q_i 0)), (3, .int (q_i y506)), (2, .int (q_i y499)), (0, .ref mo), (1, .int (q_i a0))]) cx.1 cx.2.1 dX12_passes_75 hl (by decide) rfl (fun ls hl => ?_)
          refine lv_iload cx.1 cx.2.1 dX12_passes_77 (lv_at hl 0 rfl) ?_
          refine q_ifne (tgt := 93) cx ⟨by decide, by decide⟩ dX12_passes_79 (by decide) (fun c530 => ?_) (fun c530 => ?_)
          · exact absurd c530 (by omega)
          · refine q_ald_n cx dX12_passes_82 rfl (lv_at hl 3 rfl) ?_
            refine q_ild_n cx dX12_passes_83 rfl (lv_at hl 4 rfl) ?_
            refine q_iconst cx dX12_passes_84 ?_
            refine q_cVi (As := [.int (q_i a0), .int (q_i 5)]) (rest := []) cx hB (fun _ h => h) hN hmo kmo (by decide) rfl (r_ofMessage5 l g hN hB.2.1 mo hmo kmo a0 (by omega) (by omega) 5 (by decide) (by decide) sr hsr ksr z508 g510) q_cX12_308 q_dX12_ofMessage (by decide) rfl rfl hl.1 rfl (Nat.le_of_ble_eq_true rfl) dX12_passes_85 (fun y532 H locs f531 ry532 h533 hF hB => ?_)
            obtain ⟨rfl, ly532, uy532⟩ := h533
            refine q_ifne (tgt := 93) cx ⟨by omega, by omega⟩ dX12_passes_88 (by decide) (fun c534 => ?_) (fun c534 => ?_)
            · refine q_ald_n cx dX12_passes_93 rfl (lv_at hl 3 rfl) ?_
              refine q_gX12_20 cx hB hmo kmo z508 dX12_passes_94 (fun hb535 kb535 => ?_)
              refine q_bipush cx dX12_passes_97 rfl ?_
              obtain ⟨x536, ex536⟩ : ∃ zz, q_is (q_z f505 sr (Int.toNat 6)) zz := ⟨_, q_isr _⟩
              refine q_sald cx hB hsr ksr (by decide) (by decide) ex536 dX12_passes_99 (fun rx536 => ?_)
              obtain ⟨lx536, ux536⟩ : 0 ≤ x536 ∧ x536 ≤ 99 := q_isb ex536 (q_gr_at g510 (by decide) rfl)
              refine lv_iload cx.1 cx.2.1 dX12_passes_100 (lv_at hl 0 rfl) ?_
              refine q_ifeq (tgt := 109) cx ⟨by decide, by decide⟩ dX12_passes_102 (by decide) (fun c538 => ?_) (fun c538 => ?_)
              · refine q_ald_n cx dX12_passes_109 rfl (lv_at hl 3 rfl) ?_
                refine q_gX12_20 cx hB hmo kmo z508 dX12_passes_110 (fun hb539 kb539 => ?_)
                refine q_bipush cx dX12_passes_113 rfl ?_
                obtain ⟨x540, ex540⟩ : ∃ zz, q_is (q_z f505 sr (Int.toNat 7)) zz := ⟨_, q_isr _⟩
                refine q_sald cx hB hsr ksr (by decide) (by decide) ex540 dX12_passes_115 (fun rx540 => ?_)
                obtain ⟨lx540, ux540⟩ : 0 ≤ x540 ∧ x540 ≤ 99 := q_isb ex540 (q_gr_at g510 (by decide) rfl)
                refine q_iadd cx dX12_passes_116 ?_
                refine lv_istore (lv' := [(5, .int (q_i (x536 + x540))), (4, .int (q_i 0)), (3, .int (q_i y506)), (2, .int (q_i y499)), (0, .ref mo), (1, .int (q_i a0))]) cx.1 cx.2.1 dX12_passes_117 hl (by decide) rfl (fun ls hl => ?_)
                refine q_ald_n cx dX12_passes_119 rfl (lv_at hl 4 rfl) ?_
                refine q_ild_n cx dX12_passes_120 rfl (lv_at hl 3 rfl) ?_
                refine q_iconst cx dX12_passes_121 ?_
                refine q_cVi (As := [.int (q_i y499), .int (q_i 2)]) (rest := []) cx hB (fun _ h => h) hN hmo kmo (by decide) rfl (r_ofNode2 l g hN hB.2.1 mo hmo kmo y499 (by omega) (by omega) 2 (by decide) (by decide) sr hsr ksr z508 g510) q_cX12_256 q_dX12_ofNode (by decide) rfl rfl hl.1 rfl (Nat.le_of_ble_eq_true rfl) dX12_passes_122 (fun y543 H locs f542 ry543 h544 hF hB => ?_)
                obtain ⟨rfl, ly543, uy543, t545⟩ := h544
                refine lv_iload cx.1 cx.2.1 dX12_passes_125 (lv_at hl 0 rfl) ?_
                refine q_iclt (tgt := 141) cx ⟨by omega, by omega⟩ ⟨by omega, by omega⟩ dX12_passes_127 (by decide) (fun c546 => ?_) (fun c546 => ?_)
                · refine q_iconst cx dX12_passes_141 ?_
                  refine q_zret cx hr hlk hB dX12_passes_142 (by decide) (by decide) ?_
                  exact ⟨(by decide), (by decide), g510⟩
                · refine q_ald_n cx dX12_passes_130 rfl (lv_at hl 4 rfl) ?_
                  refine q_ild_n cx dX12_passes_131 rfl (lv_at hl 2 rfl) ?_
                  refine q_iconst cx dX12_passes_132 ?_
                  refine q_cVi (As := [.int (q_i y506), .int (q_i 2)]) (rest := []) cx hB (fun _ h => h) hN hmo kmo (by decide) rfl (r_ofNode2 l g hN hB.2.1 mo hmo kmo y506 (by omega) (by omega) 2 (by decide) (by decide) sr hsr ksr z508 g510) q_cX12_256 q_dX12_ofNode (by decide) rfl rfl hl.1 rfl (Nat.le_of_ble_eq_true rfl) dX12_passes_133 (fun y548 H locs f547 ry548 h549 hF hB => ?_)
                  obtain ⟨rfl, ly548, uy548, t550⟩ := h549
                  refine lv_iload cx.1 cx.2.1 dX12_passes_136 (lv_at hl 0 rfl) ?_
                  refine q_icge (tgt := 143) cx ⟨by omega, by omega⟩ ⟨by omega, by omega⟩ dX12_passes_138 (by decide) (fun c551 => ?_) (fun c551 => ?_)
                  · refine q_ald_n cx dX12_passes_143 rfl (lv_at hl 4 rfl) ?_
                    refine q_ild_n cx dX12_passes_144 rfl (lv_at hl 3 rfl) ?_
                    refine lv_iload cx.1 cx.2.1 dX12_passes_145 (lv_at hl 0 rfl) ?_
                    refine q_cVv (As := [.int (q_i y499), .int (q_i (x536 + x540))]) (rest := []) cx hB (fun _ h => h) hN hmo kmo (by decide) rfl (r_uses1 l g hN hB.2.1 mo hmo kmo y499 (by omega) (by omega) (x536 + x540) (by omega) (by omega) sr hsr ksr z508 (by omega) g510) q_cX12_295 q_dX12_uses (by decide) rfl rfl hl.1 rfl (Nat.le_of_ble_eq_true rfl) dX12_passes_147 (fun H locs f552 h554 hF hB => ?_)
                    obtain ⟨t555, g556⟩ := h554
                    have z557 : q_is (q_z f552 mo 27) x512 := Eq.trans (hF.z hmo (by rw [kmo]; rfl)) ex512
                    have z558 : q_is (q_z f552 mo 28) x518 := Eq.trans (hF.z hmo (by rw [kmo]; rfl)) ex518
                    have z559 : q_is (q_z f552 mo 26) x524 := Eq.trans (hF.z hmo (by rw [kmo]; rfl)) ex524
                    have z560 : q_is (q_z f552 sr 6) x536 := Eq.trans (hF.z hsr (by rw [ksr]; rfl)) ex536
                    have z561 : q_is (q_z f552 sr 7) x540 := Eq.trans (hF.z hsr (by rw [ksr]; rfl)) ex540
                    have z562 : q_ir (q_r f552 mo 13) sr := Eq.trans (hF.r hmo (by rw [kmo]; rfl)) z508
                    have z563 : q_ir (q_r f552 mo 24) hp := Eq.trans (hF.r hmo (by rw [kmo]; rfl)) z509
                    refine q_ald_n cx dX12_passes_150 rfl (lv_at hl 4 rfl) ?_
                    refine q_ild_n cx dX12_passes_151 rfl (lv_at hl 2 rfl) ?_
                    refine lv_iload cx.1 cx.2.1 dX12_passes_152 (lv_at hl 0 rfl) ?_
                    refine q_cVv (As := [.int (q_i y506), .int (q_i (x536 + x540))]) (rest := []) cx hB (fun _ h => h) hN hmo kmo (by decide) rfl (r_uses2 l g hN hB.2.1 mo hmo kmo y506 (by omega) (by omega) (x536 + x540) (by omega) (by omega) sr hsr ksr z562 (by have h7 := t555 y506 (by omega) (by omega); omega) g556) q_cX12_295 q_dX12_uses (by decide) rfl rfl hl.1 rfl (Nat.le_of_ble_eq_true rfl) dX12_passes_154 (fun H locs f564 h566 hF hB => ?_)
                    have g567 := h566
                    have z568 : q_is (q_z f564 mo 27) x512 := Eq.trans (hF.z hmo (by rw [kmo]; rfl)) z557
                    have z569 : q_is (q_z f564 mo 28) x518 := Eq.trans (hF.z hmo (by rw [kmo]; rfl)) z558
                    have z570 : q_is (q_z f564 mo 26) x524 := Eq.trans (hF.z hmo (by rw [kmo]; rfl)) z559
                    have z571 : q_is (q_z f564 sr 6) x536 := Eq.trans (hF.z hsr (by rw [ksr]; rfl)) z560
                    have z572 : q_is (q_z f564 sr 7) x540 := Eq.trans (hF.z hsr (by rw [ksr]; rfl)) z561
                    have z573 : q_ir (q_r f564 mo 13) sr := Eq.trans (hF.r hmo (by rw [kmo]; rfl)) z562
                    have z574 : q_ir (q_r f564 mo 24) hp := Eq.trans (hF.r hmo (by rw [kmo]; rfl)) z563
                    refine q_ald_n cx dX12_passes_157 rfl (lv_at hl 4 rfl) ?_
                    refine lv_dup cx.1 cx.2.1 dX12_passes_158 rfl ?_
                    refine q_gX12_314 cx hB hmo kmo z568 dX12_passes_159 (fun lb575 ub575 => ?_)
                    refine q_iconst cx dX12_passes_162 ?_
                    refine q_ild_n cx dX12_passes_163 rfl (lv_at hl 3 rfl) ?_
                    refine q_ishl cx dX12_passes_164 (fun y576 ry576 ey576 => ?_)
                    refine q_ior cx dX12_passes_165 (fun y577 ry577 ey577 => ?_)
                    refine q_pX12_314 cx hB hmo kmo ⟨by omega, by omega⟩ (by omega) (by omega) rfl dX12_passes_166 (fun H locs f578 ef578 z579 hB => ?_)
                    have z580 : q_is (q_z f578 mo 28) x518 := by rw [ef578, q_setz (Or.inr (by decide))]; exact z569
                    have z581 : q_is (q_z f578 mo 26) x524 := by rw [ef578, q_setz (Or.inr (by decide))]; exact z570
                    have z582 : q_is (q_z f578 sr 6) x536 := by rw [ef578, q_setz (Or.inr (by decide))]; exact z571
                    have z583 : q_is (q_z f578 sr 7) x540 := by rw [ef578, q_setz (Or.inr (by decide))]; exact z572
                    have z584 : q_ir (q_r f578 mo 13) sr := by rw [ef578, q_setr (Or.inr (by decide))]; exact z573
                    have z585 : q_ir (q_r f578 mo 24) hp := by rw [ef578, q_setr (Or.inr (by decide))]; exact z574
                    have g586 : q_gr f578 sr := q_gr_ne g567 ef578 (fun q => q_kne (k := 151) (k2 := 12) (by decide) ksr kmo q)
                    refine q_ald_n cx dX12_passes_169 rfl (lv_at hl 4 rfl) ?_
                    refine lv_dup cx.1 cx.2.1 dX12_passes_170 rfl ?_
                    refine q_gX12_317 cx hB hmo kmo z580 dX12_passes_171 (fun lb587 ub587 => ?_)
                    refine q_iconst cx dX12_passes_174 ?_
                    refine q_ild_n cx dX12_passes_175 rfl (lv_at hl 2 rfl) ?_
                    refine q_ishl cx dX12_passes_176 (fun y588 ry588 ey588 => ?_)
                    refine q_ior cx dX12_passes_177 (fun y589 ry589 ey589 => ?_)
                    refine q_pX12_317 cx hB hmo kmo ⟨by omega, by omega⟩ (by omega) (by omega) rfl dX12_passes_178 (fun H locs f590 ef590 z591 hB => ?_)
                    have z592 : q_is (q_z f590 mo 26) x524 := by rw [ef590, q_setz (Or.inr (by decide))]; exact z581
                    have z593 : q_is (q_z f590 sr 6) x536 := by rw [ef590, q_setz (Or.inr (by decide))]; exact z582
                    have z594 : q_is (q_z f590 sr 7) x540 := by rw [ef590, q_setz (Or.inr (by decide))]; exact z583
                    have z595 : q_is (q_z f590 mo 27) y577 := by rw [ef590, q_setz (Or.inr (by decide))]; exact z579
                    have z596 : q_ir (q_r f590 mo 13) sr := by rw [ef590, q_setr (Or.inr (by decide))]; exact z584
                    have z597 : q_ir (q_r f590 mo 24) hp := by rw [ef590, q_setr (Or.inr (by decide))]; exact z585
                    have g598 : q_gr f590 sr := q_gr_ne g586 ef590 (fun q => q_kne (k := 151) (k2 := 12) (by decide) ksr kmo q)
                    refine q_ald_n cx dX12_passes_181 rfl (lv_at hl 4 rfl) ?_
                    refine q_ild_n cx dX12_passes_182 rfl (lv_at hl 3 rfl) ?_
                    refine q_iconst cx dX12_passes_183 ?_
                    refine q_ald_n cx dX12_passes_184 rfl (lv_at hl 4 rfl) ?_
                    refine q_ild_n cx dX12_passes_185 rfl (lv_at hl 3 rfl) ?_
                    refine q_iconst cx dX12_passes_186 ?_
                    refine q_cVi (As := [.int (q_i y499), .int (q_i 4)]) (rest := [.int (q_i 4), .int (q_i y499), .ref mo]) cx hB (fun _ h => h) hN hmo kmo (by decide) rfl (r_ofNode4 l g hN hB.2.1 mo hmo kmo y499 (by omega) (by omega) 4 (by decide) (by decide) sr hsr ksr z596 g598) q_cX12_256 q_dX12_ofNode (by decide) rfl rfl hl.1 rfl (Nat.le_of_ble_eq_true rfl) dX12_passes_187 (fun y600 H locs f599 ry600 h601 hF hB => ?_)
                    obtain rfl := h601
                    refine q_iconst cx dX12_passes_190 ?_
                    refine q_iadd cx dX12_passes_191 ?_
                    refine q_any (fun y602 ry602 ey602 => ?_)
                    refine q_cVv (As := [.int (q_i y499), .int (q_i 4), .int (q_i y602)]) (rest := []) cx hB (fun _ h => h) hN hmo kmo (by decide) rfl (r_setsNode4 l g hN hB.2.1 mo hmo kmo y499 (by omega) (by omega) 4 (by decide) (by decide) y602 (by omega) (by omega) sr hsr ksr z596 g598) q_cX12_202 q_dX12_setsNode (by decide) rfl rfl hl.1 rfl (Nat.le_of_ble_eq_true rfl) dX12_passes_192 (fun H locs f603 h605 hF hB => ?_)
                    have g606 := h605
                    have z607 : q_is (q_z f603 mo 26) x524 := Eq.trans (hF.z hmo (by rw [kmo]; rfl)) z592
                    have z608 : q_is (q_z f603 sr 6) x536 := Eq.trans (hF.z hsr (by rw [ksr]; rfl)) z593
                    have z609 : q_is (q_z f603 sr 7) x540 := Eq.trans (hF.z hsr (by rw [ksr]; rfl)) z594
                    have z610 : q_is (q_z f603 mo 27) y577 := Eq.trans (hF.z hmo (by rw [kmo]; rfl)) z595
                    have z611 : q_is (q_z f603 mo 28) y589 := Eq.trans (hF.z hmo (by rw [kmo]; rfl)) z591
                    have z612 : q_ir (q_r f603 mo 13) sr := Eq.trans (hF.r hmo (by rw [kmo]; rfl)) z596
                    have z613 : q_ir (q_r f603 mo 24) hp := Eq.trans (hF.r hmo (by rw [kmo]; rfl)) z597
                    refine q_ald_n cx dX12_passes_195 rfl (lv_at hl 4 rfl) ?_
                    refine q_ild_n cx dX12_passes_196 rfl (lv_at hl 2 rfl) ?_
                    refine q_iconst cx dX12_passes_197 ?_
                    refine q_ald_n cx dX12_passes_198 rfl (lv_at hl 4 rfl) ?_
                    refine q_ild_n cx dX12_passes_199 rfl (lv_at hl 2 rfl) ?_
                    refine q_iconst cx dX12_passes_200 ?_
                    refine q_cVi (As := [.int (q_i y506), .int (q_i 5)]) (rest := [.int (q_i 5), .int (q_i y506), .ref mo]) cx hB (fun _ h => h) hN hmo kmo (by decide) rfl (r_ofNode5 l g hN hB.2.1 mo hmo kmo y506 (by omega) (by omega) 5 (by decide) (by decide) sr hsr ksr z612 g606) q_cX12_256 q_dX12_ofNode (by decide) rfl rfl hl.1 rfl (Nat.le_of_ble_eq_true rfl) dX12_passes_201 (fun y615 H locs f614 ry615 h616 hF hB => ?_)
                    obtain rfl := h616
                    refine q_iconst cx dX12_passes_204 ?_
                    refine q_iadd cx dX12_passes_205 ?_
                    refine q_any (fun y617 ry617 ey617 => ?_)
                    refine q_cVv (As := [.int (q_i y506), .int (q_i 5), .int (q_i y617)]) (rest := []) cx hB (fun _ h => h) hN hmo kmo (by decide) rfl (r_setsNode5 l g hN hB.2.1 mo hmo kmo y506 (by omega) (by omega) 5 (by decide) (by decide) y617 (by omega) (by omega) sr hsr ksr z612 g606) q_cX12_202 q_dX12_setsNode (by decide) rfl rfl hl.1 rfl (Nat.le_of_ble_eq_true rfl) dX12_passes_206 (fun H locs f618 h620 hF hB => ?_)
                    have g621 := h620
                    have z622 : q_is (q_z f618 mo 26) x524 := Eq.trans (hF.z hmo (by rw [kmo]; rfl)) z607
                    have z623 : q_is (q_z f618 sr 6) x536 := Eq.trans (hF.z hsr (by rw [ksr]; rfl)) z608
                    have z624 : q_is (q_z f618 sr 7) x540 := Eq.trans (hF.z hsr (by rw [ksr]; rfl)) z609
                    have z625 : q_is (q_z f618 mo 27) y577 := Eq.trans (hF.z hmo (by rw [kmo]; rfl)) z610
                    have z626 : q_is (q_z f618 mo 28) y589 := Eq.trans (hF.z hmo (by rw [kmo]; rfl)) z611
                    have z627 : q_ir (q_r f618 mo 13) sr := Eq.trans (hF.r hmo (by rw [kmo]; rfl)) z612
                    have z628 : q_ir (q_r f618 mo 24) hp := Eq.trans (hF.r hmo (by rw [kmo]; rfl)) z613
                    refine q_ald_n cx dX12_passes_209 rfl (lv_at hl 4 rfl) ?_
                    refine q_ild_n cx dX12_passes_210 rfl (lv_at hl 5 rfl) ?_
                    refine q_iconst cx dX12_passes_211 ?_
                    refine q_ild_n cx dX12_passes_212 rfl (lv_at hl 2 rfl) ?_
                    refine q_cVv (As := [.int (q_i a0), .int (q_i 2), .int (q_i y506)]) (rest := []) cx hB (fun _ h => h) hN hmo kmo (by decide) rfl (r_setsMessage2 l g hN hB.2.1 mo hmo kmo a0 (by omega) (by omega) 2 (by decide) (by decide) y506 (by omega) (by omega) sr hsr ksr z627 g621) q_cX12_320 q_dX12_setsMessage (by decide) rfl rfl hl.1 rfl (Nat.le_of_ble_eq_true rfl) dX12_passes_213 (fun H locs f629 h631 hF hB => ?_)
                    have g632 := h631
                    have z633 : q_is (q_z f629 mo 26) x524 := Eq.trans (hF.z hmo (by rw [kmo]; rfl)) z622
                    have z634 : q_is (q_z f629 sr 6) x536 := Eq.trans (hF.z hsr (by rw [ksr]; rfl)) z623
                    have z635 : q_is (q_z f629 sr 7) x540 := Eq.trans (hF.z hsr (by rw [ksr]; rfl)) z624
                    have z636 : q_is (q_z f629 mo 27) y577 := Eq.trans (hF.z hmo (by rw [kmo]; rfl)) z625
                    have z637 : q_is (q_z f629 mo 28) y589 := Eq.trans (hF.z hmo (by rw [kmo]; rfl)) z626
                    have z638 : q_ir (q_r f629 mo 13) sr := Eq.trans (hF.r hmo (by rw [kmo]; rfl)) z627
                    have z639 : q_ir (q_r f629 mo 24) hp := Eq.trans (hF.r hmo (by rw [kmo]; rfl)) z628
                    refine q_ald_n cx dX12_passes_216 rfl (lv_at hl 4 rfl) ?_
                    refine q_ild_n cx dX12_passes_217 rfl (lv_at hl 5 rfl) ?_
                    refine q_bipush cx dX12_passes_218 rfl ?_
                    refine q_ald_n cx dX12_passes_220 rfl (lv_at hl 4 rfl) ?_
                    refine q_ild_n cx dX12_passes_221 rfl (lv_at hl 5 rfl) ?_
                    refine q_bipush cx dX12_passes_222 rfl ?_
                    refine q_cVi (As := [.int (q_i a0), .int (q_i 7)]) (rest := [.int (q_i 7), .int (q_i a0), .ref mo]) cx hB (fun _ h => h) hN hmo kmo (by decide) rfl (r_ofMessage7 l g hN hB.2.1 mo hmo kmo a0 (by omega) (by omega) 7 (by decide) (by decide) sr hsr ksr z638 g632) q_cX12_308 q_dX12_ofMessage (by decide) rfl rfl hl.1 rfl (Nat.le_of_ble_eq_true rfl) dX12_passes_224 (fun y641 H locs f640 ry641 h642 hF hB => ?_)
                    obtain rfl := h642
                    refine q_iconst cx dX12_passes_227 ?_
                    refine q_iadd cx dX12_passes_228 ?_
                    refine q_any (fun y643 ry643 ey643 => ?_)
                    refine q_cVv (As := [.int (q_i a0), .int (q_i 7), .int (q_i y643)]) (rest := []) cx hB (fun _ h => h) hN hmo kmo (by decide) rfl (r_setsMessage7 l g hN hB.2.1 mo hmo kmo a0 (by omega) (by omega) 7 (by decide) (by decide) y643 (by omega) (by omega) sr hsr ksr z638 g632) q_cX12_320 q_dX12_setsMessage (by decide) rfl rfl hl.1 rfl (Nat.le_of_ble_eq_true rfl) dX12_passes_229 (fun H locs f644 h646 hF hB => ?_)
                    have g647 := h646
                    have z648 : q_is (q_z f644 mo 26) x524 := Eq.trans (hF.z hmo (by rw [kmo]; rfl)) z633
                    have z649 : q_is (q_z f644 sr 6) x536 := Eq.trans (hF.z hsr (by rw [ksr]; rfl)) z634
                    have z650 : q_is (q_z f644 sr 7) x540 := Eq.trans (hF.z hsr (by rw [ksr]; rfl)) z635
                    have z651 : q_is (q_z f644 mo 27) y577 := Eq.trans (hF.z hmo (by rw [kmo]; rfl)) z636
                    have z652 : q_is (q_z f644 mo 28) y589 := Eq.trans (hF.z hmo (by rw [kmo]; rfl)) z637
                    have z653 : q_ir (q_r f644 mo 13) sr := Eq.trans (hF.r hmo (by rw [kmo]; rfl)) z638
                    have z654 : q_ir (q_r f644 mo 24) hp := Eq.trans (hF.r hmo (by rw [kmo]; rfl)) z639
                    refine q_ild_n cx dX12_passes_232 rfl (lv_at hl 2 rfl) ?_
                    refine q_ald_n cx dX12_passes_233 rfl (lv_at hl 4 rfl) ?_
                    refine q_ild_n cx dX12_passes_234 rfl (lv_at hl 5 rfl) ?_
                    refine q_iconst cx dX12_passes_235 ?_
                    refine q_cVi (As := [.int (q_i a0), .int (q_i 1)]) (rest := [.int (q_i y506)]) cx hB (fun _ h => h) hN hmo kmo (by decide) rfl (r_ofMessage1 l g hN hB.2.1 mo hmo kmo a0 (by omega) (by omega) 1 (by decide) (by decide) sr hsr ksr z653 g647) q_cX12_308 q_dX12_ofMessage (by decide) rfl rfl hl.1 rfl (Nat.le_of_ble_eq_true rfl) dX12_passes_236 (fun y656 H locs f655 ry656 h657 hF hB => ?_)
                    obtain ⟨rfl, ly656, uy656⟩ := h657
                    refine q_icne (tgt := 246) cx ⟨by omega, by omega⟩ ⟨by omega, by omega⟩ dX12_passes_239 (by decide) (fun c658 => ?_) (fun c658 => ?_)
                    · refine q_iconst cx dX12_passes_246 ?_
                      refine lv_istore (lv' := [(6, .int (q_i 0)), (5, .int (q_i (x536 + x540))), (4, .int (q_i 0)), (3, .int (q_i y506)), (2, .int (q_i y499)), (0, .ref mo), (1, .int (q_i a0))]) cx.1 cx.2.1 dX12_passes_247 hl (by decide) rfl (fun ls hl => ?_)
                      refine lv_iload cx.1 cx.2.1 dX12_passes_249 (lv_at hl 0 rfl) ?_
                      refine q_ifeq (tgt := 261) cx ⟨by decide, by decide⟩ dX12_passes_251 (by decide) (fun c659 => ?_) (fun c659 => ?_)
                      · refine lv_iload cx.1 cx.2.1 dX12_passes_261 (lv_at hl 0 rfl) ?_
                        refine q_ifeq (tgt := 279) cx ⟨by decide, by decide⟩ dX12_passes_263 (by decide) (fun c660 => ?_) (fun c660 => ?_)
                        · refine lv_iload cx.1 cx.2.1 dX12_passes_279 (lv_at hl 0 rfl) ?_
                          refine q_zret cx hr hlk hB dX12_passes_281 (by decide) (by decide) ?_
                          exact ⟨(by decide), (by decide), g647⟩
                        · exact absurd c660 (by omega)
                      · exact absurd c659 (by omega)
                    · refine q_iconst cx dX12_passes_242 ?_
                      refine lv_goto (tgt := 247) cx.1 cx.2.1 dX12_passes_243 (by decide) ?_
                      refine lv_istore (lv' := [(6, .int (q_i 1)), (5, .int (q_i (x536 + x540))), (4, .int (q_i 0)), (3, .int (q_i y506)), (2, .int (q_i y499)), (0, .ref mo), (1, .int (q_i a0))]) cx.1 cx.2.1 dX12_passes_247 hl (by decide) rfl (fun ls hl => ?_)
                      refine lv_iload cx.1 cx.2.1 dX12_passes_249 (lv_at hl 0 rfl) ?_
                      refine q_ifeq (tgt := 261) cx ⟨by decide, by decide⟩ dX12_passes_251 (by decide) (fun c661 => ?_) (fun c661 => ?_)
                      · exact absurd c661 (by omega)
                      · refine q_ald_n cx dX12_passes_254 rfl (lv_at hl 5 rfl) ?_
                        refine q_ild_n cx dX12_passes_255 rfl (lv_at hl 6 rfl) ?_
                        refine q_iconst cx dX12_passes_256 ?_
                        refine q_iconst cx dX12_passes_257 ?_
                        refine q_cVv (As := [.int (q_i a0), .int (q_i 3), .int (q_i 1)]) (rest := []) cx hB (fun _ h => h) hN hmo kmo (by decide) rfl (r_setsMessage3 l g hN hB.2.1 mo hmo kmo a0 (by omega) (by omega) 3 (by decide) (by decide) 1 (by decide) (by decide) sr hsr ksr z653 g647) q_cX12_320 q_dX12_setsMessage (by decide) rfl rfl hl.1 rfl (Nat.le_of_ble_eq_true rfl) dX12_passes_258 (fun H locs f662 h664 hF hB => ?_)
                        have g665 := h664
                        have z666 : q_is (q_z f662 mo 26) x524 := Eq.trans (hF.z hmo (by rw [kmo]; rfl)) z648
                        have z667 : q_is (q_z f662 sr 6) x536 := Eq.trans (hF.z hsr (by rw [ksr]; rfl)) z649
                        have z668 : q_is (q_z f662 sr 7) x540 := Eq.trans (hF.z hsr (by rw [ksr]; rfl)) z650
                        have z669 : q_is (q_z f662 mo 27) y577 := Eq.trans (hF.z hmo (by rw [kmo]; rfl)) z651
                        have z670 : q_is (q_z f662 mo 28) y589 := Eq.trans (hF.z hmo (by rw [kmo]; rfl)) z652
                        have z671 : q_ir (q_r f662 mo 13) sr := Eq.trans (hF.r hmo (by rw [kmo]; rfl)) z653
                        have z672 : q_ir (q_r f662 mo 24) hp := Eq.trans (hF.r hmo (by rw [kmo]; rfl)) z654
                        refine lv_iload cx.1 cx.2.1 dX12_passes_261 (lv_at hl 0 rfl) ?_
                        refine q_ifeq (tgt := 279) cx ⟨by decide, by decide⟩ dX12_passes_263 (by decide) (fun c673 => ?_) (fun c673 => ?_)
                        · exact absurd c673 (by omega)
                        · refine q_ald_n cx dX12_passes_266 rfl (lv_at hl 5 rfl) ?_
                          refine q_ild_n cx dX12_passes_267 rfl (lv_at hl 6 rfl) ?_
                          refine q_bipush cx dX12_passes_268 rfl ?_
                          refine q_ald_n cx dX12_passes_270 rfl (lv_at hl 5 rfl) ?_
                          refine q_gX12_20 cx hB hmo kmo z671 dX12_passes_271 (fun hb674 kb674 => ?_)
                          refine q_iconst cx dX12_passes_274 ?_
                          obtain ⟨x675, ex675⟩ : ∃ zz, q_is (q_z f662 sr (Int.toNat 3)) zz := ⟨_, q_isr _⟩
                          refine q_sald cx hB hsr ksr (by decide) (by decide) ex675 dX12_passes_275 (fun rx675 => ?_)
                          obtain ⟨lx675, ux675⟩ : 0 ≤ x675 ∧ x675 ≤ 20000 := q_isb ex675 (q_gr_at g665 (by decide) rfl)
                          refine q_cVv (As := [.int (q_i a0), .int (q_i 6), .int (q_i x675)]) (rest := []) cx hB (fun _ h => h) hN hmo kmo (by decide) rfl (r_setsMessage6 l g hN hB.2.1 mo hmo kmo a0 (by omega) (by omega) 6 (by decide) (by decide) x675 (by omega) (by omega) sr hsr ksr z671 g665) q_cX12_320 q_dX12_setsMessage (by decide) rfl rfl hl.1 rfl (Nat.le_of_ble_eq_true rfl) dX12_passes_276 (fun H locs f677 h679 hF hB => ?_)
                          have g680 := h679
                          have z681 : q_is (q_z f677 mo 26) x524 := Eq.trans (hF.z hmo (by rw [kmo]; rfl)) z666
                          have z682 : q_is (q_z f677 sr 6) x536 := Eq.trans (hF.z hsr (by rw [ksr]; rfl)) z667
                          have z683 : q_is (q_z f677 sr 7) x540 := Eq.trans (hF.z hsr (by rw [ksr]; rfl)) z668
                          have z684 : q_is (q_z f677 mo 27) y577 := Eq.trans (hF.z hmo (by rw [kmo]; rfl)) z669
                          have z685 : q_is (q_z f677 mo 28) y589 := Eq.trans (hF.z hmo (by rw [kmo]; rfl)) z670
                          have z686 : q_is (q_z f677 sr 3) x675 := Eq.trans (hF.z hsr (by rw [ksr]; rfl)) ex675
                          have z687 : q_ir (q_r f677 mo 13) sr := Eq.trans (hF.r hmo (by rw [kmo]; rfl)) z671
                          have z688 : q_ir (q_r f677 mo 24) hp := Eq.trans (hF.r hmo (by rw [kmo]; rfl)) z672
                          refine lv_iload cx.1 cx.2.1 dX12_passes_279 (lv_at hl 0 rfl) ?_
                          refine q_zret cx hr hlk hB dX12_passes_281 (by decide) (by decide) ?_
                          exact ⟨(by decide), (by decide), g680⟩
                  · refine q_iconst cx dX12_passes_141 ?_
                    refine q_zret cx hr hlk hB dX12_passes_142 (by decide) (by decide) ?_
                    exact ⟨(by decide), (by decide), g510⟩
              · exact absurd c538 (by omega)
            · refine q_iconst cx dX12_passes_91 ?_
              refine q_zret cx hr hlk hB dX12_passes_92 (by decide) (by decide) ?_
              exact ⟨(by decide), (by decide), g510⟩
        · refine q_ald_n cx dX12_passes_59 rfl (lv_at hl 2 rfl) ?_
          refine q_gX12_283 cx hB hmo kmo ex524 dX12_passes_60 (fun lb689 ub689 => ?_)
          refine q_ild_n cx dX12_passes_63 rfl (lv_at hl 0 rfl) ?_
          refine q_cSi (As := [.int (q_i x524), .int (q_i y506)]) (rest := []) cx hB (fun _ h => h) hN (r_has l g hN hB.2.1 x524 (by omega) (by omega) y506 (by omega) (by omega)) q_cX12_185 q_dX12_has (by decide) rfl rfl hl.1 rfl (Nat.le_of_ble_eq_true rfl) dX12_passes_64 (fun y691 H locs f690 ry691 h692 hF hB => ?_)
          obtain ⟨rfl, ly691, uy691⟩ := h692
          refine q_ifeq (tgt := 74) cx ⟨by omega, by omega⟩ dX12_passes_67 (by decide) (fun c693 => ?_) (fun c693 => ?_)
          · refine q_iconst cx dX12_passes_74 ?_
            refine lv_istore (lv' := [(4, .int (q_i 0)), (3, .int (q_i y506)), (2, .int (q_i y499)), (0, .ref mo), (1, .int (q_i a0))]) cx.1 cx.2.1 dX12_passes_75 hl (by decide) rfl (fun ls hl => ?_)
            refine lv_iload cx.1 cx.2.1 dX12_passes_77 (lv_at hl 0 rfl) ?_
            refine q_ifne (tgt := 93) cx ⟨by decide, by decide⟩ dX12_passes_79 (by decide) (fun c694 => ?_) (fun c694 => ?_)
            · exact absurd c694 (by omega)
            · refine q_ald_n cx dX12_passes_82 rfl (lv_at hl 3 rfl) ?_
              refine q_ild_n cx dX12_passes_83 rfl (lv_at hl 4 rfl) ?_
              refine q_iconst cx dX12_passes_84 ?_
              refine q_cVi (As := [.int (q_i a0), .int (q_i 5)]) (rest := []) cx hB (fun _ h => h) hN hmo kmo (by decide) rfl (r_ofMessage5 l g hN hB.2.1 mo hmo kmo a0 (by omega) (by omega) 5 (by decide) (by decide) sr hsr ksr z508 g510) q_cX12_308 q_dX12_ofMessage (by decide) rfl rfl hl.1 rfl (Nat.le_of_ble_eq_true rfl) dX12_passes_85 (fun y696 H locs f695 ry696 h697 hF hB => ?_)
              obtain ⟨rfl, ly696, uy696⟩ := h697
              refine q_ifne (tgt := 93) cx ⟨by omega, by omega⟩ dX12_passes_88 (by decide) (fun c698 => ?_) (fun c698 => ?_)
              · refine q_ald_n cx dX12_passes_93 rfl (lv_at hl 3 rfl) ?_
                refine q_gX12_20 cx hB hmo kmo z508 dX12_passes_94 (fun hb699 kb699 => ?_)
                refine q_bipush cx dX12_passes_97 rfl ?_
                obtain ⟨x700, ex700⟩ : ∃ zz, q_is (q_z f505 sr (Int.toNat 6)) zz := ⟨_, q_isr _⟩
                refine q_sald cx hB hsr ksr (by decide) (by decide) ex700 dX12_passes_99 (fun rx700 => ?_)
                obtain ⟨lx700, ux700⟩ : 0 ≤ x700 ∧ x700 ≤ 99 := q_isb ex700 (q_gr_at g510 (by decide) rfl)
                refine lv_iload cx.1 cx.2.1 dX12_passes_100 (lv_at hl 0 rfl) ?_
                refine q_ifeq (tgt := 109) cx ⟨by decide, by decide⟩ dX12_passes_102 (by decide) (fun c702 => ?_) (fun c702 => ?_)
                · refine q_ald_n cx dX12_passes_109 rfl (lv_at hl 3 rfl) ?_
                  refine q_gX12_20 cx hB hmo kmo z508 dX12_passes_110 (fun hb703 kb703 => ?_)
                  refine q_bipush cx dX12_passes_113 rfl ?_
                  obtain ⟨x704, ex704⟩ : ∃ zz, q_is (q_z f505 sr (Int.toNat 7)) zz := ⟨_, q_isr _⟩
                  refine q_sald cx hB hsr ksr (by decide) (by decide) ex704 dX12_passes_115 (fun rx704 => ?_)
                  obtain ⟨lx704, ux704⟩ : 0 ≤ x704 ∧ x704 ≤ 99 := q_isb ex704 (q_gr_at g510 (by decide) rfl)
                  refine q_iadd cx dX12_passes_116 ?_
                  refine lv_istore (lv' := [(5, .int (q_i (x700 + x704))), (4, .int (q_i 0)), (3, .int (q_i y506)), (2, .int (q_i y499)), (0, .ref mo), (1, .int (q_i a0))]) cx.1 cx.2.1 dX12_passes_117 hl (by decide) rfl (fun ls hl => ?_)
                  refine q_ald_n cx dX12_passes_119 rfl (lv_at hl 4 rfl) ?_
                  refine q_ild_n cx dX12_passes_120 rfl (lv_at hl 3 rfl) ?_
                  refine q_iconst cx dX12_passes_121 ?_
                  refine q_cVi (As := [.int (q_i y499), .int (q_i 2)]) (rest := []) cx hB (fun _ h => h) hN hmo kmo (by decide) rfl (r_ofNode2 l g hN hB.2.1 mo hmo kmo y499 (by omega) (by omega) 2 (by decide) (by decide) sr hsr ksr z508 g510) q_cX12_256 q_dX12_ofNode (by decide) rfl rfl hl.1 rfl (Nat.le_of_ble_eq_true rfl) dX12_passes_122 (fun y707 H locs f706 ry707 h708 hF hB => ?_)
                  obtain ⟨rfl, ly707, uy707, t709⟩ := h708
                  refine lv_iload cx.1 cx.2.1 dX12_passes_125 (lv_at hl 0 rfl) ?_
                  refine q_iclt (tgt := 141) cx ⟨by omega, by omega⟩ ⟨by omega, by omega⟩ dX12_passes_127 (by decide) (fun c710 => ?_) (fun c710 => ?_)
                  · refine q_iconst cx dX12_passes_141 ?_
                    refine q_zret cx hr hlk hB dX12_passes_142 (by decide) (by decide) ?_
                    exact ⟨(by decide), (by decide), g510⟩
                  · refine q_ald_n cx dX12_passes_130 rfl (lv_at hl 4 rfl) ?_
                    refine q_ild_n cx dX12_passes_131 rfl (lv_at hl 2 rfl) ?_
                    refine q_iconst cx dX12_passes_132 ?_
                    refine q_cVi (As := [.int (q_i y506), .int (q_i 2)]) (rest := []) cx hB (fun _ h => h) hN hmo kmo (by decide) rfl (r_ofNode2 l g hN hB.2.1 mo hmo kmo y506 (by omega) (by omega) 2 (by decide) (by decide) sr hsr ksr z508 g510) q_cX12_256 q_dX12_ofNode (by decide) rfl rfl hl.1 rfl (Nat.le_of_ble_eq_true rfl) dX12_passes_133 (fun y712 H locs f711 ry712 h713 hF hB => ?_)
                    obtain ⟨rfl, ly712, uy712, t714⟩ := h713
                    refine lv_iload cx.1 cx.2.1 dX12_passes_136 (lv_at hl 0 rfl) ?_
                    refine q_icge (tgt := 143) cx ⟨by omega, by omega⟩ ⟨by omega, by omega⟩ dX12_passes_138 (by decide) (fun c715 => ?_) (fun c715 => ?_)
                    · refine q_ald_n cx dX12_passes_143 rfl (lv_at hl 4 rfl) ?_
                      refine q_ild_n cx dX12_passes_144 rfl (lv_at hl 3 rfl) ?_
                      refine lv_iload cx.1 cx.2.1 dX12_passes_145 (lv_at hl 0 rfl) ?_
                      refine q_cVv (As := [.int (q_i y499), .int (q_i (x700 + x704))]) (rest := []) cx hB (fun _ h => h) hN hmo kmo (by decide) rfl (r_uses1 l g hN hB.2.1 mo hmo kmo y499 (by omega) (by omega) (x700 + x704) (by omega) (by omega) sr hsr ksr z508 (by omega) g510) q_cX12_295 q_dX12_uses (by decide) rfl rfl hl.1 rfl (Nat.le_of_ble_eq_true rfl) dX12_passes_147 (fun H locs f716 h718 hF hB => ?_)
                      obtain ⟨t719, g720⟩ := h718
                      have z721 : q_is (q_z f716 mo 27) x512 := Eq.trans (hF.z hmo (by rw [kmo]; rfl)) ex512
                      have z722 : q_is (q_z f716 mo 28) x518 := Eq.trans (hF.z hmo (by rw [kmo]; rfl)) ex518
                      have z723 : q_is (q_z f716 mo 26) x524 := Eq.trans (hF.z hmo (by rw [kmo]; rfl)) ex524
                      have z724 : q_is (q_z f716 sr 6) x700 := Eq.trans (hF.z hsr (by rw [ksr]; rfl)) ex700
                      have z725 : q_is (q_z f716 sr 7) x704 := Eq.trans (hF.z hsr (by rw [ksr]; rfl)) ex704
                      have z726 : q_ir (q_r f716 mo 13) sr := Eq.trans (hF.r hmo (by rw [kmo]; rfl)) z508
                      have z727 : q_ir (q_r f716 mo 24) hp := Eq.trans (hF.r hmo (by rw [kmo]; rfl)) z509
                      refine q_ald_n cx dX12_passes_150 rfl (lv_at hl 4 rfl) ?_
                      refine q_ild_n cx dX12_passes_151 rfl (lv_at hl 2 rfl) ?_
                      refine lv_iload cx.1 cx.2.1 dX12_passes_152 (lv_at hl 0 rfl) ?_
                      refine q_cVv (As := [.int (q_i y506), .int (q_i (x700 + x704))]) (rest := []) cx hB (fun _ h => h) hN hmo kmo (by decide) rfl (r_uses2 l g hN hB.2.1 mo hmo kmo y506 (by omega) (by omega) (x700 + x704) (by omega) (by omega) sr hsr ksr z726 (by have h7 := t719 y506 (by omega) (by omega); omega) g720) q_cX12_295 q_dX12_uses (by decide) rfl rfl hl.1 rfl (Nat.le_of_ble_eq_true rfl) dX12_passes_154 (fun H locs f728 h730 hF hB => ?_)
                      have g731 := h730
                      have z732 : q_is (q_z f728 mo 27) x512 := Eq.trans (hF.z hmo (by rw [kmo]; rfl)) z721
                      have z733 : q_is (q_z f728 mo 28) x518 := Eq.trans (hF.z hmo (by rw [kmo]; rfl)) z722
                      have z734 : q_is (q_z f728 mo 26) x524 := Eq.trans (hF.z hmo (by rw [kmo]; rfl)) z723
                      have z735 : q_is (q_z f728 sr 6) x700 := Eq.trans (hF.z hsr (by rw [ksr]; rfl)) z724
                      have z736 : q_is (q_z f728 sr 7) x704 := Eq.trans (hF.z hsr (by rw [ksr]; rfl)) z725
                      have z737 : q_ir (q_r f728 mo 13) sr := Eq.trans (hF.r hmo (by rw [kmo]; rfl)) z726
                      have z738 : q_ir (q_r f728 mo 24) hp := Eq.trans (hF.r hmo (by rw [kmo]; rfl)) z727
                      refine q_ald_n cx dX12_passes_157 rfl (lv_at hl 4 rfl) ?_
                      refine lv_dup cx.1 cx.2.1 dX12_passes_158 rfl ?_
                      refine q_gX12_314 cx hB hmo kmo z732 dX12_passes_159 (fun lb739 ub739 => ?_)
                      refine q_iconst cx dX12_passes_162 ?_
                      refine q_ild_n cx dX12_passes_163 rfl (lv_at hl 3 rfl) ?_
                      refine q_ishl cx dX12_passes_164 (fun y740 ry740 ey740 => ?_)
                      refine q_ior cx dX12_passes_165 (fun y741 ry741 ey741 => ?_)
                      refine q_pX12_314 cx hB hmo kmo ⟨by omega, by omega⟩ (by omega) (by omega) rfl dX12_passes_166 (fun H locs f742 ef742 z743 hB => ?_)
                      have z744 : q_is (q_z f742 mo 28) x518 := by rw [ef742, q_setz (Or.inr (by decide))]; exact z733
                      have z745 : q_is (q_z f742 mo 26) x524 := by rw [ef742, q_setz (Or.inr (by decide))]; exact z734
                      have z746 : q_is (q_z f742 sr 6) x700 := by rw [ef742, q_setz (Or.inr (by decide))]; exact z735
                      have z747 : q_is (q_z f742 sr 7) x704 := by rw [ef742, q_setz (Or.inr (by decide))]; exact z736
                      have z748 : q_ir (q_r f742 mo 13) sr := by rw [ef742, q_setr (Or.inr (by decide))]; exact z737
                      have z749 : q_ir (q_r f742 mo 24) hp := by rw [ef742, q_setr (Or.inr (by decide))]; exact z738
                      have g750 : q_gr f742 sr := q_gr_ne g731 ef742 (fun q => q_kne (k := 151) (k2 := 12) (by decide) ksr kmo q)
                      refine q_ald_n cx dX12_passes_169 rfl (lv_at hl 4 rfl) ?_
                      refine lv_dup cx.1 cx.2.1 dX12_passes_170 rfl ?_
                      refine q_gX12_317 cx hB hmo kmo z744 dX12_passes_171 (fun lb751 ub751 => ?_)
                      refine q_iconst cx dX12_passes_174 ?_
                      refine q_ild_n cx dX12_passes_175 rfl (lv_at hl 2 rfl) ?_
                      refine q_ishl cx dX12_passes_176 (fun y752 ry752 ey752 => ?_)
                      refine q_ior cx dX12_passes_177 (fun y753 ry753 ey753 => ?_)
                      refine q_pX12_317 cx hB hmo kmo ⟨by omega, by omega⟩ (by omega) (by omega) rfl dX12_passes_178 (fun H locs f754 ef754 z755 hB => ?_)
                      have z756 : q_is (q_z f754 mo 26) x524 := by rw [ef754, q_setz (Or.inr (by decide))]; exact z745
                      have z757 : q_is (q_z f754 sr 6) x700 := by rw [ef754, q_setz (Or.inr (by decide))]; exact z746
                      have z758 : q_is (q_z f754 sr 7) x704 := by rw [ef754, q_setz (Or.inr (by decide))]; exact z747
                      have z759 : q_is (q_z f754 mo 27) y741 := by rw [ef754, q_setz (Or.inr (by decide))]; exact z743
                      have z760 : q_ir (q_r f754 mo 13) sr := by rw [ef754, q_setr (Or.inr (by decide))]; exact z748
                      have z761 : q_ir (q_r f754 mo 24) hp := by rw [ef754, q_setr (Or.inr (by decide))]; exact z749
                      have g762 : q_gr f754 sr := q_gr_ne g750 ef754 (fun q => q_kne (k := 151) (k2 := 12) (by decide) ksr kmo q)
                      refine q_ald_n cx dX12_passes_181 rfl (lv_at hl 4 rfl) ?_
                      refine q_ild_n cx dX12_passes_182 rfl (lv_at hl 3 rfl) ?_
                      refine q_iconst cx dX12_passes_183 ?_
                      refine q_ald_n cx dX12_passes_184 rfl (lv_at hl 4 rfl) ?_
                      refine q_ild_n cx dX12_passes_185 rfl (lv_at hl 3 rfl) ?_
                      refine q_iconst cx dX12_passes_186 ?_
                      refine q_cVi (As := [.int (q_i y499), .int (q_i 4)]) (rest := [.int (q_i 4), .int (q_i y499), .ref mo]) cx hB (fun _ h => h) hN hmo kmo (by decide) rfl (r_ofNode4 l g hN hB.2.1 mo hmo kmo y499 (by omega) (by omega) 4 (by decide) (by decide) sr hsr ksr z760 g762) q_cX12_256 q_dX12_ofNode (by decide) rfl rfl hl.1 rfl (Nat.le_of_ble_eq_true rfl) dX12_passes_187 (fun y764 H locs f763 ry764 h765 hF hB => ?_)
                      obtain rfl := h765
                      refine q_iconst cx dX12_passes_190 ?_
                      refine q_iadd cx dX12_passes_191 ?_
                      refine q_any (fun y766 ry766 ey766 => ?_)
                      refine q_cVv (As := [.int (q_i y499), .int (q_i 4), .int (q_i y766)]) (rest := []) cx hB (fun _ h => h) hN hmo kmo (by decide) rfl (r_setsNode4 l g hN hB.2.1 mo hmo kmo y499 (by omega) (by omega) 4 (by decide) (by decide) y766 (by omega) (by omega) sr hsr ksr z760 g762) q_cX12_202 q_dX12_setsNode (by decide) rfl rfl hl.1 rfl (Nat.le_of_ble_eq_true rfl) dX12_passes_192 (fun H locs f767 h769 hF hB => ?_)
                      have g770 := h769
                      have z771 : q_is (q_z f767 mo 26) x524 := Eq.trans (hF.z hmo (by rw [kmo]; rfl)) z756
                      have z772 : q_is (q_z f767 sr 6) x700 := Eq.trans (hF.z hsr (by rw [ksr]; rfl)) z757
                      have z773 : q_is (q_z f767 sr 7) x704 := Eq.trans (hF.z hsr (by rw [ksr]; rfl)) z758
                      have z774 : q_is (q_z f767 mo 27) y741 := Eq.trans (hF.z hmo (by rw [kmo]; rfl)) z759
                      have z775 : q_is (q_z f767 mo 28) y753 := Eq.trans (hF.z hmo (by rw [kmo]; rfl)) z755
                      have z776 : q_ir (q_r f767 mo 13) sr := Eq.trans (hF.r hmo (by rw [kmo]; rfl)) z760
                      have z777 : q_ir (q_r f767 mo 24) hp := Eq.trans (hF.r hmo (by rw [kmo]; rfl)) z761
                      refine q_ald_n cx dX12_passes_195 rfl (lv_at hl 4 rfl) ?_
                      refine q_ild_n cx dX12_passes_196 rfl (lv_at hl 2 rfl) ?_
                      refine q_iconst cx dX12_passes_197 ?_
                      refine q_ald_n cx dX12_passes_198 rfl (lv_at hl 4 rfl) ?_
                      refine q_ild_n cx dX12_passes_199 rfl (lv_at hl 2 rfl) ?_
                      refine q_iconst cx dX12_passes_200 ?_
                      refine q_cVi (As := [.int (q_i y506), .int (q_i 5)]) (rest := [.int (q_i 5), .int (q_i y506), .ref mo]) cx hB (fun _ h => h) hN hmo kmo (by decide) rfl (r_ofNode5 l g hN hB.2.1 mo hmo kmo y506 (by omega) (by omega) 5 (by decide) (by decide) sr hsr ksr z776 g770) q_cX12_256 q_dX12_ofNode (by decide) rfl rfl hl.1 rfl (Nat.le_of_ble_eq_true rfl) dX12_passes_201 (fun y779 H locs f778 ry779 h780 hF hB => ?_)
                      obtain rfl := h780
                      refine q_iconst cx dX12_passes_204 ?_
                      refine q_iadd cx dX12_passes_205 ?_
                      refine q_any (fun y781 ry781 ey781 => ?_)
                      refine q_cVv (As := [.int (q_i y506), .int (q_i 5), .int (q_i y781)]) (rest := []) cx hB (fun _ h => h) hN hmo kmo (by decide) rfl (r_setsNode5 l g hN hB.2.1 mo hmo kmo y506 (by omega) (by omega) 5 (by decide) (by decide) y781 (by omega) (by omega) sr hsr ksr z776 g770) q_cX12_202 q_dX12_setsNode (by decide) rfl rfl hl.1 rfl (Nat.le_of_ble_eq_true rfl) dX12_passes_206 (fun H locs f782 h784 hF hB => ?_)
                      have g785 := h784
                      have z786 : q_is (q_z f782 mo 26) x524 := Eq.trans (hF.z hmo (by rw [kmo]; rfl)) z771
                      have z787 : q_is (q_z f782 sr 6) x700 := Eq.trans (hF.z hsr (by rw [ksr]; rfl)) z772
                      have z788 : q_is (q_z f782 sr 7) x704 := Eq.trans (hF.z hsr (by rw [ksr]; rfl)) z773
                      have z789 : q_is (q_z f782 mo 27) y741 := Eq.trans (hF.z hmo (by rw [kmo]; rfl)) z774
                      have z790 : q_is (q_z f782 mo 28) y753 := Eq.trans (hF.z hmo (by rw [kmo]; rfl)) z775
                      have z791 : q_ir (q_r f782 mo 13) sr := Eq.trans (hF.r hmo (by rw [kmo]; rfl)) z776
                      have z792 : q_ir (q_r f782 mo 24) hp := Eq.trans (hF.r hmo (by rw [kmo]; rfl)) z777
                      refine q_ald_n cx dX12_passes_209 rfl (lv_at hl 4 rfl) ?_
                      refine q_ild_n cx dX12_passes_210 rfl (lv_at hl 5 rfl) ?_
                      refine q_iconst cx dX12_passes_211 ?_
                      refine q_ild_n cx dX12_passes_212 rfl (lv_at hl 2 rfl) ?_
                      refine q_cVv (As := [.int (q_i a0), .int (q_i 2), .int (q_i y506)]) (rest := []) cx hB (fun _ h => h) hN hmo kmo (by decide) rfl (r_setsMessage2 l g hN hB.2.1 mo hmo kmo a0 (by omega) (by omega) 2 (by decide) (by decide) y506 (by omega) (by omega) sr hsr ksr z791 g785) q_cX12_320 q_dX12_setsMessage (by decide) rfl rfl hl.1 rfl (Nat.le_of_ble_eq_true rfl) dX12_passes_213 (fun H locs f793 h795 hF hB => ?_)
                      have g796 := h795
                      have z797 : q_is (q_z f793 mo 26) x524 := Eq.trans (hF.z hmo (by rw [kmo]; rfl)) z786
                      have z798 : q_is (q_z f793 sr 6) x700 := Eq.trans (hF.z hsr (by rw [ksr]; rfl)) z787
                      have z799 : q_is (q_z f793 sr 7) x704 := Eq.trans (hF.z hsr (by rw [ksr]; rfl)) z788
                      have z800 : q_is (q_z f793 mo 27) y741 := Eq.trans (hF.z hmo (by rw [kmo]; rfl)) z789
                      have z801 : q_is (q_z f793 mo 28) y753 := Eq.trans (hF.z hmo (by rw [kmo]; rfl)) z790
                      have z802 : q_ir (q_r f793 mo 13) sr := Eq.trans (hF.r hmo (by rw [kmo]; rfl)) z791
                      have z803 : q_ir (q_r f793 mo 24) hp := Eq.trans (hF.r hmo (by rw [kmo]; rfl)) z792
                      refine q_ald_n cx dX12_passes_216 rfl (lv_at hl 4 rfl) ?_
                      refine q_ild_n cx dX12_passes_217 rfl (lv_at hl 5 rfl) ?_
                      refine q_bipush cx dX12_passes_218 rfl ?_
                      refine q_ald_n cx dX12_passes_220 rfl (lv_at hl 4 rfl) ?_
                      refine q_ild_n cx dX12_passes_221 rfl (lv_at hl 5 rfl) ?_
                      refine q_bipush cx dX12_passes_222 rfl ?_
                      refine q_cVi (As := [.int (q_i a0), .int (q_i 7)]) (rest := [.int (q_i 7), .int (q_i a0), .ref mo]) cx hB (fun _ h => h) hN hmo kmo (by decide) rfl (r_ofMessage7 l g hN hB.2.1 mo hmo kmo a0 (by omega) (by omega) 7 (by decide) (by decide) sr hsr ksr z802 g796) q_cX12_308 q_dX12_ofMessage (by decide) rfl rfl hl.1 rfl (Nat.le_of_ble_eq_true rfl) dX12_passes_224 (fun y805 H locs f804 ry805 h806 hF hB => ?_)
                      obtain rfl := h806
                      refine q_iconst cx dX12_passes_227 ?_
                      refine q_iadd cx dX12_passes_228 ?_
                      refine q_any (fun y807 ry807 ey807 => ?_)
                      refine q_cVv (As := [.int (q_i a0), .int (q_i 7), .int (q_i y807)]) (rest := []) cx hB (fun _ h => h) hN hmo kmo (by decide) rfl (r_setsMessage7 l g hN hB.2.1 mo hmo kmo a0 (by omega) (by omega) 7 (by decide) (by decide) y807 (by omega) (by omega) sr hsr ksr z802 g796) q_cX12_320 q_dX12_setsMessage (by decide) rfl rfl hl.1 rfl (Nat.le_of_ble_eq_true rfl) dX12_passes_229 (fun H locs f808 h810 hF hB => ?_)
                      have g811 := h810
                      have z812 : q_is (q_z f808 mo 26) x524 := Eq.trans (hF.z hmo (by rw [kmo]; rfl)) z797
                      have z813 : q_is (q_z f808 sr 6) x700 := Eq.trans (hF.z hsr (by rw [ksr]; rfl)) z798
                      have z814 : q_is (q_z f808 sr 7) x704 := Eq.trans (hF.z hsr (by rw [ksr]; rfl)) z799
                      have z815 : q_is (q_z f808 mo 27) y741 := Eq.trans (hF.z hmo (by rw [kmo]; rfl)) z800
                      have z816 : q_is (q_z f808 mo 28) y753 := Eq.trans (hF.z hmo (by rw [kmo]; rfl)) z801
                      have z817 : q_ir (q_r f808 mo 13) sr := Eq.trans (hF.r hmo (by rw [kmo]; rfl)) z802
                      have z818 : q_ir (q_r f808 mo 24) hp := Eq.trans (hF.r hmo (by rw [kmo]; rfl)) z803
                      refine q_ild_n cx dX12_passes_232 rfl (lv_at hl 2 rfl) ?_
                      refine q_ald_n cx dX12_passes_233 rfl (lv_at hl 4 rfl) ?_
                      refine q_ild_n cx dX12_passes_234 rfl (lv_at hl 5 rfl) ?_
                      refine q_iconst cx dX12_passes_235 ?_
                      refine q_cVi (As := [.int (q_i a0), .int (q_i 1)]) (rest := [.int (q_i y506)]) cx hB (fun _ h => h) hN hmo kmo (by decide) rfl (r_ofMessage1 l g hN hB.2.1 mo hmo kmo a0 (by omega) (by omega) 1 (by decide) (by decide) sr hsr ksr z817 g811) q_cX12_308 q_dX12_ofMessage (by decide) rfl rfl hl.1 rfl (Nat.le_of_ble_eq_true rfl) dX12_passes_236 (fun y820 H locs f819 ry820 h821 hF hB => ?_)
                      obtain ⟨rfl, ly820, uy820⟩ := h821
                      refine q_icne (tgt := 246) cx ⟨by omega, by omega⟩ ⟨by omega, by omega⟩ dX12_passes_239 (by decide) (fun c822 => ?_) (fun c822 => ?_)
                      · refine q_iconst cx dX12_passes_246 ?_
                        refine lv_istore (lv' := [(6, .int (q_i 0)), (5, .int (q_i (x700 + x704))), (4, .int (q_i 0)), (3, .int (q_i y506)), (2, .int (q_i y499)), (0, .ref mo), (1, .int (q_i a0))]) cx.1 cx.2.1 dX12_passes_247 hl (by decide) rfl (fun ls hl => ?_)
                        refine lv_iload cx.1 cx.2.1 dX12_passes_249 (lv_at hl 0 rfl) ?_
                        refine q_ifeq (tgt := 261) cx ⟨by decide, by decide⟩ dX12_passes_251 (by decide) (fun c823 => ?_) (fun c823 => ?_)
                        · refine lv_iload cx.1 cx.2.1 dX12_passes_261 (lv_at hl 0 rfl) ?_
                          refine q_ifeq (tgt := 279) cx ⟨by decide, by decide⟩ dX12_passes_263 (by decide) (fun c824 => ?_) (fun c824 => ?_)
                          · refine lv_iload cx.1 cx.2.1 dX12_passes_279 (lv_at hl 0 rfl) ?_
                            refine q_zret cx hr hlk hB dX12_passes_281 (by decide) (by decide) ?_
                            exact ⟨(by decide), (by decide), g811⟩
                          · exact absurd c824 (by omega)
                        · exact absurd c823 (by omega)
                      · refine q_iconst cx dX12_passes_242 ?_
                        refine lv_goto (tgt := 247) cx.1 cx.2.1 dX12_passes_243 (by decide) ?_
                        refine lv_istore (lv' := [(6, .int (q_i 1)), (5, .int (q_i (x700 + x704))), (4, .int (q_i 0)), (3, .int (q_i y506)), (2, .int (q_i y499)), (0, .ref mo), (1, .int (q_i a0))]) cx.1 cx.2.1 dX12_passes_247 hl (by decide) rfl (fun ls hl => ?_)
                        refine lv_iload cx.1 cx.2.1 dX12_passes_249 (lv_at hl 0 rfl) ?_
                        refine q_ifeq (tgt := 261) cx ⟨by decide, by decide⟩ dX12_passes_251 (by decide) (fun c825 => ?_) (fun c825 => ?_)
                        · exact absurd c825 (by omega)
                        · refine q_ald_n cx dX12_passes_254 rfl (lv_at hl 5 rfl) ?_
                          refine q_ild_n cx dX12_passes_255 rfl (lv_at hl 6 rfl) ?_
                          refine q_iconst cx dX12_passes_256 ?_
                          refine q_iconst cx dX12_passes_257 ?_
                          refine q_cVv (As := [.int (q_i a0), .int (q_i 3), .int (q_i 1)]) (rest := []) cx hB (fun _ h => h) hN hmo kmo (by decide) rfl (r_setsMessage3 l g hN hB.2.1 mo hmo kmo a0 (by omega) (by omega) 3 (by decide) (by decide) 1 (by decide) (by decide) sr hsr ksr z817 g811) q_cX12_320 q_dX12_setsMessage (by decide) rfl rfl hl.1 rfl (Nat.le_of_ble_eq_true rfl) dX12_passes_258 (fun H locs f826 h828 hF hB => ?_)
                          have g829 := h828
                          have z830 : q_is (q_z f826 mo 26) x524 := Eq.trans (hF.z hmo (by rw [kmo]; rfl)) z812
                          have z831 : q_is (q_z f826 sr 6) x700 := Eq.trans (hF.z hsr (by rw [ksr]; rfl)) z813
                          have z832 : q_is (q_z f826 sr 7) x704 := Eq.trans (hF.z hsr (by rw [ksr]; rfl)) z814
                          have z833 : q_is (q_z f826 mo 27) y741 := Eq.trans (hF.z hmo (by rw [kmo]; rfl)) z815
                          have z834 : q_is (q_z f826 mo 28) y753 := Eq.trans (hF.z hmo (by rw [kmo]; rfl)) z816
                          have z835 : q_ir (q_r f826 mo 13) sr := Eq.trans (hF.r hmo (by rw [kmo]; rfl)) z817
                          have z836 : q_ir (q_r f826 mo 24) hp := Eq.trans (hF.r hmo (by rw [kmo]; rfl)) z818
                          refine lv_iload cx.1 cx.2.1 dX12_passes_261 (lv_at hl 0 rfl) ?_
                          refine q_ifeq (tgt := 279) cx ⟨by decide, by decide⟩ dX12_passes_263 (by decide) (fun c837 => ?_) (fun c837 => ?_)
                          · exact absurd c837 (by omega)
                          · refine q_ald_n cx dX12_passes_266 rfl (lv_at hl 5 rfl) ?_
                            refine q_ild_n cx dX12_passes_267 rfl (lv_at hl 6 rfl) ?_
                            refine q_bipush cx dX12_passes_268 rfl ?_
                            refine q_ald_n cx dX12_passes_270 rfl (lv_at hl 5 rfl) ?_
                            refine q_gX12_20 cx hB hmo kmo z835 dX12_passes_271 (fun hb838 kb838 => ?_)
                            refine q_iconst cx dX12_passes_274 ?_
                            obtain ⟨x839, ex839⟩ : ∃ zz, q_is (q_z f826 sr (Int.toNat 3)) zz := ⟨_, q_isr _⟩
                            refine q_sald cx hB hsr ksr (by decide) (by decide) ex839 dX12_passes_275 (fun rx839 => ?_)
                            obtain ⟨lx839, ux839⟩ : 0 ≤ x839 ∧ x839 ≤ 20000 := q_isb ex839 (q_gr_at g829 (by decide) rfl)
                            refine q_cVv (As := [.int (q_i a0), .int (q_i 6), .int (q_i x839)]) (rest := []) cx hB (fun _ h => h) hN hmo kmo (by decide) rfl (r_setsMessage6 l g hN hB.2.1 mo hmo kmo a0 (by omega) (by omega) 6 (by decide) (by decide) x839 (by omega) (by omega) sr hsr ksr z835 g829) q_cX12_320 q_dX12_setsMessage (by decide) rfl rfl hl.1 rfl (Nat.le_of_ble_eq_true rfl) dX12_passes_276 (fun H locs f841 h843 hF hB => ?_)
                            have g844 := h843
                            have z845 : q_is (q_z f841 mo 26) x524 := Eq.trans (hF.z hmo (by rw [kmo]; rfl)) z830
                            have z846 : q_is (q_z f841 sr 6) x700 := Eq.trans (hF.z hsr (by rw [ksr]; rfl)) z831
                            have z847 : q_is (q_z f841 sr 7) x704 := Eq.trans (hF.z hsr (by rw [ksr]; rfl)) z832
                            have z848 : q_is (q_z f841 mo 27) y741 := Eq.trans (hF.z hmo (by rw [kmo]; rfl)) z833
                            have z849 : q_is (q_z f841 mo 28) y753 := Eq.trans (hF.z hmo (by rw [kmo]; rfl)) z834
                            have z850 : q_is (q_z f841 sr 3) x839 := Eq.trans (hF.z hsr (by rw [ksr]; rfl)) ex839
                            have z851 : q_ir (q_r f841 mo 13) sr := Eq.trans (hF.r hmo (by rw [kmo]; rfl)) z835
                            have z852 : q_ir (q_r f841 mo 24) hp := Eq.trans (hF.r hmo (by rw [kmo]; rfl)) z836
                            refine lv_iload cx.1 cx.2.1 dX12_passes_279 (lv_at hl 0 rfl) ?_
                            refine q_zret cx hr hlk hB dX12_passes_281 (by decide) (by decide) ?_
                            exact ⟨(by decide), (by decide), g844⟩
                    · refine q_iconst cx dX12_passes_141 ?_
                      refine q_zret cx hr hlk hB dX12_passes_142 (by decide) (by decide) ?_
                      exact ⟨(by decide), (by decide), g510⟩
                · exact absurd c702 (by omega)
              · refine q_iconst cx dX12_passes_91 ?_
                refine q_zret cx hr hlk hB dX12_passes_92 (by decide) (by decide) ?_
                exact ⟨(by decide), (by decide), g510⟩
          · refine q_iconst cx dX12_passes_70 ?_
            refine lv_goto (tgt := 75) cx.1 cx.2.1 dX12_passes_71 (by decide) ?_
            refine lv_istore (lv' := [(4, .int (q_i 1)), (3, .int (q_i y506)), (2, .int (q_i y499)), (0, .ref mo), (1, .int (q_i a0))]) cx.1 cx.2.1 dX12_passes_75 hl (by decide) rfl (fun ls hl => ?_)
            refine lv_iload cx.1 cx.2.1 dX12_passes_77 (lv_at hl 0 rfl) ?_
            refine q_ifne (tgt := 93) cx ⟨by decide, by decide⟩ dX12_passes_79 (by decide) (fun c853 => ?_) (fun c853 => ?_)
            · refine q_ald_n cx dX12_passes_93 rfl (lv_at hl 3 rfl) ?_
              refine q_gX12_20 cx hB hmo kmo z508 dX12_passes_94 (fun hb854 kb854 => ?_)
              refine q_bipush cx dX12_passes_97 rfl ?_
              obtain ⟨x855, ex855⟩ : ∃ zz, q_is (q_z f505 sr (Int.toNat 6)) zz := ⟨_, q_isr _⟩
              refine q_sald cx hB hsr ksr (by decide) (by decide) ex855 dX12_passes_99 (fun rx855 => ?_)
              obtain ⟨lx855, ux855⟩ : 0 ≤ x855 ∧ x855 ≤ 99 := q_isb ex855 (q_gr_at g510 (by decide) rfl)
              refine lv_iload cx.1 cx.2.1 dX12_passes_100 (lv_at hl 0 rfl) ?_
              refine q_ifeq (tgt := 109) cx ⟨by decide, by decide⟩ dX12_passes_102 (by decide) (fun c857 => ?_) (fun c857 => ?_)
              · exact absurd c857 (by omega)
              · refine q_iconst cx dX12_passes_105 ?_
                refine lv_goto (tgt := 116) cx.1 cx.2.1 dX12_passes_106 (by decide) ?_
                refine q_iadd cx dX12_passes_116 ?_
                refine lv_istore (lv' := [(5, .int (q_i (x855 + 0))), (4, .int (q_i 1)), (3, .int (q_i y506)), (2, .int (q_i y499)), (0, .ref mo), (1, .int (q_i a0))]) cx.1 cx.2.1 dX12_passes_117 hl (by decide) rfl (fun ls hl => ?_)
                refine q_ald_n cx dX12_passes_119 rfl (lv_at hl 4 rfl) ?_
                refine q_ild_n cx dX12_passes_120 rfl (lv_at hl 3 rfl) ?_
                refine q_iconst cx dX12_passes_121 ?_
                refine q_cVi (As := [.int (q_i y499), .int (q_i 2)]) (rest := []) cx hB (fun _ h => h) hN hmo kmo (by decide) rfl (r_ofNode2 l g hN hB.2.1 mo hmo kmo y499 (by omega) (by omega) 2 (by decide) (by decide) sr hsr ksr z508 g510) q_cX12_256 q_dX12_ofNode (by decide) rfl rfl hl.1 rfl (Nat.le_of_ble_eq_true rfl) dX12_passes_122 (fun y859 H locs f858 ry859 h860 hF hB => ?_)
                obtain ⟨rfl, ly859, uy859, t861⟩ := h860
                refine lv_iload cx.1 cx.2.1 dX12_passes_125 (lv_at hl 0 rfl) ?_
                refine q_iclt (tgt := 141) cx ⟨by omega, by omega⟩ ⟨by omega, by omega⟩ dX12_passes_127 (by decide) (fun c862 => ?_) (fun c862 => ?_)
                · refine q_iconst cx dX12_passes_141 ?_
                  refine q_zret cx hr hlk hB dX12_passes_142 (by decide) (by decide) ?_
                  exact ⟨(by decide), (by decide), g510⟩
                · refine q_ald_n cx dX12_passes_130 rfl (lv_at hl 4 rfl) ?_
                  refine q_ild_n cx dX12_passes_131 rfl (lv_at hl 2 rfl) ?_
                  refine q_iconst cx dX12_passes_132 ?_
                  refine q_cVi (As := [.int (q_i y506), .int (q_i 2)]) (rest := []) cx hB (fun _ h => h) hN hmo kmo (by decide) rfl (r_ofNode2 l g hN hB.2.1 mo hmo kmo y506 (by omega) (by omega) 2 (by decide) (by decide) sr hsr ksr z508 g510) q_cX12_256 q_dX12_ofNode (by decide) rfl rfl hl.1 rfl (Nat.le_of_ble_eq_true rfl) dX12_passes_133 (fun y864 H locs f863 ry864 h865 hF hB => ?_)
                  obtain ⟨rfl, ly864, uy864, t866⟩ := h865
                  refine lv_iload cx.1 cx.2.1 dX12_passes_136 (lv_at hl 0 rfl) ?_
                  refine q_icge (tgt := 143) cx ⟨by omega, by omega⟩ ⟨by omega, by omega⟩ dX12_passes_138 (by decide) (fun c867 => ?_) (fun c867 => ?_)
                  · refine q_ald_n cx dX12_passes_143 rfl (lv_at hl 4 rfl) ?_
                    refine q_ild_n cx dX12_passes_144 rfl (lv_at hl 3 rfl) ?_
                    refine lv_iload cx.1 cx.2.1 dX12_passes_145 (lv_at hl 0 rfl) ?_
                    refine q_cVv (As := [.int (q_i y499), .int (q_i (x855 + 0))]) (rest := []) cx hB (fun _ h => h) hN hmo kmo (by decide) rfl (r_uses1 l g hN hB.2.1 mo hmo kmo y499 (by omega) (by omega) (x855 + 0) (by omega) (by omega) sr hsr ksr z508 (by omega) g510) q_cX12_295 q_dX12_uses (by decide) rfl rfl hl.1 rfl (Nat.le_of_ble_eq_true rfl) dX12_passes_147 (fun H locs f868 h870 hF hB => ?_)
                    obtain ⟨t871, g872⟩ := h870
                    have z873 : q_is (q_z f868 mo 27) x512 := Eq.trans (hF.z hmo (by rw [kmo]; rfl)) ex512
                    have z874 : q_is (q_z f868 mo 28) x518 := Eq.trans (hF.z hmo (by rw [kmo]; rfl)) ex518
                    have z875 : q_is (q_z f868 mo 26) x524 := Eq.trans (hF.z hmo (by rw [kmo]; rfl)) ex524
                    have z876 : q_is (q_z f868 sr 6) x855 := Eq.trans (hF.z hsr (by rw [ksr]; rfl)) ex855
                    have z877 : q_ir (q_r f868 mo 13) sr := Eq.trans (hF.r hmo (by rw [kmo]; rfl)) z508
                    have z878 : q_ir (q_r f868 mo 24) hp := Eq.trans (hF.r hmo (by rw [kmo]; rfl)) z509
                    refine q_ald_n cx dX12_passes_150 rfl (lv_at hl 4 rfl) ?_
                    refine q_ild_n cx dX12_passes_151 rfl (lv_at hl 2 rfl) ?_
                    refine lv_iload cx.1 cx.2.1 dX12_passes_152 (lv_at hl 0 rfl) ?_
                    refine q_cVv (As := [.int (q_i y506), .int (q_i (x855 + 0))]) (rest := []) cx hB (fun _ h => h) hN hmo kmo (by decide) rfl (r_uses2 l g hN hB.2.1 mo hmo kmo y506 (by omega) (by omega) (x855 + 0) (by omega) (by omega) sr hsr ksr z877 (by have h7 := t871 y506 (by omega) (by omega); omega) g872) q_cX12_295 q_dX12_uses (by decide) rfl rfl hl.1 rfl (Nat.le_of_ble_eq_true rfl) dX12_passes_154 (fun H locs f879 h881 hF hB => ?_)
                    have g882 := h881
                    have z883 : q_is (q_z f879 mo 27) x512 := Eq.trans (hF.z hmo (by rw [kmo]; rfl)) z873
                    have z884 : q_is (q_z f879 mo 28) x518 := Eq.trans (hF.z hmo (by rw [kmo]; rfl)) z874
                    have z885 : q_is (q_z f879 mo 26) x524 := Eq.trans (hF.z hmo (by rw [kmo]; rfl)) z875
                    have z886 : q_is (q_z f879 sr 6) x855 := Eq.trans (hF.z hsr (by rw [ksr]; rfl)) z876
                    have z887 : q_ir (q_r f879 mo 13) sr := Eq.trans (hF.r hmo (by rw [kmo]; rfl)) z877
                    have z888 : q_ir (q_r f879 mo 24) hp := Eq.trans (hF.r hmo (by rw [kmo]; rfl)) z878
                    refine q_ald_n cx dX12_passes_157 rfl (lv_at hl 4 rfl) ?_
                    refine lv_dup cx.1 cx.2.1 dX12_passes_158 rfl ?_
                    refine q_gX12_314 cx hB hmo kmo z883 dX12_passes_159 (fun lb889 ub889 => ?_)
                    refine q_iconst cx dX12_passes_162 ?_
                    refine q_ild_n cx dX12_passes_163 rfl (lv_at hl 3 rfl) ?_
                    refine q_ishl cx dX12_passes_164 (fun y890 ry890 ey890 => ?_)
                    refine q_ior cx dX12_passes_165 (fun y891 ry891 ey891 => ?_)
                    refine q_pX12_314 cx hB hmo kmo ⟨by omega, by omega⟩ (by omega) (by omega) rfl dX12_passes_166 (fun H locs f892 ef892 z893 hB => ?_)
                    have z894 : q_is (q_z f892 mo 28) x518 := by rw [ef892, q_setz (Or.inr (by decide))]; exact z884
                    have z895 : q_is (q_z f892 mo 26) x524 := by rw [ef892, q_setz (Or.inr (by decide))]; exact z885
                    have z896 : q_is (q_z f892 sr 6) x855 := by rw [ef892, q_setz (Or.inr (by decide))]; exact z886
                    have z897 : q_ir (q_r f892 mo 13) sr := by rw [ef892, q_setr (Or.inr (by decide))]; exact z887
                    have z898 : q_ir (q_r f892 mo 24) hp := by rw [ef892, q_setr (Or.inr (by decide))]; exact z888
                    have g899 : q_gr f892 sr := q_gr_ne g882 ef892 (fun q => q_kne (k := 151) (k2 := 12) (by decide) ksr kmo q)
                    refine q_ald_n cx dX12_passes_169 rfl (lv_at hl 4 rfl) ?_
                    refine lv_dup cx.1 cx.2.1 dX12_passes_170 rfl ?_
                    refine q_gX12_317 cx hB hmo kmo z894 dX12_passes_171 (fun lb900 ub900 => ?_)
                    refine q_iconst cx dX12_passes_174 ?_
                    refine q_ild_n cx dX12_passes_175 rfl (lv_at hl 2 rfl) ?_
                    refine q_ishl cx dX12_passes_176 (fun y901 ry901 ey901 => ?_)
                    refine q_ior cx dX12_passes_177 (fun y902 ry902 ey902 => ?_)
                    refine q_pX12_317 cx hB hmo kmo ⟨by omega, by omega⟩ (by omega) (by omega) rfl dX12_passes_178 (fun H locs f903 ef903 z904 hB => ?_)
                    have z905 : q_is (q_z f903 mo 26) x524 := by rw [ef903, q_setz (Or.inr (by decide))]; exact z895
                    have z906 : q_is (q_z f903 sr 6) x855 := by rw [ef903, q_setz (Or.inr (by decide))]; exact z896
                    have z907 : q_is (q_z f903 mo 27) y891 := by rw [ef903, q_setz (Or.inr (by decide))]; exact z893
                    have z908 : q_ir (q_r f903 mo 13) sr := by rw [ef903, q_setr (Or.inr (by decide))]; exact z897
                    have z909 : q_ir (q_r f903 mo 24) hp := by rw [ef903, q_setr (Or.inr (by decide))]; exact z898
                    have g910 : q_gr f903 sr := q_gr_ne g899 ef903 (fun q => q_kne (k := 151) (k2 := 12) (by decide) ksr kmo q)
                    refine q_ald_n cx dX12_passes_181 rfl (lv_at hl 4 rfl) ?_
                    refine q_ild_n cx dX12_passes_182 rfl (lv_at hl 3 rfl) ?_
                    refine q_iconst cx dX12_passes_183 ?_
                    refine q_ald_n cx dX12_passes_184 rfl (lv_at hl 4 rfl) ?_
                    refine q_ild_n cx dX12_passes_185 rfl (lv_at hl 3 rfl) ?_
                    refine q_iconst cx dX12_passes_186 ?_
                    refine q_cVi (As := [.int (q_i y499), .int (q_i 4)]) (rest := [.int (q_i 4), .int (q_i y499), .ref mo]) cx hB (fun _ h => h) hN hmo kmo (by decide) rfl (r_ofNode4 l g hN hB.2.1 mo hmo kmo y499 (by omega) (by omega) 4 (by decide) (by decide) sr hsr ksr z908 g910) q_cX12_256 q_dX12_ofNode (by decide) rfl rfl hl.1 rfl (Nat.le_of_ble_eq_true rfl) dX12_passes_187 (fun y912 H locs f911 ry912 h913 hF hB => ?_)
                    obtain rfl := h913
                    refine q_iconst cx dX12_passes_190 ?_
                    refine q_iadd cx dX12_passes_191 ?_
                    refine q_any (fun y914 ry914 ey914 => ?_)
                    refine q_cVv (As := [.int (q_i y499), .int (q_i 4), .int (q_i y914)]) (rest := []) cx hB (fun _ h => h) hN hmo kmo (by decide) rfl (r_setsNode4 l g hN hB.2.1 mo hmo kmo y499 (by omega) (by omega) 4 (by decide) (by decide) y914 (by omega) (by omega) sr hsr ksr z908 g910) q_cX12_202 q_dX12_setsNode (by decide) rfl rfl hl.1 rfl (Nat.le_of_ble_eq_true rfl) dX12_passes_192 (fun H locs f915 h917 hF hB => ?_)
                    have g918 := h917
                    have z919 : q_is (q_z f915 mo 26) x524 := Eq.trans (hF.z hmo (by rw [kmo]; rfl)) z905
                    have z920 : q_is (q_z f915 sr 6) x855 := Eq.trans (hF.z hsr (by rw [ksr]; rfl)) z906
                    have z921 : q_is (q_z f915 mo 27) y891 := Eq.trans (hF.z hmo (by rw [kmo]; rfl)) z907
                    have z922 : q_is (q_z f915 mo 28) y902 := Eq.trans (hF.z hmo (by rw [kmo]; rfl)) z904
                    have z923 : q_ir (q_r f915 mo 13) sr := Eq.trans (hF.r hmo (by rw [kmo]; rfl)) z908
                    have z924 : q_ir (q_r f915 mo 24) hp := Eq.trans (hF.r hmo (by rw [kmo]; rfl)) z909
                    refine q_ald_n cx dX12_passes_195 rfl (lv_at hl 4 rfl) ?_
                    refine q_ild_n cx dX12_passes_196 rfl (lv_at hl 2 rfl) ?_
                    refine q_iconst cx dX12_passes_197 ?_
                    refine q_ald_n cx dX12_passes_198 rfl (lv_at hl 4 rfl) ?_
                    refine q_ild_n cx dX12_passes_199 rfl (lv_at hl 2 rfl) ?_
                    refine q_iconst cx dX12_passes_200 ?_
                    refine q_cVi (As := [.int (q_i y506), .int (q_i 5)]) (rest := [.int (q_i 5), .int (q_i y506), .ref mo]) cx hB (fun _ h => h) hN hmo kmo (by decide) rfl (r_ofNode5 l g hN hB.2.1 mo hmo kmo y506 (by omega) (by omega) 5 (by decide) (by decide) sr hsr ksr z923 g918) q_cX12_256 q_dX12_ofNode (by decide) rfl rfl hl.1 rfl (Nat.le_of_ble_eq_true rfl) dX12_passes_201 (fun y926 H locs f925 ry926 h927 hF hB => ?_)
                    obtain rfl := h927
                    refine q_iconst cx dX12_passes_204 ?_
                    refine q_iadd cx dX12_passes_205 ?_
                    refine q_any (fun y928 ry928 ey928 => ?_)
                    refine q_cVv (As := [.int (q_i y506), .int (q_i 5), .int (q_i y928)]) (rest := []) cx hB (fun _ h => h) hN hmo kmo (by decide) rfl (r_setsNode5 l g hN hB.2.1 mo hmo kmo y506 (by omega) (by omega) 5 (by decide) (by decide) y928 (by omega) (by omega) sr hsr ksr z923 g918) q_cX12_202 q_dX12_setsNode (by decide) rfl rfl hl.1 rfl (Nat.le_of_ble_eq_true rfl) dX12_passes_206 (fun H locs f929 h931 hF hB => ?_)
                    have g932 := h931
                    have z933 : q_is (q_z f929 mo 26) x524 := Eq.trans (hF.z hmo (by rw [kmo]; rfl)) z919
                    have z934 : q_is (q_z f929 sr 6) x855 := Eq.trans (hF.z hsr (by rw [ksr]; rfl)) z920
                    have z935 : q_is (q_z f929 mo 27) y891 := Eq.trans (hF.z hmo (by rw [kmo]; rfl)) z921
                    have z936 : q_is (q_z f929 mo 28) y902 := Eq.trans (hF.z hmo (by rw [kmo]; rfl)) z922
                    have z937 : q_ir (q_r f929 mo 13) sr := Eq.trans (hF.r hmo (by rw [kmo]; rfl)) z923
                    have z938 : q_ir (q_r f929 mo 24) hp := Eq.trans (hF.r hmo (by rw [kmo]; rfl)) z924
                    refine q_ald_n cx dX12_passes_209 rfl (lv_at hl 4 rfl) ?_
                    refine q_ild_n cx dX12_passes_210 rfl (lv_at hl 5 rfl) ?_
                    refine q_iconst cx dX12_passes_211 ?_
                    refine q_ild_n cx dX12_passes_212 rfl (lv_at hl 2 rfl) ?_
                    refine q_cVv (As := [.int (q_i a0), .int (q_i 2), .int (q_i y506)]) (rest := []) cx hB (fun _ h => h) hN hmo kmo (by decide) rfl (r_setsMessage2 l g hN hB.2.1 mo hmo kmo a0 (by omega) (by omega) 2 (by decide) (by decide) y506 (by omega) (by omega) sr hsr ksr z937 g932) q_cX12_320 q_dX12_setsMessage (by decide) rfl rfl hl.1 rfl (Nat.le_of_ble_eq_true rfl) dX12_passes_213 (fun H locs f939 h941 hF hB => ?_)
                    have g942 := h941
                    have z943 : q_is (q_z f939 mo 26) x524 := Eq.trans (hF.z hmo (by rw [kmo]; rfl)) z933
                    have z944 : q_is (q_z f939 sr 6) x855 := Eq.trans (hF.z hsr (by rw [ksr]; rfl)) z934
                    have z945 : q_is (q_z f939 mo 27) y891 := Eq.trans (hF.z hmo (by rw [kmo]; rfl)) z935
                    have z946 : q_is (q_z f939 mo 28) y902 := Eq.trans (hF.z hmo (by rw [kmo]; rfl)) z936
                    have z947 : q_ir (q_r f939 mo 13) sr := Eq.trans (hF.r hmo (by rw [kmo]; rfl)) z937
                    have z948 : q_ir (q_r f939 mo 24) hp := Eq.trans (hF.r hmo (by rw [kmo]; rfl)) z938
                    refine q_ald_n cx dX12_passes_216 rfl (lv_at hl 4 rfl) ?_
                    refine q_ild_n cx dX12_passes_217 rfl (lv_at hl 5 rfl) ?_
                    refine q_bipush cx dX12_passes_218 rfl ?_
                    refine q_ald_n cx dX12_passes_220 rfl (lv_at hl 4 rfl) ?_
                    refine q_ild_n cx dX12_passes_221 rfl (lv_at hl 5 rfl) ?_
                    refine q_bipush cx dX12_passes_222 rfl ?_
                    refine q_cVi (As := [.int (q_i a0), .int (q_i 7)]) (rest := [.int (q_i 7), .int (q_i a0), .ref mo]) cx hB (fun _ h => h) hN hmo kmo (by decide) rfl (r_ofMessage7 l g hN hB.2.1 mo hmo kmo a0 (by omega) (by omega) 7 (by decide) (by decide) sr hsr ksr z947 g942) q_cX12_308 q_dX12_ofMessage (by decide) rfl rfl hl.1 rfl (Nat.le_of_ble_eq_true rfl) dX12_passes_224 (fun y950 H locs f949 ry950 h951 hF hB => ?_)
                    obtain rfl := h951
                    refine q_iconst cx dX12_passes_227 ?_
                    refine q_iadd cx dX12_passes_228 ?_
                    refine q_any (fun y952 ry952 ey952 => ?_)
                    refine q_cVv (As := [.int (q_i a0), .int (q_i 7), .int (q_i y952)]) (rest := []) cx hB (fun _ h => h) hN hmo kmo (by decide) rfl (r_setsMessage7 l g hN hB.2.1 mo hmo kmo a0 (by omega) (by omega) 7 (by decide) (by decide) y952 (by omega) (by omega) sr hsr ksr z947 g942) q_cX12_320 q_dX12_setsMessage (by decide) rfl rfl hl.1 rfl (Nat.le_of_ble_eq_true rfl) dX12_passes_229 (fun H locs f953 h955 hF hB => ?_)
                    have g956 := h955
                    have z957 : q_is (q_z f953 mo 26) x524 := Eq.trans (hF.z hmo (by rw [kmo]; rfl)) z943
                    have z958 : q_is (q_z f953 sr 6) x855 := Eq.trans (hF.z hsr (by rw [ksr]; rfl)) z944
                    have z959 : q_is (q_z f953 mo 27) y891 := Eq.trans (hF.z hmo (by rw [kmo]; rfl)) z945
                    have z960 : q_is (q_z f953 mo 28) y902 := Eq.trans (hF.z hmo (by rw [kmo]; rfl)) z946
                    have z961 : q_ir (q_r f953 mo 13) sr := Eq.trans (hF.r hmo (by rw [kmo]; rfl)) z947
                    have z962 : q_ir (q_r f953 mo 24) hp := Eq.trans (hF.r hmo (by rw [kmo]; rfl)) z948
                    refine q_ild_n cx dX12_passes_232 rfl (lv_at hl 2 rfl) ?_
                    refine q_ald_n cx dX12_passes_233 rfl (lv_at hl 4 rfl) ?_
                    refine q_ild_n cx dX12_passes_234 rfl (lv_at hl 5 rfl) ?_
                    refine q_iconst cx dX12_passes_235 ?_
                    refine q_cVi (As := [.int (q_i a0), .int (q_i 1)]) (rest := [.int (q_i y506)]) cx hB (fun _ h => h) hN hmo kmo (by decide) rfl (r_ofMessage1 l g hN hB.2.1 mo hmo kmo a0 (by omega) (by omega) 1 (by decide) (by decide) sr hsr ksr z961 g956) q_cX12_308 q_dX12_ofMessage (by decide) rfl rfl hl.1 rfl (Nat.le_of_ble_eq_true rfl) dX12_passes_236 (fun y964 H locs f963 ry964 h965 hF hB => ?_)
                    obtain ⟨rfl, ly964, uy964⟩ := h965
                    refine q_icne (tgt := 246) cx ⟨by omega, by omega⟩ ⟨by omega, by omega⟩ dX12_passes_239 (by decide) (fun c966 => ?_) (fun c966 => ?_)
                    · refine q_iconst cx dX12_passes_246 ?_
                      refine lv_istore (lv' := [(6, .int (q_i 0)), (5, .int (q_i (x855 + 0))), (4, .int (q_i 1)), (3, .int (q_i y506)), (2, .int (q_i y499)), (0, .ref mo), (1, .int (q_i a0))]) cx.1 cx.2.1 dX12_passes_247 hl (by decide) rfl (fun ls hl => ?_)
                      refine lv_iload cx.1 cx.2.1 dX12_passes_249 (lv_at hl 0 rfl) ?_
                      refine q_ifeq (tgt := 261) cx ⟨by decide, by decide⟩ dX12_passes_251 (by decide) (fun c967 => ?_) (fun c967 => ?_)
                      · refine lv_iload cx.1 cx.2.1 dX12_passes_261 (lv_at hl 0 rfl) ?_
                        refine q_ifeq (tgt := 279) cx ⟨by decide, by decide⟩ dX12_passes_263 (by decide) (fun c968 => ?_) (fun c968 => ?_)
                        · refine lv_iload cx.1 cx.2.1 dX12_passes_279 (lv_at hl 0 rfl) ?_
                          refine q_zret cx hr hlk hB dX12_passes_281 (by decide) (by decide) ?_
                          exact ⟨(by decide), (by decide), g956⟩
                        · exact absurd c968 (by omega)
                      · exact absurd c967 (by omega)
                    · refine q_iconst cx dX12_passes_242 ?_
                      refine lv_goto (tgt := 247) cx.1 cx.2.1 dX12_passes_243 (by decide) ?_
                      refine lv_istore (lv' := [(6, .int (q_i 1)), (5, .int (q_i (x855 + 0))), (4, .int (q_i 1)), (3, .int (q_i y506)), (2, .int (q_i y499)), (0, .ref mo), (1, .int (q_i a0))]) cx.1 cx.2.1 dX12_passes_247 hl (by decide) rfl (fun ls hl => ?_)
                      refine lv_iload cx.1 cx.2.1 dX12_passes_249 (lv_at hl 0 rfl) ?_
                      refine q_ifeq (tgt := 261) cx ⟨by decide, by decide⟩ dX12_passes_251 (by decide) (fun c969 => ?_) (fun c969 => ?_)
                      · exact absurd c969 (by omega)
                      · refine q_ald_n cx dX12_passes_254 rfl (lv_at hl 5 rfl) ?_
                        refine q_ild_n cx dX12_passes_255 rfl (lv_at hl 6 rfl) ?_
                        refine q_iconst cx dX12_passes_256 ?_
                        refine q_iconst cx dX12_passes_257 ?_
                        refine q_cVv (As := [.int (q_i a0), .int (q_i 3), .int (q_i 1)]) (rest := []) cx hB (fun _ h => h) hN hmo kmo (by decide) rfl (r_setsMessage3 l g hN hB.2.1 mo hmo kmo a0 (by omega) (by omega) 3 (by decide) (by decide) 1 (by decide) (by decide) sr hsr ksr z961 g956) q_cX12_320 q_dX12_setsMessage (by decide) rfl rfl hl.1 rfl (Nat.le_of_ble_eq_true rfl) dX12_passes_258 (fun H locs f970 h972 hF hB => ?_)
                        have g973 := h972
                        have z974 : q_is (q_z f970 mo 26) x524 := Eq.trans (hF.z hmo (by rw [kmo]; rfl)) z957
                        have z975 : q_is (q_z f970 sr 6) x855 := Eq.trans (hF.z hsr (by rw [ksr]; rfl)) z958
                        have z976 : q_is (q_z f970 mo 27) y891 := Eq.trans (hF.z hmo (by rw [kmo]; rfl)) z959
                        have z977 : q_is (q_z f970 mo 28) y902 := Eq.trans (hF.z hmo (by rw [kmo]; rfl)) z960
                        have z978 : q_ir (q_r f970 mo 13) sr := Eq.trans (hF.r hmo (by rw [kmo]; rfl)) z961
                        have z979 : q_ir (q_r f970 mo 24) hp := Eq.trans (hF.r hmo (by rw [kmo]; rfl)) z962
                        refine lv_iload cx.1 cx.2.1 dX12_passes_261 (lv_at hl 0 rfl) ?_
                        refine q_ifeq (tgt := 279) cx ⟨by decide, by decide⟩ dX12_passes_263 (by decide) (fun c980 => ?_) (fun c980 => ?_)
                        · exact absurd c980 (by omega)
                        · refine q_ald_n cx dX12_passes_266 rfl (lv_at hl 5 rfl) ?_
                          refine q_ild_n cx dX12_passes_267 rfl (lv_at hl 6 rfl) ?_
                          refine q_bipush cx dX12_passes_268 rfl ?_
                          refine q_ald_n cx dX12_passes_270 rfl (lv_at hl 5 rfl) ?_
                          refine q_gX12_20 cx hB hmo kmo z978 dX12_passes_271 (fun hb981 kb981 => ?_)
                          refine q_iconst cx dX12_passes_274 ?_
                          obtain ⟨x982, ex982⟩ : ∃ zz, q_is (q_z f970 sr (Int.toNat 3)) zz := ⟨_, q_isr _⟩
                          refine q_sald cx hB hsr ksr (by decide) (by decide) ex982 dX12_passes_275 (fun rx982 => ?_)
                          obtain ⟨lx982, ux982⟩ : 0 ≤ x982 ∧ x982 ≤ 20000 := q_isb ex982 (q_gr_at g973 (by decide) rfl)
                          refine q_cVv (As := [.int (q_i a0), .int (q_i 6), .int (q_i x982)]) (rest := []) cx hB (fun _ h => h) hN hmo kmo (by decide) rfl (r_setsMessage6 l g hN hB.2.1 mo hmo kmo a0 (by omega) (by omega) 6 (by decide) (by decide) x982 (by omega) (by omega) sr hsr ksr z978 g973) q_cX12_320 q_dX12_setsMessage (by decide) rfl rfl hl.1 rfl (Nat.le_of_ble_eq_true rfl) dX12_passes_276 (fun H locs f984 h986 hF hB => ?_)
                          have g987 := h986
                          have z988 : q_is (q_z f984 mo 26) x524 := Eq.trans (hF.z hmo (by rw [kmo]; rfl)) z974
                          have z989 : q_is (q_z f984 sr 6) x855 := Eq.trans (hF.z hsr (by rw [ksr]; rfl)) z975
                          have z990 : q_is (q_z f984 mo 27) y891 := Eq.trans (hF.z hmo (by rw [kmo]; rfl)) z976
                          have z991 : q_is (q_z f984 mo 28) y902 := Eq.trans (hF.z hmo (by rw [kmo]; rfl)) z977
                          have z992 : q_is (q_z f984 sr 3) x982 := Eq.trans (hF.z hsr (by rw [ksr]; rfl)) ex982
                          have z993 : q_ir (q_r f984 mo 13) sr := Eq.trans (hF.r hmo (by rw [kmo]; rfl)) z978
                          have z994 : q_ir (q_r f984 mo 24) hp := Eq.trans (hF.r hmo (by rw [kmo]; rfl)) z979
                          refine lv_iload cx.1 cx.2.1 dX12_passes_279 (lv_at hl 0 rfl) ?_
                          refine q_zret cx hr hlk hB dX12_passes_281 (by decide) (by decide) ?_
                          exact ⟨(by decide), (by decide), g987⟩
                  · refine q_iconst cx dX12_passes_141 ?_
                    refine q_zret cx hr hlk hB dX12_passes_142 (by decide) (by decide) ?_
                    exact ⟨(by decide), (by decide), g510⟩
            · exact absurd c853 (by omega)
      · refine q_iconst cx dX12_passes_46 ?_
        refine q_zret cx hr hlk hB dX12_passes_47 (by decide) (by decide) ?_
        exact ⟨(by decide), (by decide), g510⟩
