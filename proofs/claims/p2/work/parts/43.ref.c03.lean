set_option maxHeartbeats 4000000 in
set_option maxRecDepth 100000 in
theorem r_passes (l : Launch) (g : q_G) {K : Nat → Nat} {L : List Nat} (hN : L.Nodup) {f : Nat → va_E} (hT : q_Ty g K L f) (mo : Nat) (hmo : mo ∈ L) (kmo : K mo = 12) (a0 : Int) (la0 : 0 ≤ a0) (ua0 : a0 ≤ 60) (sr : Nat) (hsr : sr ∈ L) (ksr : K sr = 151) (hp : Nat) (hhp : hp ∈ L) (khp : K hp = 159) (hr0 : q_ir (q_r f mo 13) sr) (hr1 : q_ir (q_r f mo 24) hp) (hgr : q_gr f sr) : q_Ct l g K L yX12_passes cX12_passes 7 (some .boolean) 6 135 [.ref mo, .int (q_i a0)] f [(12, 27, 28), (151, 12, 87), (151, 172, 657), (159, 0, 9)] (q_Pi (fun (z : Int) (f1 : Nat → va_E) => 0 ≤ z ∧ z ≤ 1 ∧ q_gr f1 sr)) := by
  refine q_ofb (by decide +kernel) hN hT (Nat.le_of_ble_eq_true rfl) ?_
  intro p e s m below meth c ls cx hr hlk hB hl
  have hl : lv_has ls 7 [(0, .ref mo), (1, .int (q_i a0))] := hl
  obtain ⟨H, hH⟩ : ∃ H : Heap, H = s.heap := ⟨_, rfl⟩
  obtain ⟨locs, hlocs⟩ : ∃ z : List Loc, z = [] := ⟨_, rfl⟩
  rw [← hH, ← hlocs] at hB
  rw [← hH, ← hlocs]
  refine q_ald_n cx dX12_passes_0 rfl (lv_at hl 0 rfl) ?_
  refine q_ild_n cx dX12_passes_1 rfl (lv_at hl 1 rfl) ?_
  refine q_iconst cx dX12_passes_2 ?_
  refine q_cVi (As := [.int (q_i a0), .int (q_i 2)]) (rest := []) cx hB (fun _ h => h) hN hmo kmo (by decide) rfl (r_ofMessage2 l g hN hB.2.1 mo hmo kmo a0 (by omega) (by omega) 2 (by decide) (by decide) sr hsr ksr hr0 hgr) q_cX12_308 q_dX12_ofMessage (by decide) rfl rfl hl.1 rfl (Nat.le_of_ble_eq_true rfl) dX12_passes_3 (fun y504 H locs f503 ry504 h505 hF hB => ?_)
  obtain ⟨rfl, ly504, uy504⟩ := h505
  refine lv_istore_n (lv' := [(2, .int (q_i y504)), (0, .ref mo), (1, .int (q_i a0))]) cx.1 cx.2.1 dX12_passes_6 rfl hl (by decide) rfl (fun ls hl => ?_)
  refine q_ald_n cx dX12_passes_7 rfl (lv_at hl 1 rfl) ?_
  refine q_ild_n cx dX12_passes_8 rfl (lv_at hl 0 rfl) ?_
  refine q_ald_n cx dX12_passes_9 rfl (lv_at hl 1 rfl) ?_
  refine q_ild_n cx dX12_passes_10 rfl (lv_at hl 2 rfl) ?_
  refine q_iconst cx dX12_passes_11 ?_
  refine q_cVi (As := [.int (q_i a0), .int (q_i 1)]) (rest := [.int (q_i y504), .ref mo]) cx hB (fun _ h => h) hN hmo kmo (by decide) rfl (r_ofMessage1 l g hN hB.2.1 mo hmo kmo a0 (by omega) (by omega) 1 (by decide) (by decide) sr hsr ksr hr0 hgr) q_cX12_308 q_dX12_ofMessage (by decide) rfl rfl hl.1 rfl (Nat.le_of_ble_eq_true rfl) dX12_passes_12 (fun y507 H locs f506 ry507 h508 hF hB => ?_)
  obtain ⟨rfl, ly507, uy507⟩ := h508
  refine q_cVi (As := [.int (q_i y504), .int (q_i y507)]) (rest := []) cx hB (fun _ h => h) hN hmo kmo (by decide) rfl (r_nextOf l g hN hB.2.1 mo hmo kmo y504 (by omega) (by omega) y507 (by omega) (by omega) sr hsr ksr hp hhp khp hr0 hr1 hgr) q_cX12_311 q_dX12_nextOf (by decide) rfl rfl hl.1 rfl (Nat.le_of_ble_eq_true rfl) dX12_passes_15 (fun y510 H locs f509 ry510 h511 hF hB => ?_)
  obtain ⟨ly510, uy510⟩ := h511
  have z512 : q_ir (q_r f509 mo 13) sr := Eq.trans (hF.r hmo (by rw [kmo]; rfl)) hr0
  have z513 : q_ir (q_r f509 mo 24) hp := Eq.trans (hF.r hmo (by rw [kmo]; rfl)) hr1
  have g514 : q_gr f509 sr := q_gr_fr hgr (fun i9 _ => hF.z hsr (by rw [ksr]; rfl))
  refine lv_istore_n (lv' := [(3, .int (q_i y510)), (2, .int (q_i y504)), (0, .ref mo), (1, .int (q_i a0))]) cx.1 cx.2.1 dX12_passes_18 rfl hl (by decide) rfl (fun ls hl => ?_)
  refine q_ild_n cx dX12_passes_19 rfl (lv_at hl 0 rfl) ?_
  refine q_iconst cx dX12_passes_20 ?_
  refine q_iceq (tgt := 46) cx ⟨by omega, by omega⟩ ⟨by decide, by decide⟩ dX12_passes_21 (by decide) (fun c515 => ?_) (fun c515 => ?_)
  · refine q_iconst cx dX12_passes_46 ?_
    refine q_zret cx hr hlk hB dX12_passes_47 (by decide) (by decide) ?_
    exact ⟨(by decide), (by decide), g514⟩
  · refine q_ald_n cx dX12_passes_24 rfl (lv_at hl 2 rfl) ?_
    obtain ⟨x516, ex516⟩ : ∃ zz, q_is (q_z f509 mo 27) zz := ⟨_, rfl⟩
    refine q_gX12_314 cx hB hmo kmo ex516 dX12_passes_25 (fun lb517 ub517 => ?_)
    refine q_ild_n cx dX12_passes_28 rfl (lv_at hl 1 rfl) ?_
    refine q_cSi (As := [.int (q_i x516), .int (q_i y504)]) (rest := []) cx hB (fun _ h => h) hN (r_has l g hN hB.2.1 x516 (by omega) (by omega) y504 (by omega) (by omega)) q_cX12_185 q_dX12_has (by decide) rfl rfl hl.1 rfl (Nat.le_of_ble_eq_true rfl) dX12_passes_29 (fun y519 H locs f518 ry519 h520 hF hB => ?_)
    obtain ⟨rfl, ly519, uy519⟩ := h520
    refine q_ifne (tgt := 46) cx ⟨by omega, by omega⟩ dX12_passes_32 (by decide) (fun c521 => ?_) (fun c521 => ?_)
    · refine q_iconst cx dX12_passes_46 ?_
      refine q_zret cx hr hlk hB dX12_passes_47 (by decide) (by decide) ?_
      exact ⟨(by decide), (by decide), g514⟩
    · refine q_ald_n cx dX12_passes_35 rfl (lv_at hl 2 rfl) ?_
      obtain ⟨x522, ex522⟩ : ∃ zz, q_is (q_z f509 mo 28) zz := ⟨_, rfl⟩
      refine q_gX12_317 cx hB hmo kmo ex522 dX12_passes_36 (fun lb523 ub523 => ?_)
      refine q_ild_n cx dX12_passes_39 rfl (lv_at hl 0 rfl) ?_
      refine q_cSi (As := [.int (q_i x522), .int (q_i y510)]) (rest := []) cx hB (fun _ h => h) hN (r_has l g hN hB.2.1 x522 (by omega) (by omega) y510 (by omega) (by omega)) q_cX12_185 q_dX12_has (by decide) rfl rfl hl.1 rfl (Nat.le_of_ble_eq_true rfl) dX12_passes_40 (fun y525 H locs f524 ry525 h526 hF hB => ?_)
      obtain ⟨rfl, ly525, uy525⟩ := h526
      refine q_ifeq (tgt := 48) cx ⟨by omega, by omega⟩ dX12_passes_43 (by decide) (fun c527 => ?_) (fun c527 => ?_)
      · refine q_ald_n cx dX12_passes_48 rfl (lv_at hl 2 rfl) ?_
        obtain ⟨x528, ex528⟩ : ∃ zz, q_is (q_z f509 mo 26) zz := ⟨_, rfl⟩
        refine q_gX12_283 cx hB hmo kmo ex528 dX12_passes_49 (fun lb529 ub529 => ?_)
        refine q_ild_n cx dX12_passes_52 rfl (lv_at hl 1 rfl) ?_
        refine q_cSi (As := [.int (q_i x528), .int (q_i y504)]) (rest := []) cx hB (fun _ h => h) hN (r_has l g hN hB.2.1 x528 (by omega) (by omega) y504 (by omega) (by omega)) q_cX12_185 q_dX12_has (by decide) rfl rfl hl.1 rfl (Nat.le_of_ble_eq_true rfl) dX12_passes_53 (fun y531 H locs f530 ry531 h532 hF hB => ?_)
        obtain ⟨rfl, ly531, uy531⟩ := h532
        refine q_ifeq (tgt := 74) cx ⟨by omega, by omega⟩ dX12_passes_56 (by decide) (fun c533 => ?_) (fun c533 => ?_)
        · refine q_iconst cx dX12_passes_74 ?_
          refine lv_istore (lv' := [(4, .int (q_i 0)), (3, .int (q_i y510)), (2, .int (q_i y504)), (0, .ref mo), (1, .int (q_i a0))]) cx.1 cx.2.1 dX12_passes_75 hl (by decide) rfl (fun ls hl => ?_)
          refine lv_iload cx.1 cx.2.1 dX12_passes_77 (lv_at hl 0 rfl) ?_
          refine q_ifne (tgt := 93) cx ⟨by decide, by decide⟩ dX12_passes_79 (by decide) (fun c534 => ?_) (fun c534 => ?_)
          · exact absurd c534 (by omega)
          · refine q_ald_n cx dX12_passes_82 rfl (lv_at hl 3 rfl) ?_
            refine q_ild_n cx dX12_passes_83 rfl (lv_at hl 4 rfl) ?_
            refine q_iconst cx dX12_passes_84 ?_
            refine q_cVi (As := [.int (q_i a0), .int (q_i 5)]) (rest := []) cx hB (fun _ h => h) hN hmo kmo (by decide) rfl (r_ofMessage5 l g hN hB.2.1 mo hmo kmo a0 (by omega) (by omega) 5 (by decide) (by decide) sr hsr ksr z512 g514) q_cX12_308 q_dX12_ofMessage (by decide) rfl rfl hl.1 rfl (Nat.le_of_ble_eq_true rfl) dX12_passes_85 (fun y536 H locs f535 ry536 h537 hF hB => ?_)
            obtain ⟨rfl, ly536, uy536⟩ := h537
            refine q_ifne (tgt := 93) cx ⟨by omega, by omega⟩ dX12_passes_88 (by decide) (fun c538 => ?_) (fun c538 => ?_)
            · refine q_ald_n cx dX12_passes_93 rfl (lv_at hl 3 rfl) ?_
              refine q_gX12_20 cx hB hmo kmo z512 dX12_passes_94 (fun hb539 kb539 => ?_)
              refine q_bipush cx dX12_passes_97 rfl ?_
              obtain ⟨x540, ex540⟩ : ∃ zz, q_is (q_z f509 sr (Int.toNat 6)) zz := ⟨_, rfl⟩
              refine q_sald cx hB hsr ksr (by decide) (by decide) ex540 dX12_passes_99 (fun rx540 => ?_)
              obtain ⟨lx540, ux540⟩ : 0 ≤ x540 ∧ x540 ≤ 99 := q_isb ex540 (q_gr_at g514 (by decide) rfl)
              refine lv_iload cx.1 cx.2.1 dX12_passes_100 (lv_at hl 0 rfl) ?_
              refine q_ifeq (tgt := 109) cx ⟨by decide, by decide⟩ dX12_passes_102 (by decide) (fun c542 => ?_) (fun c542 => ?_)
              · refine q_ald_n cx dX12_passes_109 rfl (lv_at hl 3 rfl) ?_
                refine q_gX12_20 cx hB hmo kmo z512 dX12_passes_110 (fun hb543 kb543 => ?_)
                refine q_bipush cx dX12_passes_113 rfl ?_
                obtain ⟨x544, ex544⟩ : ∃ zz, q_is (q_z f509 sr (Int.toNat 7)) zz := ⟨_, rfl⟩
                refine q_sald cx hB hsr ksr (by decide) (by decide) ex544 dX12_passes_115 (fun rx544 => ?_)
                obtain ⟨lx544, ux544⟩ : 0 ≤ x544 ∧ x544 ≤ 99 := q_isb ex544 (q_gr_at g514 (by decide) rfl)
                refine q_iadd cx dX12_passes_116 ?_
                refine lv_istore (lv' := [(5, .int (q_i (x540 + x544))), (4, .int (q_i 0)), (3, .int (q_i y510)), (2, .int (q_i y504)), (0, .ref mo), (1, .int (q_i a0))]) cx.1 cx.2.1 dX12_passes_117 hl (by decide) rfl (fun ls hl => ?_)
                refine q_ald_n cx dX12_passes_119 rfl (lv_at hl 4 rfl) ?_
                refine q_ild_n cx dX12_passes_120 rfl (lv_at hl 3 rfl) ?_
                refine q_iconst cx dX12_passes_121 ?_
                refine q_cVi (As := [.int (q_i y504), .int (q_i 2)]) (rest := []) cx hB (fun _ h => h) hN hmo kmo (by decide) rfl (r_ofNode2 l g hN hB.2.1 mo hmo kmo y504 (by omega) (by omega) 2 (by decide) (by decide) sr hsr ksr z512 g514) q_cX12_256 q_dX12_ofNode (by decide) rfl rfl hl.1 rfl (Nat.le_of_ble_eq_true rfl) dX12_passes_122 (fun y547 H locs f546 ry547 h548 hF hB => ?_)
                obtain ⟨rfl, ly547, uy547, t549⟩ := h548
                refine lv_iload cx.1 cx.2.1 dX12_passes_125 (lv_at hl 0 rfl) ?_
                refine q_iclt (tgt := 141) cx ⟨by omega, by omega⟩ ⟨by omega, by omega⟩ dX12_passes_127 (by decide) (fun c550 => ?_) (fun c550 => ?_)
                · refine q_iconst cx dX12_passes_141 ?_
                  refine q_zret cx hr hlk hB dX12_passes_142 (by decide) (by decide) ?_
                  exact ⟨(by decide), (by decide), g514⟩
                · refine q_ald_n cx dX12_passes_130 rfl (lv_at hl 4 rfl) ?_
                  refine q_ild_n cx dX12_passes_131 rfl (lv_at hl 2 rfl) ?_
                  refine q_iconst cx dX12_passes_132 ?_
                  refine q_cVi (As := [.int (q_i y510), .int (q_i 2)]) (rest := []) cx hB (fun _ h => h) hN hmo kmo (by decide) rfl (r_ofNode2 l g hN hB.2.1 mo hmo kmo y510 (by omega) (by omega) 2 (by decide) (by decide) sr hsr ksr z512 g514) q_cX12_256 q_dX12_ofNode (by decide) rfl rfl hl.1 rfl (Nat.le_of_ble_eq_true rfl) dX12_passes_133 (fun y552 H locs f551 ry552 h553 hF hB => ?_)
                  obtain ⟨rfl, ly552, uy552, t554⟩ := h553
                  refine lv_iload cx.1 cx.2.1 dX12_passes_136 (lv_at hl 0 rfl) ?_
                  refine q_icge (tgt := 143) cx ⟨by omega, by omega⟩ ⟨by omega, by omega⟩ dX12_passes_138 (by decide) (fun c555 => ?_) (fun c555 => ?_)
                  · refine q_ald_n cx dX12_passes_143 rfl (lv_at hl 4 rfl) ?_
                    refine q_ild_n cx dX12_passes_144 rfl (lv_at hl 3 rfl) ?_
                    refine lv_iload cx.1 cx.2.1 dX12_passes_145 (lv_at hl 0 rfl) ?_
                    refine q_cVv (As := [.int (q_i y504), .int (q_i (x540 + x544))]) (rest := []) cx hB (fun _ h => h) hN hmo kmo (by decide) rfl (r_uses1 l g hN hB.2.1 mo hmo kmo y504 (by omega) (by omega) (x540 + x544) (by omega) (by omega) sr hsr ksr z512 (by omega) g514) q_cX12_295 q_dX12_uses (by decide) rfl rfl hl.1 rfl (Nat.le_of_ble_eq_true rfl) dX12_passes_147 (fun H locs f556 h558 hF hB => ?_)
                    obtain ⟨t559, g560⟩ := h558
                    have z561 : q_is (q_z f556 mo 27) x516 := Eq.trans (hF.z hmo (by rw [kmo]; rfl)) ex516
                    have z562 : q_is (q_z f556 mo 28) x522 := Eq.trans (hF.z hmo (by rw [kmo]; rfl)) ex522
                    have z563 : q_is (q_z f556 mo 26) x528 := Eq.trans (hF.z hmo (by rw [kmo]; rfl)) ex528
                    have z564 : q_is (q_z f556 sr 6) x540 := Eq.trans (hF.z hsr (by rw [ksr]; rfl)) ex540
                    have z565 : q_is (q_z f556 sr 7) x544 := Eq.trans (hF.z hsr (by rw [ksr]; rfl)) ex544
                    have z566 : q_ir (q_r f556 mo 13) sr := Eq.trans (hF.r hmo (by rw [kmo]; rfl)) z512
                    have z567 : q_ir (q_r f556 mo 24) hp := Eq.trans (hF.r hmo (by rw [kmo]; rfl)) z513
                    refine q_ald_n cx dX12_passes_150 rfl (lv_at hl 4 rfl) ?_
                    refine q_ild_n cx dX12_passes_151 rfl (lv_at hl 2 rfl) ?_
                    refine lv_iload cx.1 cx.2.1 dX12_passes_152 (lv_at hl 0 rfl) ?_
                    refine q_cVv (As := [.int (q_i y510), .int (q_i (x540 + x544))]) (rest := []) cx hB (fun _ h => h) hN hmo kmo (by decide) rfl (r_uses2 l g hN hB.2.1 mo hmo kmo y510 (by omega) (by omega) (x540 + x544) (by omega) (by omega) sr hsr ksr z566 (by have h7 := t559 y510 (by omega) (by omega); omega) g560) q_cX12_295 q_dX12_uses (by decide) rfl rfl hl.1 rfl (Nat.le_of_ble_eq_true rfl) dX12_passes_154 (fun H locs f568 h570 hF hB => ?_)
                    have g571 := h570
                    have z572 : q_is (q_z f568 mo 27) x516 := Eq.trans (hF.z hmo (by rw [kmo]; rfl)) z561
                    have z573 : q_is (q_z f568 mo 28) x522 := Eq.trans (hF.z hmo (by rw [kmo]; rfl)) z562
                    have z574 : q_is (q_z f568 mo 26) x528 := Eq.trans (hF.z hmo (by rw [kmo]; rfl)) z563
                    have z575 : q_is (q_z f568 sr 6) x540 := Eq.trans (hF.z hsr (by rw [ksr]; rfl)) z564
                    have z576 : q_is (q_z f568 sr 7) x544 := Eq.trans (hF.z hsr (by rw [ksr]; rfl)) z565
                    have z577 : q_ir (q_r f568 mo 13) sr := Eq.trans (hF.r hmo (by rw [kmo]; rfl)) z566
                    have z578 : q_ir (q_r f568 mo 24) hp := Eq.trans (hF.r hmo (by rw [kmo]; rfl)) z567
                    refine q_ald_n cx dX12_passes_157 rfl (lv_at hl 4 rfl) ?_
                    refine lv_dup cx.1 cx.2.1 dX12_passes_158 rfl ?_
                    refine q_gX12_314 cx hB hmo kmo z572 dX12_passes_159 (fun lb579 ub579 => ?_)
                    refine q_iconst cx dX12_passes_162 ?_
                    refine q_ild_n cx dX12_passes_163 rfl (lv_at hl 3 rfl) ?_
                    refine q_ishl cx dX12_passes_164 (fun y580 ry580 ey580 => ?_)
                    refine q_ior cx dX12_passes_165 (fun y581 ry581 ey581 => ?_)
                    refine q_pX12_314 cx hB hmo kmo ⟨by omega, by omega⟩ (by omega) (by omega) rfl dX12_passes_166 (fun H locs f582 ef582 z583 hB => ?_)
                    have z584 : q_is (q_z f582 mo 28) x522 := by rw [ef582, q_setz (Or.inr (by decide))]; exact z573
                    have z585 : q_is (q_z f582 mo 26) x528 := by rw [ef582, q_setz (Or.inr (by decide))]; exact z574
                    have z586 : q_is (q_z f582 sr 6) x540 := by rw [ef582, q_setz (Or.inr (by decide))]; exact z575
                    have z587 : q_is (q_z f582 sr 7) x544 := by rw [ef582, q_setz (Or.inr (by decide))]; exact z576
                    have z588 : q_ir (q_r f582 mo 13) sr := by rw [ef582, q_setr (Or.inr (by decide))]; exact z577
                    have z589 : q_ir (q_r f582 mo 24) hp := by rw [ef582, q_setr (Or.inr (by decide))]; exact z578
                    have g590 : q_gr f582 sr := q_gr_ne g571 ef582 (fun q => q_kne (k := 151) (k2 := 12) (by decide) ksr kmo q)
                    refine q_ald_n cx dX12_passes_169 rfl (lv_at hl 4 rfl) ?_
                    refine lv_dup cx.1 cx.2.1 dX12_passes_170 rfl ?_
                    refine q_gX12_317 cx hB hmo kmo z584 dX12_passes_171 (fun lb591 ub591 => ?_)
                    refine q_iconst cx dX12_passes_174 ?_
                    refine q_ild_n cx dX12_passes_175 rfl (lv_at hl 2 rfl) ?_
                    refine q_ishl cx dX12_passes_176 (fun y592 ry592 ey592 => ?_)
                    refine q_ior cx dX12_passes_177 (fun y593 ry593 ey593 => ?_)
                    refine q_pX12_317 cx hB hmo kmo ⟨by omega, by omega⟩ (by omega) (by omega) rfl dX12_passes_178 (fun H locs f594 ef594 z595 hB => ?_)
                    have z596 : q_is (q_z f594 mo 26) x528 := by rw [ef594, q_setz (Or.inr (by decide))]; exact z585
                    have z597 : q_is (q_z f594 sr 6) x540 := by rw [ef594, q_setz (Or.inr (by decide))]; exact z586
                    have z598 : q_is (q_z f594 sr 7) x544 := by rw [ef594, q_setz (Or.inr (by decide))]; exact z587
                    have z599 : q_is (q_z f594 mo 27) y581 := by rw [ef594, q_setz (Or.inr (by decide))]; exact z583
                    have z600 : q_ir (q_r f594 mo 13) sr := by rw [ef594, q_setr (Or.inr (by decide))]; exact z588
                    have z601 : q_ir (q_r f594 mo 24) hp := by rw [ef594, q_setr (Or.inr (by decide))]; exact z589
                    have g602 : q_gr f594 sr := q_gr_ne g590 ef594 (fun q => q_kne (k := 151) (k2 := 12) (by decide) ksr kmo q)
                    refine q_ald_n cx dX12_passes_181 rfl (lv_at hl 4 rfl) ?_
                    refine q_ild_n cx dX12_passes_182 rfl (lv_at hl 3 rfl) ?_
                    refine q_iconst cx dX12_passes_183 ?_
                    refine q_ald_n cx dX12_passes_184 rfl (lv_at hl 4 rfl) ?_
                    refine q_ild_n cx dX12_passes_185 rfl (lv_at hl 3 rfl) ?_
                    refine q_iconst cx dX12_passes_186 ?_
                    refine q_cVi (As := [.int (q_i y504), .int (q_i 4)]) (rest := [.int (q_i 4), .int (q_i y504), .ref mo]) cx hB (fun _ h => h) hN hmo kmo (by decide) rfl (r_ofNode4 l g hN hB.2.1 mo hmo kmo y504 (by omega) (by omega) 4 (by decide) (by decide) sr hsr ksr z600 g602) q_cX12_256 q_dX12_ofNode (by decide) rfl rfl hl.1 rfl (Nat.le_of_ble_eq_true rfl) dX12_passes_187 (fun y604 H locs f603 ry604 h605 hF hB => ?_)
                    obtain ⟨rfl, t606⟩ := h605
                    refine q_iconst cx dX12_passes_190 ?_
                    refine q_iadd cx dX12_passes_191 ?_
                    refine q_any (fun y607 ry607 ey607 => ?_)
                    refine q_cVv (As := [.int (q_i y504), .int (q_i 4), .int (q_i y607)]) (rest := []) cx hB (fun _ h => h) hN hmo kmo (by decide) rfl (r_setsNode4 l g hN hB.2.1 mo hmo kmo y504 (by omega) (by omega) 4 (by decide) (by decide) y607 (by omega) (by omega) sr hsr ksr z600 g602) q_cX12_202 q_dX12_setsNode (by decide) rfl rfl hl.1 rfl (Nat.le_of_ble_eq_true rfl) dX12_passes_192 (fun H locs f608 h610 hF hB => ?_)
                    have g611 := h610
                    have z612 : q_is (q_z f608 mo 26) x528 := Eq.trans (hF.z hmo (by rw [kmo]; rfl)) z596
                    have z613 : q_is (q_z f608 sr 6) x540 := Eq.trans (hF.z hsr (by rw [ksr]; rfl)) z597
                    have z614 : q_is (q_z f608 sr 7) x544 := Eq.trans (hF.z hsr (by rw [ksr]; rfl)) z598
                    have z615 : q_is (q_z f608 mo 27) y581 := Eq.trans (hF.z hmo (by rw [kmo]; rfl)) z599
                    have z616 : q_is (q_z f608 mo 28) y593 := Eq.trans (hF.z hmo (by rw [kmo]; rfl)) z595
                    have z617 : q_ir (q_r f608 mo 13) sr := Eq.trans (hF.r hmo (by rw [kmo]; rfl)) z600
                    have z618 : q_ir (q_r f608 mo 24) hp := Eq.trans (hF.r hmo (by rw [kmo]; rfl)) z601
                    refine q_ald_n cx dX12_passes_195 rfl (lv_at hl 4 rfl) ?_
                    refine q_ild_n cx dX12_passes_196 rfl (lv_at hl 2 rfl) ?_
                    refine q_iconst cx dX12_passes_197 ?_
                    refine q_ald_n cx dX12_passes_198 rfl (lv_at hl 4 rfl) ?_
                    refine q_ild_n cx dX12_passes_199 rfl (lv_at hl 2 rfl) ?_
                    refine q_iconst cx dX12_passes_200 ?_
                    refine q_cVi (As := [.int (q_i y510), .int (q_i 5)]) (rest := [.int (q_i 5), .int (q_i y510), .ref mo]) cx hB (fun _ h => h) hN hmo kmo (by decide) rfl (r_ofNode5 l g hN hB.2.1 mo hmo kmo y510 (by omega) (by omega) 5 (by decide) (by decide) sr hsr ksr z617 g611) q_cX12_256 q_dX12_ofNode (by decide) rfl rfl hl.1 rfl (Nat.le_of_ble_eq_true rfl) dX12_passes_201 (fun y620 H locs f619 ry620 h621 hF hB => ?_)
                    obtain ⟨rfl, t622⟩ := h621
                    refine q_iconst cx dX12_passes_204 ?_
                    refine q_iadd cx dX12_passes_205 ?_
                    refine q_any (fun y623 ry623 ey623 => ?_)
                    refine q_cVv (As := [.int (q_i y510), .int (q_i 5), .int (q_i y623)]) (rest := []) cx hB (fun _ h => h) hN hmo kmo (by decide) rfl (r_setsNode5 l g hN hB.2.1 mo hmo kmo y510 (by omega) (by omega) 5 (by decide) (by decide) y623 (by omega) (by omega) sr hsr ksr z617 g611) q_cX12_202 q_dX12_setsNode (by decide) rfl rfl hl.1 rfl (Nat.le_of_ble_eq_true rfl) dX12_passes_206 (fun H locs f624 h626 hF hB => ?_)
                    have g627 := h626
                    have z628 : q_is (q_z f624 mo 26) x528 := Eq.trans (hF.z hmo (by rw [kmo]; rfl)) z612
                    have z629 : q_is (q_z f624 sr 6) x540 := Eq.trans (hF.z hsr (by rw [ksr]; rfl)) z613
                    have z630 : q_is (q_z f624 sr 7) x544 := Eq.trans (hF.z hsr (by rw [ksr]; rfl)) z614
                    have z631 : q_is (q_z f624 mo 27) y581 := Eq.trans (hF.z hmo (by rw [kmo]; rfl)) z615
                    have z632 : q_is (q_z f624 mo 28) y593 := Eq.trans (hF.z hmo (by rw [kmo]; rfl)) z616
                    have z633 : q_ir (q_r f624 mo 13) sr := Eq.trans (hF.r hmo (by rw [kmo]; rfl)) z617
                    have z634 : q_ir (q_r f624 mo 24) hp := Eq.trans (hF.r hmo (by rw [kmo]; rfl)) z618
                    refine q_ald_n cx dX12_passes_209 rfl (lv_at hl 4 rfl) ?_
                    refine q_ild_n cx dX12_passes_210 rfl (lv_at hl 5 rfl) ?_
                    refine q_iconst cx dX12_passes_211 ?_
                    refine q_ild_n cx dX12_passes_212 rfl (lv_at hl 2 rfl) ?_
                    refine q_cVv (As := [.int (q_i a0), .int (q_i 2), .int (q_i y510)]) (rest := []) cx hB (fun _ h => h) hN hmo kmo (by decide) rfl (r_setsMessage2 l g hN hB.2.1 mo hmo kmo a0 (by omega) (by omega) 2 (by decide) (by decide) y510 (by omega) (by omega) sr hsr ksr z633 g627) q_cX12_320 q_dX12_setsMessage (by decide) rfl rfl hl.1 rfl (Nat.le_of_ble_eq_true rfl) dX12_passes_213 (fun H locs f635 h637 hF hB => ?_)
                    have g638 := h637
                    have z639 : q_is (q_z f635 mo 26) x528 := Eq.trans (hF.z hmo (by rw [kmo]; rfl)) z628
                    have z640 : q_is (q_z f635 sr 6) x540 := Eq.trans (hF.z hsr (by rw [ksr]; rfl)) z629
                    have z641 : q_is (q_z f635 sr 7) x544 := Eq.trans (hF.z hsr (by rw [ksr]; rfl)) z630
                    have z642 : q_is (q_z f635 mo 27) y581 := Eq.trans (hF.z hmo (by rw [kmo]; rfl)) z631
                    have z643 : q_is (q_z f635 mo 28) y593 := Eq.trans (hF.z hmo (by rw [kmo]; rfl)) z632
                    have z644 : q_ir (q_r f635 mo 13) sr := Eq.trans (hF.r hmo (by rw [kmo]; rfl)) z633
                    have z645 : q_ir (q_r f635 mo 24) hp := Eq.trans (hF.r hmo (by rw [kmo]; rfl)) z634
                    refine q_ald_n cx dX12_passes_216 rfl (lv_at hl 4 rfl) ?_
                    refine q_ild_n cx dX12_passes_217 rfl (lv_at hl 5 rfl) ?_
                    refine q_bipush cx dX12_passes_218 rfl ?_
                    refine q_ald_n cx dX12_passes_220 rfl (lv_at hl 4 rfl) ?_
                    refine q_ild_n cx dX12_passes_221 rfl (lv_at hl 5 rfl) ?_
                    refine q_bipush cx dX12_passes_222 rfl ?_
                    refine q_cVi (As := [.int (q_i a0), .int (q_i 7)]) (rest := [.int (q_i 7), .int (q_i a0), .ref mo]) cx hB (fun _ h => h) hN hmo kmo (by decide) rfl (r_ofMessage7 l g hN hB.2.1 mo hmo kmo a0 (by omega) (by omega) 7 (by decide) (by decide) sr hsr ksr z644 g638) q_cX12_308 q_dX12_ofMessage (by decide) rfl rfl hl.1 rfl (Nat.le_of_ble_eq_true rfl) dX12_passes_224 (fun y647 H locs f646 ry647 h648 hF hB => ?_)
                    obtain rfl := h648
                    refine q_iconst cx dX12_passes_227 ?_
                    refine q_iadd cx dX12_passes_228 ?_
                    refine q_any (fun y649 ry649 ey649 => ?_)
                    refine q_cVv (As := [.int (q_i a0), .int (q_i 7), .int (q_i y649)]) (rest := []) cx hB (fun _ h => h) hN hmo kmo (by decide) rfl (r_setsMessage7 l g hN hB.2.1 mo hmo kmo a0 (by omega) (by omega) 7 (by decide) (by decide) y649 (by omega) (by omega) sr hsr ksr z644 g638) q_cX12_320 q_dX12_setsMessage (by decide) rfl rfl hl.1 rfl (Nat.le_of_ble_eq_true rfl) dX12_passes_229 (fun H locs f650 h652 hF hB => ?_)
                    have g653 := h652
                    have z654 : q_is (q_z f650 mo 26) x528 := Eq.trans (hF.z hmo (by rw [kmo]; rfl)) z639
                    have z655 : q_is (q_z f650 sr 6) x540 := Eq.trans (hF.z hsr (by rw [ksr]; rfl)) z640
                    have z656 : q_is (q_z f650 sr 7) x544 := Eq.trans (hF.z hsr (by rw [ksr]; rfl)) z641
                    have z657 : q_is (q_z f650 mo 27) y581 := Eq.trans (hF.z hmo (by rw [kmo]; rfl)) z642
                    have z658 : q_is (q_z f650 mo 28) y593 := Eq.trans (hF.z hmo (by rw [kmo]; rfl)) z643
                    have z659 : q_ir (q_r f650 mo 13) sr := Eq.trans (hF.r hmo (by rw [kmo]; rfl)) z644
                    have z660 : q_ir (q_r f650 mo 24) hp := Eq.trans (hF.r hmo (by rw [kmo]; rfl)) z645
                    refine q_ild_n cx dX12_passes_232 rfl (lv_at hl 2 rfl) ?_
                    refine q_ald_n cx dX12_passes_233 rfl (lv_at hl 4 rfl) ?_
                    refine q_ild_n cx dX12_passes_234 rfl (lv_at hl 5 rfl) ?_
                    refine q_iconst cx dX12_passes_235 ?_
                    refine q_cVi (As := [.int (q_i a0), .int (q_i 1)]) (rest := [.int (q_i y510)]) cx hB (fun _ h => h) hN hmo kmo (by decide) rfl (r_ofMessage1 l g hN hB.2.1 mo hmo kmo a0 (by omega) (by omega) 1 (by decide) (by decide) sr hsr ksr z659 g653) q_cX12_308 q_dX12_ofMessage (by decide) rfl rfl hl.1 rfl (Nat.le_of_ble_eq_true rfl) dX12_passes_236 (fun y662 H locs f661 ry662 h663 hF hB => ?_)
                    obtain ⟨rfl, ly662, uy662⟩ := h663
                    refine q_icne (tgt := 246) cx ⟨by omega, by omega⟩ ⟨by omega, by omega⟩ dX12_passes_239 (by decide) (fun c664 => ?_) (fun c664 => ?_)
                    · refine q_iconst cx dX12_passes_246 ?_
                      refine lv_istore (lv' := [(6, .int (q_i 0)), (5, .int (q_i (x540 + x544))), (4, .int (q_i 0)), (3, .int (q_i y510)), (2, .int (q_i y504)), (0, .ref mo), (1, .int (q_i a0))]) cx.1 cx.2.1 dX12_passes_247 hl (by decide) rfl (fun ls hl => ?_)
                      refine lv_iload cx.1 cx.2.1 dX12_passes_249 (lv_at hl 0 rfl) ?_
                      refine q_ifeq (tgt := 261) cx ⟨by decide, by decide⟩ dX12_passes_251 (by decide) (fun c665 => ?_) (fun c665 => ?_)
                      · refine lv_iload cx.1 cx.2.1 dX12_passes_261 (lv_at hl 0 rfl) ?_
                        refine q_ifeq (tgt := 279) cx ⟨by decide, by decide⟩ dX12_passes_263 (by decide) (fun c666 => ?_) (fun c666 => ?_)
                        · refine lv_iload cx.1 cx.2.1 dX12_passes_279 (lv_at hl 0 rfl) ?_
                          refine q_zret cx hr hlk hB dX12_passes_281 (by decide) (by decide) ?_
                          exact ⟨(by decide), (by decide), g653⟩
                        · exact absurd c666 (by omega)
                      · exact absurd c665 (by omega)
                    · refine q_iconst cx dX12_passes_242 ?_
                      refine lv_goto (tgt := 247) cx.1 cx.2.1 dX12_passes_243 (by decide) ?_
                      refine lv_istore (lv' := [(6, .int (q_i 1)), (5, .int (q_i (x540 + x544))), (4, .int (q_i 0)), (3, .int (q_i y510)), (2, .int (q_i y504)), (0, .ref mo), (1, .int (q_i a0))]) cx.1 cx.2.1 dX12_passes_247 hl (by decide) rfl (fun ls hl => ?_)
                      refine lv_iload cx.1 cx.2.1 dX12_passes_249 (lv_at hl 0 rfl) ?_
                      refine q_ifeq (tgt := 261) cx ⟨by decide, by decide⟩ dX12_passes_251 (by decide) (fun c667 => ?_) (fun c667 => ?_)
                      · exact absurd c667 (by omega)
                      · refine q_ald_n cx dX12_passes_254 rfl (lv_at hl 5 rfl) ?_
                        refine q_ild_n cx dX12_passes_255 rfl (lv_at hl 6 rfl) ?_
                        refine q_iconst cx dX12_passes_256 ?_
                        refine q_iconst cx dX12_passes_257 ?_
                        refine q_cVv (As := [.int (q_i a0), .int (q_i 3), .int (q_i 1)]) (rest := []) cx hB (fun _ h => h) hN hmo kmo (by decide) rfl (r_setsMessage3 l g hN hB.2.1 mo hmo kmo a0 (by omega) (by omega) 3 (by decide) (by decide) 1 (by decide) (by decide) sr hsr ksr z659 g653) q_cX12_320 q_dX12_setsMessage (by decide) rfl rfl hl.1 rfl (Nat.le_of_ble_eq_true rfl) dX12_passes_258 (fun H locs f668 h670 hF hB => ?_)
                        have g671 := h670
                        have z672 : q_is (q_z f668 mo 26) x528 := Eq.trans (hF.z hmo (by rw [kmo]; rfl)) z654
                        have z673 : q_is (q_z f668 sr 6) x540 := Eq.trans (hF.z hsr (by rw [ksr]; rfl)) z655
                        have z674 : q_is (q_z f668 sr 7) x544 := Eq.trans (hF.z hsr (by rw [ksr]; rfl)) z656
                        have z675 : q_is (q_z f668 mo 27) y581 := Eq.trans (hF.z hmo (by rw [kmo]; rfl)) z657
                        have z676 : q_is (q_z f668 mo 28) y593 := Eq.trans (hF.z hmo (by rw [kmo]; rfl)) z658
                        have z677 : q_ir (q_r f668 mo 13) sr := Eq.trans (hF.r hmo (by rw [kmo]; rfl)) z659
                        have z678 : q_ir (q_r f668 mo 24) hp := Eq.trans (hF.r hmo (by rw [kmo]; rfl)) z660
                        refine lv_iload cx.1 cx.2.1 dX12_passes_261 (lv_at hl 0 rfl) ?_
                        refine q_ifeq (tgt := 279) cx ⟨by decide, by decide⟩ dX12_passes_263 (by decide) (fun c679 => ?_) (fun c679 => ?_)
                        · exact absurd c679 (by omega)
                        · refine q_ald_n cx dX12_passes_266 rfl (lv_at hl 5 rfl) ?_
                          refine q_ild_n cx dX12_passes_267 rfl (lv_at hl 6 rfl) ?_
                          refine q_bipush cx dX12_passes_268 rfl ?_
                          refine q_ald_n cx dX12_passes_270 rfl (lv_at hl 5 rfl) ?_
                          refine q_gX12_20 cx hB hmo kmo z677 dX12_passes_271 (fun hb680 kb680 => ?_)
                          refine q_iconst cx dX12_passes_274 ?_
                          obtain ⟨x681, ex681⟩ : ∃ zz, q_is (q_z f668 sr (Int.toNat 3)) zz := ⟨_, rfl⟩
                          refine q_sald cx hB hsr ksr (by decide) (by decide) ex681 dX12_passes_275 (fun rx681 => ?_)
                          obtain ⟨lx681, ux681⟩ : 0 ≤ x681 ∧ x681 ≤ 20000 := q_isb ex681 (q_gr_at g671 (by decide) rfl)
                          refine q_cVv (As := [.int (q_i a0), .int (q_i 6), .int (q_i x681)]) (rest := []) cx hB (fun _ h => h) hN hmo kmo (by decide) rfl (r_setsMessage6 l g hN hB.2.1 mo hmo kmo a0 (by omega) (by omega) 6 (by decide) (by decide) x681 (by omega) (by omega) sr hsr ksr z677 g671) q_cX12_320 q_dX12_setsMessage (by decide) rfl rfl hl.1 rfl (Nat.le_of_ble_eq_true rfl) dX12_passes_276 (fun H locs f683 h685 hF hB => ?_)
                          have g686 := h685
                          have z687 : q_is (q_z f683 mo 26) x528 := Eq.trans (hF.z hmo (by rw [kmo]; rfl)) z672
                          have z688 : q_is (q_z f683 sr 6) x540 := Eq.trans (hF.z hsr (by rw [ksr]; rfl)) z673
                          have z689 : q_is (q_z f683 sr 7) x544 := Eq.trans (hF.z hsr (by rw [ksr]; rfl)) z674
                          have z690 : q_is (q_z f683 mo 27) y581 := Eq.trans (hF.z hmo (by rw [kmo]; rfl)) z675
                          have z691 : q_is (q_z f683 mo 28) y593 := Eq.trans (hF.z hmo (by rw [kmo]; rfl)) z676
                          have z692 : q_is (q_z f683 sr 3) x681 := Eq.trans (hF.z hsr (by rw [ksr]; rfl)) ex681
                          have z693 : q_ir (q_r f683 mo 13) sr := Eq.trans (hF.r hmo (by rw [kmo]; rfl)) z677
                          have z694 : q_ir (q_r f683 mo 24) hp := Eq.trans (hF.r hmo (by rw [kmo]; rfl)) z678
                          refine lv_iload cx.1 cx.2.1 dX12_passes_279 (lv_at hl 0 rfl) ?_
                          refine q_zret cx hr hlk hB dX12_passes_281 (by decide) (by decide) ?_
                          exact ⟨(by decide), (by decide), g686⟩
                  · refine q_iconst cx dX12_passes_141 ?_
                    refine q_zret cx hr hlk hB dX12_passes_142 (by decide) (by decide) ?_
                    exact ⟨(by decide), (by decide), g514⟩
              · exact absurd c542 (by omega)
            · refine q_iconst cx dX12_passes_91 ?_
              refine q_zret cx hr hlk hB dX12_passes_92 (by decide) (by decide) ?_
              exact ⟨(by decide), (by decide), g514⟩
        · refine q_ald_n cx dX12_passes_59 rfl (lv_at hl 2 rfl) ?_
          refine q_gX12_283 cx hB hmo kmo ex528 dX12_passes_60 (fun lb695 ub695 => ?_)
          refine q_ild_n cx dX12_passes_63 rfl (lv_at hl 0 rfl) ?_
          refine q_cSi (As := [.int (q_i x528), .int (q_i y510)]) (rest := []) cx hB (fun _ h => h) hN (r_has l g hN hB.2.1 x528 (by omega) (by omega) y510 (by omega) (by omega)) q_cX12_185 q_dX12_has (by decide) rfl rfl hl.1 rfl (Nat.le_of_ble_eq_true rfl) dX12_passes_64 (fun y697 H locs f696 ry697 h698 hF hB => ?_)
          obtain ⟨rfl, ly697, uy697⟩ := h698
          refine q_ifeq (tgt := 74) cx ⟨by omega, by omega⟩ dX12_passes_67 (by decide) (fun c699 => ?_) (fun c699 => ?_)
          · refine q_iconst cx dX12_passes_74 ?_
            refine lv_istore (lv' := [(4, .int (q_i 0)), (3, .int (q_i y510)), (2, .int (q_i y504)), (0, .ref mo), (1, .int (q_i a0))]) cx.1 cx.2.1 dX12_passes_75 hl (by decide) rfl (fun ls hl => ?_)
            refine lv_iload cx.1 cx.2.1 dX12_passes_77 (lv_at hl 0 rfl) ?_
            refine q_ifne (tgt := 93) cx ⟨by decide, by decide⟩ dX12_passes_79 (by decide) (fun c700 => ?_) (fun c700 => ?_)
            · exact absurd c700 (by omega)
            · refine q_ald_n cx dX12_passes_82 rfl (lv_at hl 3 rfl) ?_
              refine q_ild_n cx dX12_passes_83 rfl (lv_at hl 4 rfl) ?_
              refine q_iconst cx dX12_passes_84 ?_
              refine q_cVi (As := [.int (q_i a0), .int (q_i 5)]) (rest := []) cx hB (fun _ h => h) hN hmo kmo (by decide) rfl (r_ofMessage5 l g hN hB.2.1 mo hmo kmo a0 (by omega) (by omega) 5 (by decide) (by decide) sr hsr ksr z512 g514) q_cX12_308 q_dX12_ofMessage (by decide) rfl rfl hl.1 rfl (Nat.le_of_ble_eq_true rfl) dX12_passes_85 (fun y702 H locs f701 ry702 h703 hF hB => ?_)
              obtain ⟨rfl, ly702, uy702⟩ := h703
              refine q_ifne (tgt := 93) cx ⟨by omega, by omega⟩ dX12_passes_88 (by decide) (fun c704 => ?_) (fun c704 => ?_)
              · refine q_ald_n cx dX12_passes_93 rfl (lv_at hl 3 rfl) ?_
                refine q_gX12_20 cx hB hmo kmo z512 dX12_passes_94 (fun hb705 kb705 => ?_)
                refine q_bipush cx dX12_passes_97 rfl ?_
                obtain ⟨x706, ex706⟩ : ∃ zz, q_is (q_z f509 sr (Int.toNat 6)) zz := ⟨_, rfl⟩
                refine q_sald cx hB hsr ksr (by decide) (by decide) ex706 dX12_passes_99 (fun rx706 => ?_)
                obtain ⟨lx706, ux706⟩ : 0 ≤ x706 ∧ x706 ≤ 99 := q_isb ex706 (q_gr_at g514 (by decide) rfl)
                refine lv_iload cx.1 cx.2.1 dX12_passes_100 (lv_at hl 0 rfl) ?_
                refine q_ifeq (tgt := 109) cx ⟨by decide, by decide⟩ dX12_passes_102 (by decide) (fun c708 => ?_) (fun c708 => ?_)
                · refine q_ald_n cx dX12_passes_109 rfl (lv_at hl 3 rfl) ?_
                  refine q_gX12_20 cx hB hmo kmo z512 dX12_passes_110 (fun hb709 kb709 => ?_)
                  refine q_bipush cx dX12_passes_113 rfl ?_
                  obtain ⟨x710, ex710⟩ : ∃ zz, q_is (q_z f509 sr (Int.toNat 7)) zz := ⟨_, rfl⟩
                  refine q_sald cx hB hsr ksr (by decide) (by decide) ex710 dX12_passes_115 (fun rx710 => ?_)
                  obtain ⟨lx710, ux710⟩ : 0 ≤ x710 ∧ x710 ≤ 99 := q_isb ex710 (q_gr_at g514 (by decide) rfl)
                  refine q_iadd cx dX12_passes_116 ?_
                  refine lv_istore (lv' := [(5, .int (q_i (x706 + x710))), (4, .int (q_i 0)), (3, .int (q_i y510)), (2, .int (q_i y504)), (0, .ref mo), (1, .int (q_i a0))]) cx.1 cx.2.1 dX12_passes_117 hl (by decide) rfl (fun ls hl => ?_)
                  refine q_ald_n cx dX12_passes_119 rfl (lv_at hl 4 rfl) ?_
                  refine q_ild_n cx dX12_passes_120 rfl (lv_at hl 3 rfl) ?_
                  refine q_iconst cx dX12_passes_121 ?_
                  refine q_cVi (As := [.int (q_i y504), .int (q_i 2)]) (rest := []) cx hB (fun _ h => h) hN hmo kmo (by decide) rfl (r_ofNode2 l g hN hB.2.1 mo hmo kmo y504 (by omega) (by omega) 2 (by decide) (by decide) sr hsr ksr z512 g514) q_cX12_256 q_dX12_ofNode (by decide) rfl rfl hl.1 rfl (Nat.le_of_ble_eq_true rfl) dX12_passes_122 (fun y713 H locs f712 ry713 h714 hF hB => ?_)
                  obtain ⟨rfl, ly713, uy713, t715⟩ := h714
                  refine lv_iload cx.1 cx.2.1 dX12_passes_125 (lv_at hl 0 rfl) ?_
                  refine q_iclt (tgt := 141) cx ⟨by omega, by omega⟩ ⟨by omega, by omega⟩ dX12_passes_127 (by decide) (fun c716 => ?_) (fun c716 => ?_)
                  · refine q_iconst cx dX12_passes_141 ?_
                    refine q_zret cx hr hlk hB dX12_passes_142 (by decide) (by decide) ?_
                    exact ⟨(by decide), (by decide), g514⟩
                  · refine q_ald_n cx dX12_passes_130 rfl (lv_at hl 4 rfl) ?_
                    refine q_ild_n cx dX12_passes_131 rfl (lv_at hl 2 rfl) ?_
                    refine q_iconst cx dX12_passes_132 ?_
                    refine q_cVi (As := [.int (q_i y510), .int (q_i 2)]) (rest := []) cx hB (fun _ h => h) hN hmo kmo (by decide) rfl (r_ofNode2 l g hN hB.2.1 mo hmo kmo y510 (by omega) (by omega) 2 (by decide) (by decide) sr hsr ksr z512 g514) q_cX12_256 q_dX12_ofNode (by decide) rfl rfl hl.1 rfl (Nat.le_of_ble_eq_true rfl) dX12_passes_133 (fun y718 H locs f717 ry718 h719 hF hB => ?_)
                    obtain ⟨rfl, ly718, uy718, t720⟩ := h719
                    refine lv_iload cx.1 cx.2.1 dX12_passes_136 (lv_at hl 0 rfl) ?_
                    refine q_icge (tgt := 143) cx ⟨by omega, by omega⟩ ⟨by omega, by omega⟩ dX12_passes_138 (by decide) (fun c721 => ?_) (fun c721 => ?_)
                    · refine q_ald_n cx dX12_passes_143 rfl (lv_at hl 4 rfl) ?_
                      refine q_ild_n cx dX12_passes_144 rfl (lv_at hl 3 rfl) ?_
                      refine lv_iload cx.1 cx.2.1 dX12_passes_145 (lv_at hl 0 rfl) ?_
                      refine q_cVv (As := [.int (q_i y504), .int (q_i (x706 + x710))]) (rest := []) cx hB (fun _ h => h) hN hmo kmo (by decide) rfl (r_uses1 l g hN hB.2.1 mo hmo kmo y504 (by omega) (by omega) (x706 + x710) (by omega) (by omega) sr hsr ksr z512 (by omega) g514) q_cX12_295 q_dX12_uses (by decide) rfl rfl hl.1 rfl (Nat.le_of_ble_eq_true rfl) dX12_passes_147 (fun H locs f722 h724 hF hB => ?_)
                      obtain ⟨t725, g726⟩ := h724
                      have z727 : q_is (q_z f722 mo 27) x516 := Eq.trans (hF.z hmo (by rw [kmo]; rfl)) ex516
                      have z728 : q_is (q_z f722 mo 28) x522 := Eq.trans (hF.z hmo (by rw [kmo]; rfl)) ex522
                      have z729 : q_is (q_z f722 mo 26) x528 := Eq.trans (hF.z hmo (by rw [kmo]; rfl)) ex528
                      have z730 : q_is (q_z f722 sr 6) x706 := Eq.trans (hF.z hsr (by rw [ksr]; rfl)) ex706
                      have z731 : q_is (q_z f722 sr 7) x710 := Eq.trans (hF.z hsr (by rw [ksr]; rfl)) ex710
                      have z732 : q_ir (q_r f722 mo 13) sr := Eq.trans (hF.r hmo (by rw [kmo]; rfl)) z512
                      have z733 : q_ir (q_r f722 mo 24) hp := Eq.trans (hF.r hmo (by rw [kmo]; rfl)) z513
                      refine q_ald_n cx dX12_passes_150 rfl (lv_at hl 4 rfl) ?_
                      refine q_ild_n cx dX12_passes_151 rfl (lv_at hl 2 rfl) ?_
                      refine lv_iload cx.1 cx.2.1 dX12_passes_152 (lv_at hl 0 rfl) ?_
                      refine q_cVv (As := [.int (q_i y510), .int (q_i (x706 + x710))]) (rest := []) cx hB (fun _ h => h) hN hmo kmo (by decide) rfl (r_uses2 l g hN hB.2.1 mo hmo kmo y510 (by omega) (by omega) (x706 + x710) (by omega) (by omega) sr hsr ksr z732 (by have h7 := t725 y510 (by omega) (by omega); omega) g726) q_cX12_295 q_dX12_uses (by decide) rfl rfl hl.1 rfl (Nat.le_of_ble_eq_true rfl) dX12_passes_154 (fun H locs f734 h736 hF hB => ?_)
                      have g737 := h736
                      have z738 : q_is (q_z f734 mo 27) x516 := Eq.trans (hF.z hmo (by rw [kmo]; rfl)) z727
                      have z739 : q_is (q_z f734 mo 28) x522 := Eq.trans (hF.z hmo (by rw [kmo]; rfl)) z728
                      have z740 : q_is (q_z f734 mo 26) x528 := Eq.trans (hF.z hmo (by rw [kmo]; rfl)) z729
                      have z741 : q_is (q_z f734 sr 6) x706 := Eq.trans (hF.z hsr (by rw [ksr]; rfl)) z730
                      have z742 : q_is (q_z f734 sr 7) x710 := Eq.trans (hF.z hsr (by rw [ksr]; rfl)) z731
                      have z743 : q_ir (q_r f734 mo 13) sr := Eq.trans (hF.r hmo (by rw [kmo]; rfl)) z732
                      have z744 : q_ir (q_r f734 mo 24) hp := Eq.trans (hF.r hmo (by rw [kmo]; rfl)) z733
                      refine q_ald_n cx dX12_passes_157 rfl (lv_at hl 4 rfl) ?_
                      refine lv_dup cx.1 cx.2.1 dX12_passes_158 rfl ?_
                      refine q_gX12_314 cx hB hmo kmo z738 dX12_passes_159 (fun lb745 ub745 => ?_)
                      refine q_iconst cx dX12_passes_162 ?_
                      refine q_ild_n cx dX12_passes_163 rfl (lv_at hl 3 rfl) ?_
                      refine q_ishl cx dX12_passes_164 (fun y746 ry746 ey746 => ?_)
                      refine q_ior cx dX12_passes_165 (fun y747 ry747 ey747 => ?_)
                      refine q_pX12_314 cx hB hmo kmo ⟨by omega, by omega⟩ (by omega) (by omega) rfl dX12_passes_166 (fun H locs f748 ef748 z749 hB => ?_)
                      have z750 : q_is (q_z f748 mo 28) x522 := by rw [ef748, q_setz (Or.inr (by decide))]; exact z739
                      have z751 : q_is (q_z f748 mo 26) x528 := by rw [ef748, q_setz (Or.inr (by decide))]; exact z740
                      have z752 : q_is (q_z f748 sr 6) x706 := by rw [ef748, q_setz (Or.inr (by decide))]; exact z741
                      have z753 : q_is (q_z f748 sr 7) x710 := by rw [ef748, q_setz (Or.inr (by decide))]; exact z742
                      have z754 : q_ir (q_r f748 mo 13) sr := by rw [ef748, q_setr (Or.inr (by decide))]; exact z743
                      have z755 : q_ir (q_r f748 mo 24) hp := by rw [ef748, q_setr (Or.inr (by decide))]; exact z744
                      have g756 : q_gr f748 sr := q_gr_ne g737 ef748 (fun q => q_kne (k := 151) (k2 := 12) (by decide) ksr kmo q)
                      refine q_ald_n cx dX12_passes_169 rfl (lv_at hl 4 rfl) ?_
                      refine lv_dup cx.1 cx.2.1 dX12_passes_170 rfl ?_
                      refine q_gX12_317 cx hB hmo kmo z750 dX12_passes_171 (fun lb757 ub757 => ?_)
                      refine q_iconst cx dX12_passes_174 ?_
                      refine q_ild_n cx dX12_passes_175 rfl (lv_at hl 2 rfl) ?_
                      refine q_ishl cx dX12_passes_176 (fun y758 ry758 ey758 => ?_)
                      refine q_ior cx dX12_passes_177 (fun y759 ry759 ey759 => ?_)
                      refine q_pX12_317 cx hB hmo kmo ⟨by omega, by omega⟩ (by omega) (by omega) rfl dX12_passes_178 (fun H locs f760 ef760 z761 hB => ?_)
                      have z762 : q_is (q_z f760 mo 26) x528 := by rw [ef760, q_setz (Or.inr (by decide))]; exact z751
                      have z763 : q_is (q_z f760 sr 6) x706 := by rw [ef760, q_setz (Or.inr (by decide))]; exact z752
                      have z764 : q_is (q_z f760 sr 7) x710 := by rw [ef760, q_setz (Or.inr (by decide))]; exact z753
                      have z765 : q_is (q_z f760 mo 27) y747 := by rw [ef760, q_setz (Or.inr (by decide))]; exact z749
                      have z766 : q_ir (q_r f760 mo 13) sr := by rw [ef760, q_setr (Or.inr (by decide))]; exact z754
                      have z767 : q_ir (q_r f760 mo 24) hp := by rw [ef760, q_setr (Or.inr (by decide))]; exact z755
                      have g768 : q_gr f760 sr := q_gr_ne g756 ef760 (fun q => q_kne (k := 151) (k2 := 12) (by decide) ksr kmo q)
                      refine q_ald_n cx dX12_passes_181 rfl (lv_at hl 4 rfl) ?_
                      refine q_ild_n cx dX12_passes_182 rfl (lv_at hl 3 rfl) ?_
                      refine q_iconst cx dX12_passes_183 ?_
                      refine q_ald_n cx dX12_passes_184 rfl (lv_at hl 4 rfl) ?_
                      refine q_ild_n cx dX12_passes_185 rfl (lv_at hl 3 rfl) ?_
                      refine q_iconst cx dX12_passes_186 ?_
                      refine q_cVi (As := [.int (q_i y504), .int (q_i 4)]) (rest := [.int (q_i 4), .int (q_i y504), .ref mo]) cx hB (fun _ h => h) hN hmo kmo (by decide) rfl (r_ofNode4 l g hN hB.2.1 mo hmo kmo y504 (by omega) (by omega) 4 (by decide) (by decide) sr hsr ksr z766 g768) q_cX12_256 q_dX12_ofNode (by decide) rfl rfl hl.1 rfl (Nat.le_of_ble_eq_true rfl) dX12_passes_187 (fun y770 H locs f769 ry770 h771 hF hB => ?_)
                      obtain ⟨rfl, t772⟩ := h771
                      refine q_iconst cx dX12_passes_190 ?_
                      refine q_iadd cx dX12_passes_191 ?_
                      refine q_any (fun y773 ry773 ey773 => ?_)
                      refine q_cVv (As := [.int (q_i y504), .int (q_i 4), .int (q_i y773)]) (rest := []) cx hB (fun _ h => h) hN hmo kmo (by decide) rfl (r_setsNode4 l g hN hB.2.1 mo hmo kmo y504 (by omega) (by omega) 4 (by decide) (by decide) y773 (by omega) (by omega) sr hsr ksr z766 g768) q_cX12_202 q_dX12_setsNode (by decide) rfl rfl hl.1 rfl (Nat.le_of_ble_eq_true rfl) dX12_passes_192 (fun H locs f774 h776 hF hB => ?_)
                      have g777 := h776
                      have z778 : q_is (q_z f774 mo 26) x528 := Eq.trans (hF.z hmo (by rw [kmo]; rfl)) z762
                      have z779 : q_is (q_z f774 sr 6) x706 := Eq.trans (hF.z hsr (by rw [ksr]; rfl)) z763
                      have z780 : q_is (q_z f774 sr 7) x710 := Eq.trans (hF.z hsr (by rw [ksr]; rfl)) z764
                      have z781 : q_is (q_z f774 mo 27) y747 := Eq.trans (hF.z hmo (by rw [kmo]; rfl)) z765
                      have z782 : q_is (q_z f774 mo 28) y759 := Eq.trans (hF.z hmo (by rw [kmo]; rfl)) z761
                      have z783 : q_ir (q_r f774 mo 13) sr := Eq.trans (hF.r hmo (by rw [kmo]; rfl)) z766
                      have z784 : q_ir (q_r f774 mo 24) hp := Eq.trans (hF.r hmo (by rw [kmo]; rfl)) z767
                      refine q_ald_n cx dX12_passes_195 rfl (lv_at hl 4 rfl) ?_
                      refine q_ild_n cx dX12_passes_196 rfl (lv_at hl 2 rfl) ?_
                      refine q_iconst cx dX12_passes_197 ?_
                      refine q_ald_n cx dX12_passes_198 rfl (lv_at hl 4 rfl) ?_
                      refine q_ild_n cx dX12_passes_199 rfl (lv_at hl 2 rfl) ?_
                      refine q_iconst cx dX12_passes_200 ?_
                      refine q_cVi (As := [.int (q_i y510), .int (q_i 5)]) (rest := [.int (q_i 5), .int (q_i y510), .ref mo]) cx hB (fun _ h => h) hN hmo kmo (by decide) rfl (r_ofNode5 l g hN hB.2.1 mo hmo kmo y510 (by omega) (by omega) 5 (by decide) (by decide) sr hsr ksr z783 g777) q_cX12_256 q_dX12_ofNode (by decide) rfl rfl hl.1 rfl (Nat.le_of_ble_eq_true rfl) dX12_passes_201 (fun y786 H locs f785 ry786 h787 hF hB => ?_)
                      obtain ⟨rfl, t788⟩ := h787
                      refine q_iconst cx dX12_passes_204 ?_
                      refine q_iadd cx dX12_passes_205 ?_
                      refine q_any (fun y789 ry789 ey789 => ?_)
                      refine q_cVv (As := [.int (q_i y510), .int (q_i 5), .int (q_i y789)]) (rest := []) cx hB (fun _ h => h) hN hmo kmo (by decide) rfl (r_setsNode5 l g hN hB.2.1 mo hmo kmo y510 (by omega) (by omega) 5 (by decide) (by decide) y789 (by omega) (by omega) sr hsr ksr z783 g777) q_cX12_202 q_dX12_setsNode (by decide) rfl rfl hl.1 rfl (Nat.le_of_ble_eq_true rfl) dX12_passes_206 (fun H locs f790 h792 hF hB => ?_)
                      have g793 := h792
                      have z794 : q_is (q_z f790 mo 26) x528 := Eq.trans (hF.z hmo (by rw [kmo]; rfl)) z778
                      have z795 : q_is (q_z f790 sr 6) x706 := Eq.trans (hF.z hsr (by rw [ksr]; rfl)) z779
                      have z796 : q_is (q_z f790 sr 7) x710 := Eq.trans (hF.z hsr (by rw [ksr]; rfl)) z780
                      have z797 : q_is (q_z f790 mo 27) y747 := Eq.trans (hF.z hmo (by rw [kmo]; rfl)) z781
                      have z798 : q_is (q_z f790 mo 28) y759 := Eq.trans (hF.z hmo (by rw [kmo]; rfl)) z782
                      have z799 : q_ir (q_r f790 mo 13) sr := Eq.trans (hF.r hmo (by rw [kmo]; rfl)) z783
                      have z800 : q_ir (q_r f790 mo 24) hp := Eq.trans (hF.r hmo (by rw [kmo]; rfl)) z784
                      refine q_ald_n cx dX12_passes_209 rfl (lv_at hl 4 rfl) ?_
                      refine q_ild_n cx dX12_passes_210 rfl (lv_at hl 5 rfl) ?_
                      refine q_iconst cx dX12_passes_211 ?_
                      refine q_ild_n cx dX12_passes_212 rfl (lv_at hl 2 rfl) ?_
                      refine q_cVv (As := [.int (q_i a0), .int (q_i 2), .int (q_i y510)]) (rest := []) cx hB (fun _ h => h) hN hmo kmo (by decide) rfl (r_setsMessage2 l g hN hB.2.1 mo hmo kmo a0 (by omega) (by omega) 2 (by decide) (by decide) y510 (by omega) (by omega) sr hsr ksr z799 g793) q_cX12_320 q_dX12_setsMessage (by decide) rfl rfl hl.1 rfl (Nat.le_of_ble_eq_true rfl) dX12_passes_213 (fun H locs f801 h803 hF hB => ?_)
                      have g804 := h803
                      have z805 : q_is (q_z f801 mo 26) x528 := Eq.trans (hF.z hmo (by rw [kmo]; rfl)) z794
                      have z806 : q_is (q_z f801 sr 6) x706 := Eq.trans (hF.z hsr (by rw [ksr]; rfl)) z795
                      have z807 : q_is (q_z f801 sr 7) x710 := Eq.trans (hF.z hsr (by rw [ksr]; rfl)) z796
                      have z808 : q_is (q_z f801 mo 27) y747 := Eq.trans (hF.z hmo (by rw [kmo]; rfl)) z797
                      have z809 : q_is (q_z f801 mo 28) y759 := Eq.trans (hF.z hmo (by rw [kmo]; rfl)) z798
                      have z810 : q_ir (q_r f801 mo 13) sr := Eq.trans (hF.r hmo (by rw [kmo]; rfl)) z799
                      have z811 : q_ir (q_r f801 mo 24) hp := Eq.trans (hF.r hmo (by rw [kmo]; rfl)) z800
                      refine q_ald_n cx dX12_passes_216 rfl (lv_at hl 4 rfl) ?_
                      refine q_ild_n cx dX12_passes_217 rfl (lv_at hl 5 rfl) ?_
                      refine q_bipush cx dX12_passes_218 rfl ?_
                      refine q_ald_n cx dX12_passes_220 rfl (lv_at hl 4 rfl) ?_
                      refine q_ild_n cx dX12_passes_221 rfl (lv_at hl 5 rfl) ?_
                      refine q_bipush cx dX12_passes_222 rfl ?_
                      refine q_cVi (As := [.int (q_i a0), .int (q_i 7)]) (rest := [.int (q_i 7), .int (q_i a0), .ref mo]) cx hB (fun _ h => h) hN hmo kmo (by decide) rfl (r_ofMessage7 l g hN hB.2.1 mo hmo kmo a0 (by omega) (by omega) 7 (by decide) (by decide) sr hsr ksr z810 g804) q_cX12_308 q_dX12_ofMessage (by decide) rfl rfl hl.1 rfl (Nat.le_of_ble_eq_true rfl) dX12_passes_224 (fun y813 H locs f812 ry813 h814 hF hB => ?_)
                      obtain rfl := h814
                      refine q_iconst cx dX12_passes_227 ?_
                      refine q_iadd cx dX12_passes_228 ?_
                      refine q_any (fun y815 ry815 ey815 => ?_)
                      refine q_cVv (As := [.int (q_i a0), .int (q_i 7), .int (q_i y815)]) (rest := []) cx hB (fun _ h => h) hN hmo kmo (by decide) rfl (r_setsMessage7 l g hN hB.2.1 mo hmo kmo a0 (by omega) (by omega) 7 (by decide) (by decide) y815 (by omega) (by omega) sr hsr ksr z810 g804) q_cX12_320 q_dX12_setsMessage (by decide) rfl rfl hl.1 rfl (Nat.le_of_ble_eq_true rfl) dX12_passes_229 (fun H locs f816 h818 hF hB => ?_)
                      have g819 := h818
                      have z820 : q_is (q_z f816 mo 26) x528 := Eq.trans (hF.z hmo (by rw [kmo]; rfl)) z805
                      have z821 : q_is (q_z f816 sr 6) x706 := Eq.trans (hF.z hsr (by rw [ksr]; rfl)) z806
                      have z822 : q_is (q_z f816 sr 7) x710 := Eq.trans (hF.z hsr (by rw [ksr]; rfl)) z807
                      have z823 : q_is (q_z f816 mo 27) y747 := Eq.trans (hF.z hmo (by rw [kmo]; rfl)) z808
                      have z824 : q_is (q_z f816 mo 28) y759 := Eq.trans (hF.z hmo (by rw [kmo]; rfl)) z809
                      have z825 : q_ir (q_r f816 mo 13) sr := Eq.trans (hF.r hmo (by rw [kmo]; rfl)) z810
                      have z826 : q_ir (q_r f816 mo 24) hp := Eq.trans (hF.r hmo (by rw [kmo]; rfl)) z811
                      refine q_ild_n cx dX12_passes_232 rfl (lv_at hl 2 rfl) ?_
                      refine q_ald_n cx dX12_passes_233 rfl (lv_at hl 4 rfl) ?_
                      refine q_ild_n cx dX12_passes_234 rfl (lv_at hl 5 rfl) ?_
                      refine q_iconst cx dX12_passes_235 ?_
                      refine q_cVi (As := [.int (q_i a0), .int (q_i 1)]) (rest := [.int (q_i y510)]) cx hB (fun _ h => h) hN hmo kmo (by decide) rfl (r_ofMessage1 l g hN hB.2.1 mo hmo kmo a0 (by omega) (by omega) 1 (by decide) (by decide) sr hsr ksr z825 g819) q_cX12_308 q_dX12_ofMessage (by decide) rfl rfl hl.1 rfl (Nat.le_of_ble_eq_true rfl) dX12_passes_236 (fun y828 H locs f827 ry828 h829 hF hB => ?_)
                      obtain ⟨rfl, ly828, uy828⟩ := h829
                      refine q_icne (tgt := 246) cx ⟨by omega, by omega⟩ ⟨by omega, by omega⟩ dX12_passes_239 (by decide) (fun c830 => ?_) (fun c830 => ?_)
                      · refine q_iconst cx dX12_passes_246 ?_
                        refine lv_istore (lv' := [(6, .int (q_i 0)), (5, .int (q_i (x706 + x710))), (4, .int (q_i 0)), (3, .int (q_i y510)), (2, .int (q_i y504)), (0, .ref mo), (1, .int (q_i a0))]) cx.1 cx.2.1 dX12_passes_247 hl (by decide) rfl (fun ls hl => ?_)
                        refine lv_iload cx.1 cx.2.1 dX12_passes_249 (lv_at hl 0 rfl) ?_
                        refine q_ifeq (tgt := 261) cx ⟨by decide, by decide⟩ dX12_passes_251 (by decide) (fun c831 => ?_) (fun c831 => ?_)
                        · refine lv_iload cx.1 cx.2.1 dX12_passes_261 (lv_at hl 0 rfl) ?_
                          refine q_ifeq (tgt := 279) cx ⟨by decide, by decide⟩ dX12_passes_263 (by decide) (fun c832 => ?_) (fun c832 => ?_)
                          · refine lv_iload cx.1 cx.2.1 dX12_passes_279 (lv_at hl 0 rfl) ?_
                            refine q_zret cx hr hlk hB dX12_passes_281 (by decide) (by decide) ?_
                            exact ⟨(by decide), (by decide), g819⟩
                          · exact absurd c832 (by omega)
                        · exact absurd c831 (by omega)
                      · refine q_iconst cx dX12_passes_242 ?_
                        refine lv_goto (tgt := 247) cx.1 cx.2.1 dX12_passes_243 (by decide) ?_
                        refine lv_istore (lv' := [(6, .int (q_i 1)), (5, .int (q_i (x706 + x710))), (4, .int (q_i 0)), (3, .int (q_i y510)), (2, .int (q_i y504)), (0, .ref mo), (1, .int (q_i a0))]) cx.1 cx.2.1 dX12_passes_247 hl (by decide) rfl (fun ls hl => ?_)
                        refine lv_iload cx.1 cx.2.1 dX12_passes_249 (lv_at hl 0 rfl) ?_
                        refine q_ifeq (tgt := 261) cx ⟨by decide, by decide⟩ dX12_passes_251 (by decide) (fun c833 => ?_) (fun c833 => ?_)
                        · exact absurd c833 (by omega)
                        · refine q_ald_n cx dX12_passes_254 rfl (lv_at hl 5 rfl) ?_
                          refine q_ild_n cx dX12_passes_255 rfl (lv_at hl 6 rfl) ?_
                          refine q_iconst cx dX12_passes_256 ?_
                          refine q_iconst cx dX12_passes_257 ?_
                          refine q_cVv (As := [.int (q_i a0), .int (q_i 3), .int (q_i 1)]) (rest := []) cx hB (fun _ h => h) hN hmo kmo (by decide) rfl (r_setsMessage3 l g hN hB.2.1 mo hmo kmo a0 (by omega) (by omega) 3 (by decide) (by decide) 1 (by decide) (by decide) sr hsr ksr z825 g819) q_cX12_320 q_dX12_setsMessage (by decide) rfl rfl hl.1 rfl (Nat.le_of_ble_eq_true rfl) dX12_passes_258 (fun H locs f834 h836 hF hB => ?_)
                          have g837 := h836
                          have z838 : q_is (q_z f834 mo 26) x528 := Eq.trans (hF.z hmo (by rw [kmo]; rfl)) z820
                          have z839 : q_is (q_z f834 sr 6) x706 := Eq.trans (hF.z hsr (by rw [ksr]; rfl)) z821
                          have z840 : q_is (q_z f834 sr 7) x710 := Eq.trans (hF.z hsr (by rw [ksr]; rfl)) z822
                          have z841 : q_is (q_z f834 mo 27) y747 := Eq.trans (hF.z hmo (by rw [kmo]; rfl)) z823
                          have z842 : q_is (q_z f834 mo 28) y759 := Eq.trans (hF.z hmo (by rw [kmo]; rfl)) z824
                          have z843 : q_ir (q_r f834 mo 13) sr := Eq.trans (hF.r hmo (by rw [kmo]; rfl)) z825
                          have z844 : q_ir (q_r f834 mo 24) hp := Eq.trans (hF.r hmo (by rw [kmo]; rfl)) z826
                          refine lv_iload cx.1 cx.2.1 dX12_passes_261 (lv_at hl 0 rfl) ?_
                          refine q_ifeq (tgt := 279) cx ⟨by decide, by decide⟩ dX12_passes_263 (by decide) (fun c845 => ?_) (fun c845 => ?_)
                          · exact absurd c845 (by omega)
                          · refine q_ald_n cx dX12_passes_266 rfl (lv_at hl 5 rfl) ?_
                            refine q_ild_n cx dX12_passes_267 rfl (lv_at hl 6 rfl) ?_
                            refine q_bipush cx dX12_passes_268 rfl ?_
                            refine q_ald_n cx dX12_passes_270 rfl (lv_at hl 5 rfl) ?_
                            refine q_gX12_20 cx hB hmo kmo z843 dX12_passes_271 (fun hb846 kb846 => ?_)
                            refine q_iconst cx dX12_passes_274 ?_
                            obtain ⟨x847, ex847⟩ : ∃ zz, q_is (q_z f834 sr (Int.toNat 3)) zz := ⟨_, rfl⟩
                            refine q_sald cx hB hsr ksr (by decide) (by decide) ex847 dX12_passes_275 (fun rx847 => ?_)
                            obtain ⟨lx847, ux847⟩ : 0 ≤ x847 ∧ x847 ≤ 20000 := q_isb ex847 (q_gr_at g837 (by decide) rfl)
                            refine q_cVv (As := [.int (q_i a0), .int (q_i 6), .int (q_i x847)]) (rest := []) cx hB (fun _ h => h) hN hmo kmo (by decide) rfl (r_setsMessage6 l g hN hB.2.1 mo hmo kmo a0 (by omega) (by omega) 6 (by decide) (by decide) x847 (by omega) (by omega) sr hsr ksr z843 g837) q_cX12_320 q_dX12_setsMessage (by decide) rfl rfl hl.1 rfl (Nat.le_of_ble_eq_true rfl) dX12_passes_276 (fun H locs f849 h851 hF hB => ?_)
                            have g852 := h851
                            have z853 : q_is (q_z f849 mo 26) x528 := Eq.trans (hF.z hmo (by rw [kmo]; rfl)) z838
                            have z854 : q_is (q_z f849 sr 6) x706 := Eq.trans (hF.z hsr (by rw [ksr]; rfl)) z839
                            have z855 : q_is (q_z f849 sr 7) x710 := Eq.trans (hF.z hsr (by rw [ksr]; rfl)) z840
                            have z856 : q_is (q_z f849 mo 27) y747 := Eq.trans (hF.z hmo (by rw [kmo]; rfl)) z841
                            have z857 : q_is (q_z f849 mo 28) y759 := Eq.trans (hF.z hmo (by rw [kmo]; rfl)) z842
                            have z858 : q_is (q_z f849 sr 3) x847 := Eq.trans (hF.z hsr (by rw [ksr]; rfl)) ex847
                            have z859 : q_ir (q_r f849 mo 13) sr := Eq.trans (hF.r hmo (by rw [kmo]; rfl)) z843
                            have z860 : q_ir (q_r f849 mo 24) hp := Eq.trans (hF.r hmo (by rw [kmo]; rfl)) z844
                            refine lv_iload cx.1 cx.2.1 dX12_passes_279 (lv_at hl 0 rfl) ?_
                            refine q_zret cx hr hlk hB dX12_passes_281 (by decide) (by decide) ?_
                            exact ⟨(by decide), (by decide), g852⟩
                    · refine q_iconst cx dX12_passes_141 ?_
                      refine q_zret cx hr hlk hB dX12_passes_142 (by decide) (by decide) ?_
                      exact ⟨(by decide), (by decide), g514⟩
                · exact absurd c708 (by omega)
              · refine q_iconst cx dX12_passes_91 ?_
                refine q_zret cx hr hlk hB dX12_passes_92 (by decide) (by decide) ?_
                exact ⟨(by decide), (by decide), g514⟩
          · refine q_iconst cx dX12_passes_70 ?_
            refine lv_goto (tgt := 75) cx.1 cx.2.1 dX12_passes_71 (by decide) ?_
            refine lv_istore (lv' := [(4, .int (q_i 1)), (3, .int (q_i y510)), (2, .int (q_i y504)), (0, .ref mo), (1, .int (q_i a0))]) cx.1 cx.2.1 dX12_passes_75 hl (by decide) rfl (fun ls hl => ?_)
            refine lv_iload cx.1 cx.2.1 dX12_passes_77 (lv_at hl 0 rfl) ?_
            refine q_ifne (tgt := 93) cx ⟨by decide, by decide⟩ dX12_passes_79 (by decide) (fun c861 => ?_) (fun c861 => ?_)
            · refine q_ald_n cx dX12_passes_93 rfl (lv_at hl 3 rfl) ?_
              refine q_gX12_20 cx hB hmo kmo z512 dX12_passes_94 (fun hb862 kb862 => ?_)
              refine q_bipush cx dX12_passes_97 rfl ?_
              obtain ⟨x863, ex863⟩ : ∃ zz, q_is (q_z f509 sr (Int.toNat 6)) zz := ⟨_, rfl⟩
              refine q_sald cx hB hsr ksr (by decide) (by decide) ex863 dX12_passes_99 (fun rx863 => ?_)
              obtain ⟨lx863, ux863⟩ : 0 ≤ x863 ∧ x863 ≤ 99 := q_isb ex863 (q_gr_at g514 (by decide) rfl)
              refine lv_iload cx.1 cx.2.1 dX12_passes_100 (lv_at hl 0 rfl) ?_
              refine q_ifeq (tgt := 109) cx ⟨by decide, by decide⟩ dX12_passes_102 (by decide) (fun c865 => ?_) (fun c865 => ?_)
              · exact absurd c865 (by omega)
              · refine q_iconst cx dX12_passes_105 ?_
                refine lv_goto (tgt := 116) cx.1 cx.2.1 dX12_passes_106 (by decide) ?_
                refine q_iadd cx dX12_passes_116 ?_
                refine lv_istore (lv' := [(5, .int (q_i (x863 + 0))), (4, .int (q_i 1)), (3, .int (q_i y510)), (2, .int (q_i y504)), (0, .ref mo), (1, .int (q_i a0))]) cx.1 cx.2.1 dX12_passes_117 hl (by decide) rfl (fun ls hl => ?_)
                refine q_ald_n cx dX12_passes_119 rfl (lv_at hl 4 rfl) ?_
                refine q_ild_n cx dX12_passes_120 rfl (lv_at hl 3 rfl) ?_
                refine q_iconst cx dX12_passes_121 ?_
                refine q_cVi (As := [.int (q_i y504), .int (q_i 2)]) (rest := []) cx hB (fun _ h => h) hN hmo kmo (by decide) rfl (r_ofNode2 l g hN hB.2.1 mo hmo kmo y504 (by omega) (by omega) 2 (by decide) (by decide) sr hsr ksr z512 g514) q_cX12_256 q_dX12_ofNode (by decide) rfl rfl hl.1 rfl (Nat.le_of_ble_eq_true rfl) dX12_passes_122 (fun y867 H locs f866 ry867 h868 hF hB => ?_)
                obtain ⟨rfl, ly867, uy867, t869⟩ := h868
                refine lv_iload cx.1 cx.2.1 dX12_passes_125 (lv_at hl 0 rfl) ?_
                refine q_iclt (tgt := 141) cx ⟨by omega, by omega⟩ ⟨by omega, by omega⟩ dX12_passes_127 (by decide) (fun c870 => ?_) (fun c870 => ?_)
                · refine q_iconst cx dX12_passes_141 ?_
                  refine q_zret cx hr hlk hB dX12_passes_142 (by decide) (by decide) ?_
                  exact ⟨(by decide), (by decide), g514⟩
                · refine q_ald_n cx dX12_passes_130 rfl (lv_at hl 4 rfl) ?_
                  refine q_ild_n cx dX12_passes_131 rfl (lv_at hl 2 rfl) ?_
                  refine q_iconst cx dX12_passes_132 ?_
                  refine q_cVi (As := [.int (q_i y510), .int (q_i 2)]) (rest := []) cx hB (fun _ h => h) hN hmo kmo (by decide) rfl (r_ofNode2 l g hN hB.2.1 mo hmo kmo y510 (by omega) (by omega) 2 (by decide) (by decide) sr hsr ksr z512 g514) q_cX12_256 q_dX12_ofNode (by decide) rfl rfl hl.1 rfl (Nat.le_of_ble_eq_true rfl) dX12_passes_133 (fun y872 H locs f871 ry872 h873 hF hB => ?_)
                  obtain ⟨rfl, ly872, uy872, t874⟩ := h873
                  refine lv_iload cx.1 cx.2.1 dX12_passes_136 (lv_at hl 0 rfl) ?_
                  refine q_icge (tgt := 143) cx ⟨by omega, by omega⟩ ⟨by omega, by omega⟩ dX12_passes_138 (by decide) (fun c875 => ?_) (fun c875 => ?_)
                  · refine q_ald_n cx dX12_passes_143 rfl (lv_at hl 4 rfl) ?_
                    refine q_ild_n cx dX12_passes_144 rfl (lv_at hl 3 rfl) ?_
                    refine lv_iload cx.1 cx.2.1 dX12_passes_145 (lv_at hl 0 rfl) ?_
                    refine q_cVv (As := [.int (q_i y504), .int (q_i (x863 + 0))]) (rest := []) cx hB (fun _ h => h) hN hmo kmo (by decide) rfl (r_uses1 l g hN hB.2.1 mo hmo kmo y504 (by omega) (by omega) (x863 + 0) (by omega) (by omega) sr hsr ksr z512 (by omega) g514) q_cX12_295 q_dX12_uses (by decide) rfl rfl hl.1 rfl (Nat.le_of_ble_eq_true rfl) dX12_passes_147 (fun H locs f876 h878 hF hB => ?_)
                    obtain ⟨t879, g880⟩ := h878
                    have z881 : q_is (q_z f876 mo 27) x516 := Eq.trans (hF.z hmo (by rw [kmo]; rfl)) ex516
                    have z882 : q_is (q_z f876 mo 28) x522 := Eq.trans (hF.z hmo (by rw [kmo]; rfl)) ex522
                    have z883 : q_is (q_z f876 mo 26) x528 := Eq.trans (hF.z hmo (by rw [kmo]; rfl)) ex528
                    have z884 : q_is (q_z f876 sr 6) x863 := Eq.trans (hF.z hsr (by rw [ksr]; rfl)) ex863
                    have z885 : q_ir (q_r f876 mo 13) sr := Eq.trans (hF.r hmo (by rw [kmo]; rfl)) z512
                    have z886 : q_ir (q_r f876 mo 24) hp := Eq.trans (hF.r hmo (by rw [kmo]; rfl)) z513
                    refine q_ald_n cx dX12_passes_150 rfl (lv_at hl 4 rfl) ?_
                    refine q_ild_n cx dX12_passes_151 rfl (lv_at hl 2 rfl) ?_
                    refine lv_iload cx.1 cx.2.1 dX12_passes_152 (lv_at hl 0 rfl) ?_
                    refine q_cVv (As := [.int (q_i y510), .int (q_i (x863 + 0))]) (rest := []) cx hB (fun _ h => h) hN hmo kmo (by decide) rfl (r_uses2 l g hN hB.2.1 mo hmo kmo y510 (by omega) (by omega) (x863 + 0) (by omega) (by omega) sr hsr ksr z885 (by have h7 := t879 y510 (by omega) (by omega); omega) g880) q_cX12_295 q_dX12_uses (by decide) rfl rfl hl.1 rfl (Nat.le_of_ble_eq_true rfl) dX12_passes_154 (fun H locs f887 h889 hF hB => ?_)
                    have g890 := h889
                    have z891 : q_is (q_z f887 mo 27) x516 := Eq.trans (hF.z hmo (by rw [kmo]; rfl)) z881
                    have z892 : q_is (q_z f887 mo 28) x522 := Eq.trans (hF.z hmo (by rw [kmo]; rfl)) z882
                    have z893 : q_is (q_z f887 mo 26) x528 := Eq.trans (hF.z hmo (by rw [kmo]; rfl)) z883
                    have z894 : q_is (q_z f887 sr 6) x863 := Eq.trans (hF.z hsr (by rw [ksr]; rfl)) z884
                    have z895 : q_ir (q_r f887 mo 13) sr := Eq.trans (hF.r hmo (by rw [kmo]; rfl)) z885
                    have z896 : q_ir (q_r f887 mo 24) hp := Eq.trans (hF.r hmo (by rw [kmo]; rfl)) z886
                    refine q_ald_n cx dX12_passes_157 rfl (lv_at hl 4 rfl) ?_
                    refine lv_dup cx.1 cx.2.1 dX12_passes_158 rfl ?_
                    refine q_gX12_314 cx hB hmo kmo z891 dX12_passes_159 (fun lb897 ub897 => ?_)
                    refine q_iconst cx dX12_passes_162 ?_
                    refine q_ild_n cx dX12_passes_163 rfl (lv_at hl 3 rfl) ?_
                    refine q_ishl cx dX12_passes_164 (fun y898 ry898 ey898 => ?_)
                    refine q_ior cx dX12_passes_165 (fun y899 ry899 ey899 => ?_)
                    refine q_pX12_314 cx hB hmo kmo ⟨by omega, by omega⟩ (by omega) (by omega) rfl dX12_passes_166 (fun H locs f900 ef900 z901 hB => ?_)
                    have z902 : q_is (q_z f900 mo 28) x522 := by rw [ef900, q_setz (Or.inr (by decide))]; exact z892
                    have z903 : q_is (q_z f900 mo 26) x528 := by rw [ef900, q_setz (Or.inr (by decide))]; exact z893
                    have z904 : q_is (q_z f900 sr 6) x863 := by rw [ef900, q_setz (Or.inr (by decide))]; exact z894
                    have z905 : q_ir (q_r f900 mo 13) sr := by rw [ef900, q_setr (Or.inr (by decide))]; exact z895
                    have z906 : q_ir (q_r f900 mo 24) hp := by rw [ef900, q_setr (Or.inr (by decide))]; exact z896
                    have g907 : q_gr f900 sr := q_gr_ne g890 ef900 (fun q => q_kne (k := 151) (k2 := 12) (by decide) ksr kmo q)
                    refine q_ald_n cx dX12_passes_169 rfl (lv_at hl 4 rfl) ?_
                    refine lv_dup cx.1 cx.2.1 dX12_passes_170 rfl ?_
                    refine q_gX12_317 cx hB hmo kmo z902 dX12_passes_171 (fun lb908 ub908 => ?_)
                    refine q_iconst cx dX12_passes_174 ?_
                    refine q_ild_n cx dX12_passes_175 rfl (lv_at hl 2 rfl) ?_
                    refine q_ishl cx dX12_passes_176 (fun y909 ry909 ey909 => ?_)
                    refine q_ior cx dX12_passes_177 (fun y910 ry910 ey910 => ?_)
                    refine q_pX12_317 cx hB hmo kmo ⟨by omega, by omega⟩ (by omega) (by omega) rfl dX12_passes_178 (fun H locs f911 ef911 z912 hB => ?_)
                    have z913 : q_is (q_z f911 mo 26) x528 := by rw [ef911, q_setz (Or.inr (by decide))]; exact z903
                    have z914 : q_is (q_z f911 sr 6) x863 := by rw [ef911, q_setz (Or.inr (by decide))]; exact z904
                    have z915 : q_is (q_z f911 mo 27) y899 := by rw [ef911, q_setz (Or.inr (by decide))]; exact z901
                    have z916 : q_ir (q_r f911 mo 13) sr := by rw [ef911, q_setr (Or.inr (by decide))]; exact z905
                    have z917 : q_ir (q_r f911 mo 24) hp := by rw [ef911, q_setr (Or.inr (by decide))]; exact z906
                    have g918 : q_gr f911 sr := q_gr_ne g907 ef911 (fun q => q_kne (k := 151) (k2 := 12) (by decide) ksr kmo q)
                    refine q_ald_n cx dX12_passes_181 rfl (lv_at hl 4 rfl) ?_
                    refine q_ild_n cx dX12_passes_182 rfl (lv_at hl 3 rfl) ?_
                    refine q_iconst cx dX12_passes_183 ?_
                    refine q_ald_n cx dX12_passes_184 rfl (lv_at hl 4 rfl) ?_
                    refine q_ild_n cx dX12_passes_185 rfl (lv_at hl 3 rfl) ?_
                    refine q_iconst cx dX12_passes_186 ?_
                    refine q_cVi (As := [.int (q_i y504), .int (q_i 4)]) (rest := [.int (q_i 4), .int (q_i y504), .ref mo]) cx hB (fun _ h => h) hN hmo kmo (by decide) rfl (r_ofNode4 l g hN hB.2.1 mo hmo kmo y504 (by omega) (by omega) 4 (by decide) (by decide) sr hsr ksr z916 g918) q_cX12_256 q_dX12_ofNode (by decide) rfl rfl hl.1 rfl (Nat.le_of_ble_eq_true rfl) dX12_passes_187 (fun y920 H locs f919 ry920 h921 hF hB => ?_)
                    obtain ⟨rfl, t922⟩ := h921
                    refine q_iconst cx dX12_passes_190 ?_
                    refine q_iadd cx dX12_passes_191 ?_
                    refine q_any (fun y923 ry923 ey923 => ?_)
                    refine q_cVv (As := [.int (q_i y504), .int (q_i 4), .int (q_i y923)]) (rest := []) cx hB (fun _ h => h) hN hmo kmo (by decide) rfl (r_setsNode4 l g hN hB.2.1 mo hmo kmo y504 (by omega) (by omega) 4 (by decide) (by decide) y923 (by omega) (by omega) sr hsr ksr z916 g918) q_cX12_202 q_dX12_setsNode (by decide) rfl rfl hl.1 rfl (Nat.le_of_ble_eq_true rfl) dX12_passes_192 (fun H locs f924 h926 hF hB => ?_)
                    have g927 := h926
                    have z928 : q_is (q_z f924 mo 26) x528 := Eq.trans (hF.z hmo (by rw [kmo]; rfl)) z913
                    have z929 : q_is (q_z f924 sr 6) x863 := Eq.trans (hF.z hsr (by rw [ksr]; rfl)) z914
                    have z930 : q_is (q_z f924 mo 27) y899 := Eq.trans (hF.z hmo (by rw [kmo]; rfl)) z915
                    have z931 : q_is (q_z f924 mo 28) y910 := Eq.trans (hF.z hmo (by rw [kmo]; rfl)) z912
                    have z932 : q_ir (q_r f924 mo 13) sr := Eq.trans (hF.r hmo (by rw [kmo]; rfl)) z916
                    have z933 : q_ir (q_r f924 mo 24) hp := Eq.trans (hF.r hmo (by rw [kmo]; rfl)) z917
                    refine q_ald_n cx dX12_passes_195 rfl (lv_at hl 4 rfl) ?_
                    refine q_ild_n cx dX12_passes_196 rfl (lv_at hl 2 rfl) ?_
                    refine q_iconst cx dX12_passes_197 ?_
                    refine q_ald_n cx dX12_passes_198 rfl (lv_at hl 4 rfl) ?_
                    refine q_ild_n cx dX12_passes_199 rfl (lv_at hl 2 rfl) ?_
                    refine q_iconst cx dX12_passes_200 ?_
                    refine q_cVi (As := [.int (q_i y510), .int (q_i 5)]) (rest := [.int (q_i 5), .int (q_i y510), .ref mo]) cx hB (fun _ h => h) hN hmo kmo (by decide) rfl (r_ofNode5 l g hN hB.2.1 mo hmo kmo y510 (by omega) (by omega) 5 (by decide) (by decide) sr hsr ksr z932 g927) q_cX12_256 q_dX12_ofNode (by decide) rfl rfl hl.1 rfl (Nat.le_of_ble_eq_true rfl) dX12_passes_201 (fun y935 H locs f934 ry935 h936 hF hB => ?_)
                    obtain ⟨rfl, t937⟩ := h936
                    refine q_iconst cx dX12_passes_204 ?_
                    refine q_iadd cx dX12_passes_205 ?_
                    refine q_any (fun y938 ry938 ey938 => ?_)
                    refine q_cVv (As := [.int (q_i y510), .int (q_i 5), .int (q_i y938)]) (rest := []) cx hB (fun _ h => h) hN hmo kmo (by decide) rfl (r_setsNode5 l g hN hB.2.1 mo hmo kmo y510 (by omega) (by omega) 5 (by decide) (by decide) y938 (by omega) (by omega) sr hsr ksr z932 g927) q_cX12_202 q_dX12_setsNode (by decide) rfl rfl hl.1 rfl (Nat.le_of_ble_eq_true rfl) dX12_passes_206 (fun H locs f939 h941 hF hB => ?_)
                    have g942 := h941
                    have z943 : q_is (q_z f939 mo 26) x528 := Eq.trans (hF.z hmo (by rw [kmo]; rfl)) z928
                    have z944 : q_is (q_z f939 sr 6) x863 := Eq.trans (hF.z hsr (by rw [ksr]; rfl)) z929
                    have z945 : q_is (q_z f939 mo 27) y899 := Eq.trans (hF.z hmo (by rw [kmo]; rfl)) z930
                    have z946 : q_is (q_z f939 mo 28) y910 := Eq.trans (hF.z hmo (by rw [kmo]; rfl)) z931
                    have z947 : q_ir (q_r f939 mo 13) sr := Eq.trans (hF.r hmo (by rw [kmo]; rfl)) z932
                    have z948 : q_ir (q_r f939 mo 24) hp := Eq.trans (hF.r hmo (by rw [kmo]; rfl)) z933
                    refine q_ald_n cx dX12_passes_209 rfl (lv_at hl 4 rfl) ?_
                    refine q_ild_n cx dX12_passes_210 rfl (lv_at hl 5 rfl) ?_
                    refine q_iconst cx dX12_passes_211 ?_
                    refine q_ild_n cx dX12_passes_212 rfl (lv_at hl 2 rfl) ?_
                    refine q_cVv (As := [.int (q_i a0), .int (q_i 2), .int (q_i y510)]) (rest := []) cx hB (fun _ h => h) hN hmo kmo (by decide) rfl (r_setsMessage2 l g hN hB.2.1 mo hmo kmo a0 (by omega) (by omega) 2 (by decide) (by decide) y510 (by omega) (by omega) sr hsr ksr z947 g942) q_cX12_320 q_dX12_setsMessage (by decide) rfl rfl hl.1 rfl (Nat.le_of_ble_eq_true rfl) dX12_passes_213 (fun H locs f949 h951 hF hB => ?_)
                    have g952 := h951
                    have z953 : q_is (q_z f949 mo 26) x528 := Eq.trans (hF.z hmo (by rw [kmo]; rfl)) z943
                    have z954 : q_is (q_z f949 sr 6) x863 := Eq.trans (hF.z hsr (by rw [ksr]; rfl)) z944
                    have z955 : q_is (q_z f949 mo 27) y899 := Eq.trans (hF.z hmo (by rw [kmo]; rfl)) z945
                    have z956 : q_is (q_z f949 mo 28) y910 := Eq.trans (hF.z hmo (by rw [kmo]; rfl)) z946
                    have z957 : q_ir (q_r f949 mo 13) sr := Eq.trans (hF.r hmo (by rw [kmo]; rfl)) z947
                    have z958 : q_ir (q_r f949 mo 24) hp := Eq.trans (hF.r hmo (by rw [kmo]; rfl)) z948
                    refine q_ald_n cx dX12_passes_216 rfl (lv_at hl 4 rfl) ?_
                    refine q_ild_n cx dX12_passes_217 rfl (lv_at hl 5 rfl) ?_
                    refine q_bipush cx dX12_passes_218 rfl ?_
                    refine q_ald_n cx dX12_passes_220 rfl (lv_at hl 4 rfl) ?_
                    refine q_ild_n cx dX12_passes_221 rfl (lv_at hl 5 rfl) ?_
                    refine q_bipush cx dX12_passes_222 rfl ?_
                    refine q_cVi (As := [.int (q_i a0), .int (q_i 7)]) (rest := [.int (q_i 7), .int (q_i a0), .ref mo]) cx hB (fun _ h => h) hN hmo kmo (by decide) rfl (r_ofMessage7 l g hN hB.2.1 mo hmo kmo a0 (by omega) (by omega) 7 (by decide) (by decide) sr hsr ksr z957 g952) q_cX12_308 q_dX12_ofMessage (by decide) rfl rfl hl.1 rfl (Nat.le_of_ble_eq_true rfl) dX12_passes_224 (fun y960 H locs f959 ry960 h961 hF hB => ?_)
                    obtain rfl := h961
                    refine q_iconst cx dX12_passes_227 ?_
                    refine q_iadd cx dX12_passes_228 ?_
                    refine q_any (fun y962 ry962 ey962 => ?_)
                    refine q_cVv (As := [.int (q_i a0), .int (q_i 7), .int (q_i y962)]) (rest := []) cx hB (fun _ h => h) hN hmo kmo (by decide) rfl (r_setsMessage7 l g hN hB.2.1 mo hmo kmo a0 (by omega) (by omega) 7 (by decide) (by decide) y962 (by omega) (by omega) sr hsr ksr z957 g952) q_cX12_320 q_dX12_setsMessage (by decide) rfl rfl hl.1 rfl (Nat.le_of_ble_eq_true rfl) dX12_passes_229 (fun H locs f963 h965 hF hB => ?_)
                    have g966 := h965
                    have z967 : q_is (q_z f963 mo 26) x528 := Eq.trans (hF.z hmo (by rw [kmo]; rfl)) z953
                    have z968 : q_is (q_z f963 sr 6) x863 := Eq.trans (hF.z hsr (by rw [ksr]; rfl)) z954
                    have z969 : q_is (q_z f963 mo 27) y899 := Eq.trans (hF.z hmo (by rw [kmo]; rfl)) z955
                    have z970 : q_is (q_z f963 mo 28) y910 := Eq.trans (hF.z hmo (by rw [kmo]; rfl)) z956
                    have z971 : q_ir (q_r f963 mo 13) sr := Eq.trans (hF.r hmo (by rw [kmo]; rfl)) z957
                    have z972 : q_ir (q_r f963 mo 24) hp := Eq.trans (hF.r hmo (by rw [kmo]; rfl)) z958
                    refine q_ild_n cx dX12_passes_232 rfl (lv_at hl 2 rfl) ?_
                    refine q_ald_n cx dX12_passes_233 rfl (lv_at hl 4 rfl) ?_
                    refine q_ild_n cx dX12_passes_234 rfl (lv_at hl 5 rfl) ?_
                    refine q_iconst cx dX12_passes_235 ?_
                    refine q_cVi (As := [.int (q_i a0), .int (q_i 1)]) (rest := [.int (q_i y510)]) cx hB (fun _ h => h) hN hmo kmo (by decide) rfl (r_ofMessage1 l g hN hB.2.1 mo hmo kmo a0 (by omega) (by omega) 1 (by decide) (by decide) sr hsr ksr z971 g966) q_cX12_308 q_dX12_ofMessage (by decide) rfl rfl hl.1 rfl (Nat.le_of_ble_eq_true rfl) dX12_passes_236 (fun y974 H locs f973 ry974 h975 hF hB => ?_)
                    obtain ⟨rfl, ly974, uy974⟩ := h975
                    refine q_icne (tgt := 246) cx ⟨by omega, by omega⟩ ⟨by omega, by omega⟩ dX12_passes_239 (by decide) (fun c976 => ?_) (fun c976 => ?_)
                    · refine q_iconst cx dX12_passes_246 ?_
                      refine lv_istore (lv' := [(6, .int (q_i 0)), (5, .int (q_i (x863 + 0))), (4, .int (q_i 1)), (3, .int (q_i y510)), (2, .int (q_i y504)), (0, .ref mo), (1, .int (q_i a0))]) cx.1 cx.2.1 dX12_passes_247 hl (by decide) rfl (fun ls hl => ?_)
                      refine lv_iload cx.1 cx.2.1 dX12_passes_249 (lv_at hl 0 rfl) ?_
                      refine q_ifeq (tgt := 261) cx ⟨by decide, by decide⟩ dX12_passes_251 (by decide) (fun c977 => ?_) (fun c977 => ?_)
                      · refine lv_iload cx.1 cx.2.1 dX12_passes_261 (lv_at hl 0 rfl) ?_
                        refine q_ifeq (tgt := 279) cx ⟨by decide, by decide⟩ dX12_passes_263 (by decide) (fun c978 => ?_) (fun c978 => ?_)
                        · refine lv_iload cx.1 cx.2.1 dX12_passes_279 (lv_at hl 0 rfl) ?_
                          refine q_zret cx hr hlk hB dX12_passes_281 (by decide) (by decide) ?_
                          exact ⟨(by decide), (by decide), g966⟩
                        · exact absurd c978 (by omega)
                      · exact absurd c977 (by omega)
                    · refine q_iconst cx dX12_passes_242 ?_
                      refine lv_goto (tgt := 247) cx.1 cx.2.1 dX12_passes_243 (by decide) ?_
                      refine lv_istore (lv' := [(6, .int (q_i 1)), (5, .int (q_i (x863 + 0))), (4, .int (q_i 1)), (3, .int (q_i y510)), (2, .int (q_i y504)), (0, .ref mo), (1, .int (q_i a0))]) cx.1 cx.2.1 dX12_passes_247 hl (by decide) rfl (fun ls hl => ?_)
                      refine lv_iload cx.1 cx.2.1 dX12_passes_249 (lv_at hl 0 rfl) ?_
                      refine q_ifeq (tgt := 261) cx ⟨by decide, by decide⟩ dX12_passes_251 (by decide) (fun c979 => ?_) (fun c979 => ?_)
                      · exact absurd c979 (by omega)
                      · refine q_ald_n cx dX12_passes_254 rfl (lv_at hl 5 rfl) ?_
                        refine q_ild_n cx dX12_passes_255 rfl (lv_at hl 6 rfl) ?_
                        refine q_iconst cx dX12_passes_256 ?_
                        refine q_iconst cx dX12_passes_257 ?_
                        refine q_cVv (As := [.int (q_i a0), .int (q_i 3), .int (q_i 1)]) (rest := []) cx hB (fun _ h => h) hN hmo kmo (by decide) rfl (r_setsMessage3 l g hN hB.2.1 mo hmo kmo a0 (by omega) (by omega) 3 (by decide) (by decide) 1 (by decide) (by decide) sr hsr ksr z971 g966) q_cX12_320 q_dX12_setsMessage (by decide) rfl rfl hl.1 rfl (Nat.le_of_ble_eq_true rfl) dX12_passes_258 (fun H locs f980 h982 hF hB => ?_)
                        have g983 := h982
                        have z984 : q_is (q_z f980 mo 26) x528 := Eq.trans (hF.z hmo (by rw [kmo]; rfl)) z967
                        have z985 : q_is (q_z f980 sr 6) x863 := Eq.trans (hF.z hsr (by rw [ksr]; rfl)) z968
                        have z986 : q_is (q_z f980 mo 27) y899 := Eq.trans (hF.z hmo (by rw [kmo]; rfl)) z969
                        have z987 : q_is (q_z f980 mo 28) y910 := Eq.trans (hF.z hmo (by rw [kmo]; rfl)) z970
                        have z988 : q_ir (q_r f980 mo 13) sr := Eq.trans (hF.r hmo (by rw [kmo]; rfl)) z971
                        have z989 : q_ir (q_r f980 mo 24) hp := Eq.trans (hF.r hmo (by rw [kmo]; rfl)) z972
                        refine lv_iload cx.1 cx.2.1 dX12_passes_261 (lv_at hl 0 rfl) ?_
                        refine q_ifeq (tgt := 279) cx ⟨by decide, by decide⟩ dX12_passes_263 (by decide) (fun c990 => ?_) (fun c990 => ?_)
                        · exact absurd c990 (by omega)
                        · refine q_ald_n cx dX12_passes_266 rfl (lv_at hl 5 rfl) ?_
                          refine q_ild_n cx dX12_passes_267 rfl (lv_at hl 6 rfl) ?_
                          refine q_bipush cx dX12_passes_268 rfl ?_
                          refine q_ald_n cx dX12_passes_270 rfl (lv_at hl 5 rfl) ?_
                          refine q_gX12_20 cx hB hmo kmo z988 dX12_passes_271 (fun hb991 kb991 => ?_)
                          refine q_iconst cx dX12_passes_274 ?_
                          obtain ⟨x992, ex992⟩ : ∃ zz, q_is (q_z f980 sr (Int.toNat 3)) zz := ⟨_, rfl⟩
                          refine q_sald cx hB hsr ksr (by decide) (by decide) ex992 dX12_passes_275 (fun rx992 => ?_)
                          obtain ⟨lx992, ux992⟩ : 0 ≤ x992 ∧ x992 ≤ 20000 := q_isb ex992 (q_gr_at g983 (by decide) rfl)
                          refine q_cVv (As := [.int (q_i a0), .int (q_i 6), .int (q_i x992)]) (rest := []) cx hB (fun _ h => h) hN hmo kmo (by decide) rfl (r_setsMessage6 l g hN hB.2.1 mo hmo kmo a0 (by omega) (by omega) 6 (by decide) (by decide) x992 (by omega) (by omega) sr hsr ksr z988 g983) q_cX12_320 q_dX12_setsMessage (by decide) rfl rfl hl.1 rfl (Nat.le_of_ble_eq_true rfl) dX12_passes_276 (fun H locs f994 h996 hF hB => ?_)
                          have g997 := h996
                          have z998 : q_is (q_z f994 mo 26) x528 := Eq.trans (hF.z hmo (by rw [kmo]; rfl)) z984
                          have z999 : q_is (q_z f994 sr 6) x863 := Eq.trans (hF.z hsr (by rw [ksr]; rfl)) z985
                          have z1000 : q_is (q_z f994 mo 27) y899 := Eq.trans (hF.z hmo (by rw [kmo]; rfl)) z986
                          have z1001 : q_is (q_z f994 mo 28) y910 := Eq.trans (hF.z hmo (by rw [kmo]; rfl)) z987
                          have z1002 : q_is (q_z f994 sr 3) x992 := Eq.trans (hF.z hsr (by rw [ksr]; rfl)) ex992
                          have z1003 : q_ir (q_r f994 mo 13) sr := Eq.trans (hF.r hmo (by rw [kmo]; rfl)) z988
                          have z1004 : q_ir (q_r f994 mo 24) hp := Eq.trans (hF.r hmo (by rw [kmo]; rfl)) z989
                          refine lv_iload cx.1 cx.2.1 dX12_passes_279 (lv_at hl 0 rfl) ?_
                          refine q_zret cx hr hlk hB dX12_passes_281 (by decide) (by decide) ?_
                          exact ⟨(by decide), (by decide), g997⟩
                  · refine q_iconst cx dX12_passes_141 ?_
                    refine q_zret cx hr hlk hB dX12_passes_142 (by decide) (by decide) ?_
                    exact ⟨(by decide), (by decide), g514⟩
            · exact absurd c861 (by omega)
      · refine q_iconst cx dX12_passes_46 ?_
        refine q_zret cx hr hlk hB dX12_passes_47 (by decide) (by decide) ?_
        exact ⟨(by decide), (by decide), g514⟩
