set_option maxHeartbeats 4000000 in
set_option maxRecDepth 100000 in
theorem f_isWord_7 (l : Launch) (g : q_G) (ad : Nat → Nat) {K : Nat → Nat} {L : List Nat} (hN : L.Nodup) {f : Nat → va_E} (hT : q_Ty g K L f) (hfl : l.stackTraces = false) (B : Nat → Int) (so : Nat) (hso : so ∈ L) (kso : K so = 8) (ba : Nat) (hba : ba ∈ L) (kba : K ba = 142) (tn : Int) (ltn : 0 ≤ tn) (utn : tn ≤ 600) (ss : Int) (lss : 0 ≤ ss) (uss : ss ≤ 600) (hf0 : q_is (q_z f so 1) tn) (hf1 : q_is (q_z f so 8) ss) (hr0 : q_ir (q_r f so 0) ba) (htc : tk_tc f so B tn) (htb : tk_tb f ba B tn) : q_Xt l g ad K L yX8_isWord cX8_isWord 3 (some .boolean) 4 85 0 0 [.ref so, .ref (ad 7)] f [] (q_Pi (fun (z : Int) (f1 : Nat → va_E) => (f = f1 ∧ z = 1 ∧ (tk_isw9 B tn tk_wEnergy ss)) ∨ (f = f1 ∧ z = 0 ∧ (¬ tk_isw9 B tn tk_wEnergy ss)))) (fun (_ : String) (_ : Nat → va_E) => False) := by
  refine q_xofb (by decide +kernel) hN hT (Nat.le_of_ble_eq_true rfl) ?_
  intro p e s m below meth c ls cx hr hlk htab hX hB hl
  have hl : lv_has ls 3 [(0, .ref so), (1, .ref (ad 7))] := hl
  obtain ⟨H, hH⟩ : ∃ H : Heap, H = s.heap := ⟨_, rfl⟩
  obtain ⟨locs, hlocs⟩ : ∃ z : List Loc, z = [] := ⟨_, rfl⟩
  rw [← hH, ← hlocs] at hB
  rw [← hH, ← hlocs]
  refine q_ald_n cx dX8_isWord_0 rfl (lv_at hl 0 rfl) ?_
  obtain ⟨x61, ex61⟩ : ∃ zz, q_is (q_z f so 6) zz := ⟨_, q_isr _⟩
  refine q_gX8_40 cx hB hso kso ex61 dX8_isWord_1 (fun lb62 ub62 => ?_)
  refine q_iconst cx dX8_isWord_4 ?_
  refine q_iceq (tgt := 10) cx ⟨by omega, by omega⟩ ⟨by decide, by decide⟩ dX8_isWord_5 (by decide) (fun c63 => ?_) (fun c63 => ?_)
  · have hk9 : tk_k B tn ss = 1 := (Eq.symm (tk_tc_k htc hf1 ex61)).trans (by omega)
    have hiw9 : tk_isw (tk_w B tn ss) := tk_w_isw lss
    refine q_iconst cx dX8_isWord_10 ?_
    refine lv_istore_n (lv' := [(2, .int (q_i 0)), (0, .ref so), (1, .ref (ad 7))]) cx.1 cx.2.1 dX8_isWord_11 rfl hl (by decide) rfl (fun ls hl => ?_)
    refine q_ild_n cx dX8_isWord_12 rfl (lv_at hl 0 rfl) ?_
    refine q_bipush cx dX8_isWord_13 rfl ?_
    refine q_icge (tgt := 54) cx ⟨by decide, by decide⟩ ⟨by decide, by decide⟩ dX8_isWord_15 (by decide) (fun c64 => ?_) (fun c64 => ?_)
    · exact absurd c64 (by omega)
    · refine q_ald_n cx dX8_isWord_18 rfl (lv_at hl 1 rfl) ?_
      refine q_gX8_56 cx hB hso kso (tk_tc_w htc hf1 hk9) dX8_isWord_19 ?_
      refine q_ild_n cx dX8_isWord_22 rfl (lv_at hl 0 rfl) ?_
      refine q_cSi (As := [.long (tk_cw (tk_w B tn ss)), .int (q_i 0)]) (rest := []) cx hB (fun _ h => h) hN (f_letterOf l g hN hB.2.1 (tk_w B tn ss) (tk_cw (tk_w B tn ss)) 0 (by decide) (by decide) rfl hiw9) q_cX8_63 q_dX8_letterOf (by decide) rfl rfl hl.1 rfl (Nat.le_of_ble_eq_true rfl) dX8_isWord_23 (fun y66 H locs f65 ry66 h67 hF hB => ?_)
      obtain ⟨rfl, t68⟩ := h67
      refine q_ild_n cx dX8_isWord_26 rfl (lv_at hl 0 rfl) ?_
      refine q_ald_n cx dX8_isWord_27 rfl (lv_at hl 2 rfl) ?_
      refine q_cXT (As := []) (rest := [.int (q_i 0), .int (q_i y66)]) cx hX hB (fun _ h => h) (fun _ h _ => h) hN (q_srec hX (by decide) hB) (s_length l g ad hN hB.2.1 7 (by decide)) q_cX8_67 q_dJ0_length_8abf5 (by decide) rfl rfl hl.1 rfl (Nat.le_of_ble_eq_true rfl) dX8_isWord_28 (fun E9 ce9 q9 H locs fx hex hF hB hcell hcv hcl => ?_) (fun v9 H locs f1 h1 hF hB => ?_)
      · exact hex.elim
      obtain ⟨z9, rfl, -, rfl, h9⟩ := h1
      obtain rfl : z9 = 6 := h9.trans (by decide)
      refine W.eq (g2 := F0 m 31 ls [.int (q_i 6), .int (q_i 0), .int (q_i y66)]) rfl ?_
      refine q_icge (tgt := 42) cx ⟨by decide, by decide⟩ ⟨by decide, by decide⟩ dX8_isWord_31 (by decide) (fun c69 => ?_) (fun c69 => ?_)
      · exact absurd c69 (by omega)
      · refine q_ald_n cx dX8_isWord_34 rfl (lv_at hl 2 rfl) ?_
        refine q_ild_n cx dX8_isWord_35 rfl (lv_at hl 0 rfl) ?_
        refine q_cXT (As := [.int (q_i 0)]) (rest := [.int (q_i y66)]) cx hX hB (fun _ h => h) (fun _ h _ => h) hN (q_srec hX (by decide) hB) (s_charAt l g ad hN hB.2.1 7 (by decide) 0 (by decide) (by decide)) q_cX8_72 q_dJ0_charAt_5068e (by decide) rfl rfl hl.1 rfl (Nat.le_of_ble_eq_true rfl) dX8_isWord_36 (fun E9 ce9 q9 H locs fx hex hF hB hcell hcv hcl => ?_) (fun v9 H locs f1 h1 hF hB => ?_)
        · exact hex.elim
        obtain ⟨z9, rfl, -, rfl, h9⟩ := h1
        obtain rfl : z9 = 101 := h9.trans (by decide)
        refine W.eq (g2 := F0 m 39 ls [.int (q_i 101), .int (q_i y66)]) rfl ?_
        refine lv_goto (tgt := 43) cx.1 cx.2.1 dX8_isWord_39 (by decide) ?_
        refine q_iceq (tgt := 48) cx ⟨by omega, by omega⟩ ⟨by decide, by decide⟩ dX8_isWord_43 (by decide) (fun c70 => ?_) (fun c70 => ?_)
        · refine q_iinc (lv' := [(2, .int (q_i (0 + 1))), (0, .ref so), (1, .ref (ad 7))]) cx dX8_isWord_48 hl (k := 0) rfl (by decide) rfl (fun ls hl => ?_)
          refine lv_goto (tgt := 12) cx.1 cx.2.1 dX8_isWord_51 (by decide) ?_
          refine q_ild_n cx dX8_isWord_12 rfl (lv_at hl 0 rfl) ?_
          refine q_bipush cx dX8_isWord_13 rfl ?_
          refine q_icge (tgt := 54) cx ⟨by decide, by decide⟩ ⟨by decide, by decide⟩ dX8_isWord_15 (by decide) (fun c71 => ?_) (fun c71 => ?_)
          · exact absurd c71 (by omega)
          · refine q_ald_n cx dX8_isWord_18 rfl (lv_at hl 1 rfl) ?_
            refine q_gX8_56 cx hB hso kso (tk_tc_w htc hf1 hk9) dX8_isWord_19 ?_
            refine q_ild_n cx dX8_isWord_22 rfl (lv_at hl 0 rfl) ?_
            refine q_cSi (As := [.long (tk_cw (tk_w B tn ss)), .int (q_i (0 + 1))]) (rest := []) cx hB (fun _ h => h) hN (f_letterOf l g hN hB.2.1 (tk_w B tn ss) (tk_cw (tk_w B tn ss)) (0 + 1) (by decide) (by decide) rfl hiw9) q_cX8_63 q_dX8_letterOf (by decide) rfl rfl hl.1 rfl (Nat.le_of_ble_eq_true rfl) dX8_isWord_23 (fun y73 H locs f72 ry73 h74 hF hB => ?_)
            obtain ⟨rfl, t75⟩ := h74
            refine q_ild_n cx dX8_isWord_26 rfl (lv_at hl 0 rfl) ?_
            refine q_ald_n cx dX8_isWord_27 rfl (lv_at hl 2 rfl) ?_
            refine q_cXT (As := []) (rest := [.int (q_i (0 + 1)), .int (q_i y73)]) cx hX hB (fun _ h => h) (fun _ h _ => h) hN (q_srec hX (by decide) hB) (s_length l g ad hN hB.2.1 7 (by decide)) q_cX8_67 q_dJ0_length_8abf5 (by decide) rfl rfl hl.1 rfl (Nat.le_of_ble_eq_true rfl) dX8_isWord_28 (fun E9 ce9 q9 H locs fx hex hF hB hcell hcv hcl => ?_) (fun v9 H locs f1 h1 hF hB => ?_)
            · exact hex.elim
            obtain ⟨z9, rfl, -, rfl, h9⟩ := h1
            obtain rfl : z9 = 6 := h9.trans (by decide)
            refine W.eq (g2 := F0 m 31 ls [.int (q_i 6), .int (q_i (0 + 1)), .int (q_i y73)]) rfl ?_
            refine q_icge (tgt := 42) cx ⟨by decide, by decide⟩ ⟨by decide, by decide⟩ dX8_isWord_31 (by decide) (fun c76 => ?_) (fun c76 => ?_)
            · exact absurd c76 (by omega)
            · refine q_ald_n cx dX8_isWord_34 rfl (lv_at hl 2 rfl) ?_
              refine q_ild_n cx dX8_isWord_35 rfl (lv_at hl 0 rfl) ?_
              refine q_cXT (As := [.int (q_i (0 + 1))]) (rest := [.int (q_i y73)]) cx hX hB (fun _ h => h) (fun _ h _ => h) hN (q_srec hX (by decide) hB) (s_charAt l g ad hN hB.2.1 7 (by decide) 1 (by decide) (by decide)) q_cX8_72 q_dJ0_charAt_5068e (by decide) rfl rfl hl.1 rfl (Nat.le_of_ble_eq_true rfl) dX8_isWord_36 (fun E9 ce9 q9 H locs fx hex hF hB hcell hcv hcl => ?_) (fun v9 H locs f1 h1 hF hB => ?_)
              · exact hex.elim
              obtain ⟨z9, rfl, -, rfl, h9⟩ := h1
              obtain rfl : z9 = 110 := h9.trans (by decide)
              refine W.eq (g2 := F0 m 39 ls [.int (q_i 110), .int (q_i y73)]) rfl ?_
              refine lv_goto (tgt := 43) cx.1 cx.2.1 dX8_isWord_39 (by decide) ?_
              refine q_iceq (tgt := 48) cx ⟨by omega, by omega⟩ ⟨by decide, by decide⟩ dX8_isWord_43 (by decide) (fun c77 => ?_) (fun c77 => ?_)
              · refine q_iinc (lv' := [(2, .int (q_i ((0 + 1) + 1))), (0, .ref so), (1, .ref (ad 7))]) cx dX8_isWord_48 hl (k := 0) rfl (by decide) rfl (fun ls hl => ?_)
                refine lv_goto (tgt := 12) cx.1 cx.2.1 dX8_isWord_51 (by decide) ?_
                refine q_ild_n cx dX8_isWord_12 rfl (lv_at hl 0 rfl) ?_
                refine q_bipush cx dX8_isWord_13 rfl ?_
                refine q_icge (tgt := 54) cx ⟨by decide, by decide⟩ ⟨by decide, by decide⟩ dX8_isWord_15 (by decide) (fun c78 => ?_) (fun c78 => ?_)
                · exact absurd c78 (by omega)
                · refine q_ald_n cx dX8_isWord_18 rfl (lv_at hl 1 rfl) ?_
                  refine q_gX8_56 cx hB hso kso (tk_tc_w htc hf1 hk9) dX8_isWord_19 ?_
                  refine q_ild_n cx dX8_isWord_22 rfl (lv_at hl 0 rfl) ?_
                  refine q_cSi (As := [.long (tk_cw (tk_w B tn ss)), .int (q_i ((0 + 1) + 1))]) (rest := []) cx hB (fun _ h => h) hN (f_letterOf l g hN hB.2.1 (tk_w B tn ss) (tk_cw (tk_w B tn ss)) ((0 + 1) + 1) (by decide) (by decide) rfl hiw9) q_cX8_63 q_dX8_letterOf (by decide) rfl rfl hl.1 rfl (Nat.le_of_ble_eq_true rfl) dX8_isWord_23 (fun y80 H locs f79 ry80 h81 hF hB => ?_)
                  obtain ⟨rfl, t82⟩ := h81
                  refine q_ild_n cx dX8_isWord_26 rfl (lv_at hl 0 rfl) ?_
                  refine q_ald_n cx dX8_isWord_27 rfl (lv_at hl 2 rfl) ?_
                  refine q_cXT (As := []) (rest := [.int (q_i ((0 + 1) + 1)), .int (q_i y80)]) cx hX hB (fun _ h => h) (fun _ h _ => h) hN (q_srec hX (by decide) hB) (s_length l g ad hN hB.2.1 7 (by decide)) q_cX8_67 q_dJ0_length_8abf5 (by decide) rfl rfl hl.1 rfl (Nat.le_of_ble_eq_true rfl) dX8_isWord_28 (fun E9 ce9 q9 H locs fx hex hF hB hcell hcv hcl => ?_) (fun v9 H locs f1 h1 hF hB => ?_)
                  · exact hex.elim
                  obtain ⟨z9, rfl, -, rfl, h9⟩ := h1
                  obtain rfl : z9 = 6 := h9.trans (by decide)
                  refine W.eq (g2 := F0 m 31 ls [.int (q_i 6), .int (q_i ((0 + 1) + 1)), .int (q_i y80)]) rfl ?_
                  refine q_icge (tgt := 42) cx ⟨by decide, by decide⟩ ⟨by decide, by decide⟩ dX8_isWord_31 (by decide) (fun c83 => ?_) (fun c83 => ?_)
                  · exact absurd c83 (by omega)
                  · refine q_ald_n cx dX8_isWord_34 rfl (lv_at hl 2 rfl) ?_
                    refine q_ild_n cx dX8_isWord_35 rfl (lv_at hl 0 rfl) ?_
                    refine q_cXT (As := [.int (q_i ((0 + 1) + 1))]) (rest := [.int (q_i y80)]) cx hX hB (fun _ h => h) (fun _ h _ => h) hN (q_srec hX (by decide) hB) (s_charAt l g ad hN hB.2.1 7 (by decide) 2 (by decide) (by decide)) q_cX8_72 q_dJ0_charAt_5068e (by decide) rfl rfl hl.1 rfl (Nat.le_of_ble_eq_true rfl) dX8_isWord_36 (fun E9 ce9 q9 H locs fx hex hF hB hcell hcv hcl => ?_) (fun v9 H locs f1 h1 hF hB => ?_)
                    · exact hex.elim
                    obtain ⟨z9, rfl, -, rfl, h9⟩ := h1
                    obtain rfl : z9 = 101 := h9.trans (by decide)
                    refine W.eq (g2 := F0 m 39 ls [.int (q_i 101), .int (q_i y80)]) rfl ?_
                    refine lv_goto (tgt := 43) cx.1 cx.2.1 dX8_isWord_39 (by decide) ?_
                    refine q_iceq (tgt := 48) cx ⟨by omega, by omega⟩ ⟨by decide, by decide⟩ dX8_isWord_43 (by decide) (fun c84 => ?_) (fun c84 => ?_)
                    · refine q_iinc (lv' := [(2, .int (q_i (((0 + 1) + 1) + 1))), (0, .ref so), (1, .ref (ad 7))]) cx dX8_isWord_48 hl (k := 0) rfl (by decide) rfl (fun ls hl => ?_)
                      refine lv_goto (tgt := 12) cx.1 cx.2.1 dX8_isWord_51 (by decide) ?_
                      refine q_ild_n cx dX8_isWord_12 rfl (lv_at hl 0 rfl) ?_
                      refine q_bipush cx dX8_isWord_13 rfl ?_
                      refine q_icge (tgt := 54) cx ⟨by decide, by decide⟩ ⟨by decide, by decide⟩ dX8_isWord_15 (by decide) (fun c85 => ?_) (fun c85 => ?_)
                      · exact absurd c85 (by omega)
                      · refine q_ald_n cx dX8_isWord_18 rfl (lv_at hl 1 rfl) ?_
                        refine q_gX8_56 cx hB hso kso (tk_tc_w htc hf1 hk9) dX8_isWord_19 ?_
                        refine q_ild_n cx dX8_isWord_22 rfl (lv_at hl 0 rfl) ?_
                        refine q_cSi (As := [.long (tk_cw (tk_w B tn ss)), .int (q_i (((0 + 1) + 1) + 1))]) (rest := []) cx hB (fun _ h => h) hN (f_letterOf l g hN hB.2.1 (tk_w B tn ss) (tk_cw (tk_w B tn ss)) (((0 + 1) + 1) + 1) (by decide) (by decide) rfl hiw9) q_cX8_63 q_dX8_letterOf (by decide) rfl rfl hl.1 rfl (Nat.le_of_ble_eq_true rfl) dX8_isWord_23 (fun y87 H locs f86 ry87 h88 hF hB => ?_)
                        obtain ⟨rfl, t89⟩ := h88
                        refine q_ild_n cx dX8_isWord_26 rfl (lv_at hl 0 rfl) ?_
                        refine q_ald_n cx dX8_isWord_27 rfl (lv_at hl 2 rfl) ?_
                        refine q_cXT (As := []) (rest := [.int (q_i (((0 + 1) + 1) + 1)), .int (q_i y87)]) cx hX hB (fun _ h => h) (fun _ h _ => h) hN (q_srec hX (by decide) hB) (s_length l g ad hN hB.2.1 7 (by decide)) q_cX8_67 q_dJ0_length_8abf5 (by decide) rfl rfl hl.1 rfl (Nat.le_of_ble_eq_true rfl) dX8_isWord_28 (fun E9 ce9 q9 H locs fx hex hF hB hcell hcv hcl => ?_) (fun v9 H locs f1 h1 hF hB => ?_)
                        · exact hex.elim
                        obtain ⟨z9, rfl, -, rfl, h9⟩ := h1
                        obtain rfl : z9 = 6 := h9.trans (by decide)
                        refine W.eq (g2 := F0 m 31 ls [.int (q_i 6), .int (q_i (((0 + 1) + 1) + 1)), .int (q_i y87)]) rfl ?_
                        refine q_icge (tgt := 42) cx ⟨by decide, by decide⟩ ⟨by decide, by decide⟩ dX8_isWord_31 (by decide) (fun c90 => ?_) (fun c90 => ?_)
                        · exact absurd c90 (by omega)
                        · refine q_ald_n cx dX8_isWord_34 rfl (lv_at hl 2 rfl) ?_
                          refine q_ild_n cx dX8_isWord_35 rfl (lv_at hl 0 rfl) ?_
                          refine q_cXT (As := [.int (q_i (((0 + 1) + 1) + 1))]) (rest := [.int (q_i y87)]) cx hX hB (fun _ h => h) (fun _ h _ => h) hN (q_srec hX (by decide) hB) (s_charAt l g ad hN hB.2.1 7 (by decide) 3 (by decide) (by decide)) q_cX8_72 q_dJ0_charAt_5068e (by decide) rfl rfl hl.1 rfl (Nat.le_of_ble_eq_true rfl) dX8_isWord_36 (fun E9 ce9 q9 H locs fx hex hF hB hcell hcv hcl => ?_) (fun v9 H locs f1 h1 hF hB => ?_)
                          · exact hex.elim
                          obtain ⟨z9, rfl, -, rfl, h9⟩ := h1
                          obtain rfl : z9 = 114 := h9.trans (by decide)
                          refine W.eq (g2 := F0 m 39 ls [.int (q_i 114), .int (q_i y87)]) rfl ?_
                          refine lv_goto (tgt := 43) cx.1 cx.2.1 dX8_isWord_39 (by decide) ?_
                          refine q_iceq (tgt := 48) cx ⟨by omega, by omega⟩ ⟨by decide, by decide⟩ dX8_isWord_43 (by decide) (fun c91 => ?_) (fun c91 => ?_)
                          · refine q_iinc (lv' := [(2, .int (q_i ((((0 + 1) + 1) + 1) + 1))), (0, .ref so), (1, .ref (ad 7))]) cx dX8_isWord_48 hl (k := 0) rfl (by decide) rfl (fun ls hl => ?_)
                            refine lv_goto (tgt := 12) cx.1 cx.2.1 dX8_isWord_51 (by decide) ?_
                            refine q_ild_n cx dX8_isWord_12 rfl (lv_at hl 0 rfl) ?_
                            refine q_bipush cx dX8_isWord_13 rfl ?_
                            refine q_icge (tgt := 54) cx ⟨by decide, by decide⟩ ⟨by decide, by decide⟩ dX8_isWord_15 (by decide) (fun c92 => ?_) (fun c92 => ?_)
                            · exact absurd c92 (by omega)
                            · refine q_ald_n cx dX8_isWord_18 rfl (lv_at hl 1 rfl) ?_
                              refine q_gX8_56 cx hB hso kso (tk_tc_w htc hf1 hk9) dX8_isWord_19 ?_
                              refine q_ild_n cx dX8_isWord_22 rfl (lv_at hl 0 rfl) ?_
                              refine q_cSi (As := [.long (tk_cw (tk_w B tn ss)), .int (q_i ((((0 + 1) + 1) + 1) + 1))]) (rest := []) cx hB (fun _ h => h) hN (f_letterOf l g hN hB.2.1 (tk_w B tn ss) (tk_cw (tk_w B tn ss)) ((((0 + 1) + 1) + 1) + 1) (by decide) (by decide) rfl hiw9) q_cX8_63 q_dX8_letterOf (by decide) rfl rfl hl.1 rfl (Nat.le_of_ble_eq_true rfl) dX8_isWord_23 (fun y94 H locs f93 ry94 h95 hF hB => ?_)
                              obtain ⟨rfl, t96⟩ := h95
                              refine q_ild_n cx dX8_isWord_26 rfl (lv_at hl 0 rfl) ?_
                              refine q_ald_n cx dX8_isWord_27 rfl (lv_at hl 2 rfl) ?_
                              refine q_cXT (As := []) (rest := [.int (q_i ((((0 + 1) + 1) + 1) + 1)), .int (q_i y94)]) cx hX hB (fun _ h => h) (fun _ h _ => h) hN (q_srec hX (by decide) hB) (s_length l g ad hN hB.2.1 7 (by decide)) q_cX8_67 q_dJ0_length_8abf5 (by decide) rfl rfl hl.1 rfl (Nat.le_of_ble_eq_true rfl) dX8_isWord_28 (fun E9 ce9 q9 H locs fx hex hF hB hcell hcv hcl => ?_) (fun v9 H locs f1 h1 hF hB => ?_)
                              · exact hex.elim
                              obtain ⟨z9, rfl, -, rfl, h9⟩ := h1
                              obtain rfl : z9 = 6 := h9.trans (by decide)
                              refine W.eq (g2 := F0 m 31 ls [.int (q_i 6), .int (q_i ((((0 + 1) + 1) + 1) + 1)), .int (q_i y94)]) rfl ?_
                              refine q_icge (tgt := 42) cx ⟨by decide, by decide⟩ ⟨by decide, by decide⟩ dX8_isWord_31 (by decide) (fun c97 => ?_) (fun c97 => ?_)
                              · exact absurd c97 (by omega)
                              · refine q_ald_n cx dX8_isWord_34 rfl (lv_at hl 2 rfl) ?_
                                refine q_ild_n cx dX8_isWord_35 rfl (lv_at hl 0 rfl) ?_
                                refine q_cXT (As := [.int (q_i ((((0 + 1) + 1) + 1) + 1))]) (rest := [.int (q_i y94)]) cx hX hB (fun _ h => h) (fun _ h _ => h) hN (q_srec hX (by decide) hB) (s_charAt l g ad hN hB.2.1 7 (by decide) 4 (by decide) (by decide)) q_cX8_72 q_dJ0_charAt_5068e (by decide) rfl rfl hl.1 rfl (Nat.le_of_ble_eq_true rfl) dX8_isWord_36 (fun E9 ce9 q9 H locs fx hex hF hB hcell hcv hcl => ?_) (fun v9 H locs f1 h1 hF hB => ?_)
                                · exact hex.elim
                                obtain ⟨z9, rfl, -, rfl, h9⟩ := h1
                                obtain rfl : z9 = 103 := h9.trans (by decide)
                                refine W.eq (g2 := F0 m 39 ls [.int (q_i 103), .int (q_i y94)]) rfl ?_
                                refine lv_goto (tgt := 43) cx.1 cx.2.1 dX8_isWord_39 (by decide) ?_
                                refine q_iceq (tgt := 48) cx ⟨by omega, by omega⟩ ⟨by decide, by decide⟩ dX8_isWord_43 (by decide) (fun c98 => ?_) (fun c98 => ?_)
                                · refine q_iinc (lv' := [(2, .int (q_i (((((0 + 1) + 1) + 1) + 1) + 1))), (0, .ref so), (1, .ref (ad 7))]) cx dX8_isWord_48 hl (k := 0) rfl (by decide) rfl (fun ls hl => ?_)
                                  refine lv_goto (tgt := 12) cx.1 cx.2.1 dX8_isWord_51 (by decide) ?_
                                  refine q_ild_n cx dX8_isWord_12 rfl (lv_at hl 0 rfl) ?_
                                  refine q_bipush cx dX8_isWord_13 rfl ?_
                                  refine q_icge (tgt := 54) cx ⟨by decide, by decide⟩ ⟨by decide, by decide⟩ dX8_isWord_15 (by decide) (fun c99 => ?_) (fun c99 => ?_)
                                  · exact absurd c99 (by omega)
                                  · refine q_ald_n cx dX8_isWord_18 rfl (lv_at hl 1 rfl) ?_
                                    refine q_gX8_56 cx hB hso kso (tk_tc_w htc hf1 hk9) dX8_isWord_19 ?_
                                    refine q_ild_n cx dX8_isWord_22 rfl (lv_at hl 0 rfl) ?_
                                    refine q_cSi (As := [.long (tk_cw (tk_w B tn ss)), .int (q_i (((((0 + 1) + 1) + 1) + 1) + 1))]) (rest := []) cx hB (fun _ h => h) hN (f_letterOf l g hN hB.2.1 (tk_w B tn ss) (tk_cw (tk_w B tn ss)) (((((0 + 1) + 1) + 1) + 1) + 1) (by decide) (by decide) rfl hiw9) q_cX8_63 q_dX8_letterOf (by decide) rfl rfl hl.1 rfl (Nat.le_of_ble_eq_true rfl) dX8_isWord_23 (fun y101 H locs f100 ry101 h102 hF hB => ?_)
                                    obtain ⟨rfl, t103⟩ := h102
                                    refine q_ild_n cx dX8_isWord_26 rfl (lv_at hl 0 rfl) ?_
                                    refine q_ald_n cx dX8_isWord_27 rfl (lv_at hl 2 rfl) ?_
                                    refine q_cXT (As := []) (rest := [.int (q_i (((((0 + 1) + 1) + 1) + 1) + 1)), .int (q_i y101)]) cx hX hB (fun _ h => h) (fun _ h _ => h) hN (q_srec hX (by decide) hB) (s_length l g ad hN hB.2.1 7 (by decide)) q_cX8_67 q_dJ0_length_8abf5 (by decide) rfl rfl hl.1 rfl (Nat.le_of_ble_eq_true rfl) dX8_isWord_28 (fun E9 ce9 q9 H locs fx hex hF hB hcell hcv hcl => ?_) (fun v9 H locs f1 h1 hF hB => ?_)
                                    · exact hex.elim
                                    obtain ⟨z9, rfl, -, rfl, h9⟩ := h1
                                    obtain rfl : z9 = 6 := h9.trans (by decide)
                                    refine W.eq (g2 := F0 m 31 ls [.int (q_i 6), .int (q_i (((((0 + 1) + 1) + 1) + 1) + 1)), .int (q_i y101)]) rfl ?_
                                    refine q_icge (tgt := 42) cx ⟨by decide, by decide⟩ ⟨by decide, by decide⟩ dX8_isWord_31 (by decide) (fun c104 => ?_) (fun c104 => ?_)
                                    · exact absurd c104 (by omega)
                                    · refine q_ald_n cx dX8_isWord_34 rfl (lv_at hl 2 rfl) ?_
                                      refine q_ild_n cx dX8_isWord_35 rfl (lv_at hl 0 rfl) ?_
                                      refine q_cXT (As := [.int (q_i (((((0 + 1) + 1) + 1) + 1) + 1))]) (rest := [.int (q_i y101)]) cx hX hB (fun _ h => h) (fun _ h _ => h) hN (q_srec hX (by decide) hB) (s_charAt l g ad hN hB.2.1 7 (by decide) 5 (by decide) (by decide)) q_cX8_72 q_dJ0_charAt_5068e (by decide) rfl rfl hl.1 rfl (Nat.le_of_ble_eq_true rfl) dX8_isWord_36 (fun E9 ce9 q9 H locs fx hex hF hB hcell hcv hcl => ?_) (fun v9 H locs f1 h1 hF hB => ?_)
                                      · exact hex.elim
                                      obtain ⟨z9, rfl, -, rfl, h9⟩ := h1
                                      obtain rfl : z9 = 121 := h9.trans (by decide)
                                      refine W.eq (g2 := F0 m 39 ls [.int (q_i 121), .int (q_i y101)]) rfl ?_
                                      refine lv_goto (tgt := 43) cx.1 cx.2.1 dX8_isWord_39 (by decide) ?_
                                      refine q_iceq (tgt := 48) cx ⟨by omega, by omega⟩ ⟨by decide, by decide⟩ dX8_isWord_43 (by decide) (fun c105 => ?_) (fun c105 => ?_)
                                      · refine q_iinc (lv' := [(2, .int (q_i ((((((0 + 1) + 1) + 1) + 1) + 1) + 1))), (0, .ref so), (1, .ref (ad 7))]) cx dX8_isWord_48 hl (k := 0) rfl (by decide) rfl (fun ls hl => ?_)
                                        refine lv_goto (tgt := 12) cx.1 cx.2.1 dX8_isWord_51 (by decide) ?_
                                        refine q_ild_n cx dX8_isWord_12 rfl (lv_at hl 0 rfl) ?_
                                        refine q_bipush cx dX8_isWord_13 rfl ?_
                                        refine q_icge (tgt := 54) cx ⟨by decide, by decide⟩ ⟨by decide, by decide⟩ dX8_isWord_15 (by decide) (fun c106 => ?_) (fun c106 => ?_)
                                        · exact absurd c106 (by omega)
                                        · refine q_ald_n cx dX8_isWord_18 rfl (lv_at hl 1 rfl) ?_
                                          refine q_gX8_56 cx hB hso kso (tk_tc_w htc hf1 hk9) dX8_isWord_19 ?_
                                          refine q_ild_n cx dX8_isWord_22 rfl (lv_at hl 0 rfl) ?_
                                          refine q_cSi (As := [.long (tk_cw (tk_w B tn ss)), .int (q_i ((((((0 + 1) + 1) + 1) + 1) + 1) + 1))]) (rest := []) cx hB (fun _ h => h) hN (f_letterOf l g hN hB.2.1 (tk_w B tn ss) (tk_cw (tk_w B tn ss)) ((((((0 + 1) + 1) + 1) + 1) + 1) + 1) (by decide) (by decide) rfl hiw9) q_cX8_63 q_dX8_letterOf (by decide) rfl rfl hl.1 rfl (Nat.le_of_ble_eq_true rfl) dX8_isWord_23 (fun y108 H locs f107 ry108 h109 hF hB => ?_)
                                          obtain ⟨rfl, t110⟩ := h109
                                          refine q_ild_n cx dX8_isWord_26 rfl (lv_at hl 0 rfl) ?_
                                          refine q_ald_n cx dX8_isWord_27 rfl (lv_at hl 2 rfl) ?_
                                          refine q_cXT (As := []) (rest := [.int (q_i ((((((0 + 1) + 1) + 1) + 1) + 1) + 1)), .int (q_i y108)]) cx hX hB (fun _ h => h) (fun _ h _ => h) hN (q_srec hX (by decide) hB) (s_length l g ad hN hB.2.1 7 (by decide)) q_cX8_67 q_dJ0_length_8abf5 (by decide) rfl rfl hl.1 rfl (Nat.le_of_ble_eq_true rfl) dX8_isWord_28 (fun E9 ce9 q9 H locs fx hex hF hB hcell hcv hcl => ?_) (fun v9 H locs f1 h1 hF hB => ?_)
                                          · exact hex.elim
                                          obtain ⟨z9, rfl, -, rfl, h9⟩ := h1
                                          obtain rfl : z9 = 6 := h9.trans (by decide)
                                          refine W.eq (g2 := F0 m 31 ls [.int (q_i 6), .int (q_i ((((((0 + 1) + 1) + 1) + 1) + 1) + 1)), .int (q_i y108)]) rfl ?_
                                          refine q_icge (tgt := 42) cx ⟨by decide, by decide⟩ ⟨by decide, by decide⟩ dX8_isWord_31 (by decide) (fun c111 => ?_) (fun c111 => ?_)
                                          · refine q_iconst cx dX8_isWord_42 ?_
                                            refine q_iceq (tgt := 48) cx ⟨by omega, by omega⟩ ⟨by decide, by decide⟩ dX8_isWord_43 (by decide) (fun c112 => ?_) (fun c112 => ?_)
                                            · refine q_iinc (lv' := [(2, .int (q_i (((((((0 + 1) + 1) + 1) + 1) + 1) + 1) + 1))), (0, .ref so), (1, .ref (ad 7))]) cx dX8_isWord_48 hl (k := 0) rfl (by decide) rfl (fun ls hl => ?_)
                                              refine lv_goto (tgt := 12) cx.1 cx.2.1 dX8_isWord_51 (by decide) ?_
                                              refine q_ild_n cx dX8_isWord_12 rfl (lv_at hl 0 rfl) ?_
                                              refine q_bipush cx dX8_isWord_13 rfl ?_
                                              refine q_icge (tgt := 54) cx ⟨by decide, by decide⟩ ⟨by decide, by decide⟩ dX8_isWord_15 (by decide) (fun c113 => ?_) (fun c113 => ?_)
                                              · exact absurd c113 (by omega)
                                              · refine q_ald_n cx dX8_isWord_18 rfl (lv_at hl 1 rfl) ?_
                                                refine q_gX8_56 cx hB hso kso (tk_tc_w htc hf1 hk9) dX8_isWord_19 ?_
                                                refine q_ild_n cx dX8_isWord_22 rfl (lv_at hl 0 rfl) ?_
                                                refine q_cSi (As := [.long (tk_cw (tk_w B tn ss)), .int (q_i (((((((0 + 1) + 1) + 1) + 1) + 1) + 1) + 1))]) (rest := []) cx hB (fun _ h => h) hN (f_letterOf l g hN hB.2.1 (tk_w B tn ss) (tk_cw (tk_w B tn ss)) (((((((0 + 1) + 1) + 1) + 1) + 1) + 1) + 1) (by decide) (by decide) rfl hiw9) q_cX8_63 q_dX8_letterOf (by decide) rfl rfl hl.1 rfl (Nat.le_of_ble_eq_true rfl) dX8_isWord_23 (fun y115 H locs f114 ry115 h116 hF hB => ?_)
                                                obtain ⟨rfl, t117⟩ := h116
                                                refine q_ild_n cx dX8_isWord_26 rfl (lv_at hl 0 rfl) ?_
                                                refine q_ald_n cx dX8_isWord_27 rfl (lv_at hl 2 rfl) ?_
                                                refine q_cXT (As := []) (rest := [.int (q_i (((((((0 + 1) + 1) + 1) + 1) + 1) + 1) + 1)), .int (q_i y115)]) cx hX hB (fun _ h => h) (fun _ h _ => h) hN (q_srec hX (by decide) hB) (s_length l g ad hN hB.2.1 7 (by decide)) q_cX8_67 q_dJ0_length_8abf5 (by decide) rfl rfl hl.1 rfl (Nat.le_of_ble_eq_true rfl) dX8_isWord_28 (fun E9 ce9 q9 H locs fx hex hF hB hcell hcv hcl => ?_) (fun v9 H locs f1 h1 hF hB => ?_)
                                                · exact hex.elim
                                                obtain ⟨z9, rfl, -, rfl, h9⟩ := h1
                                                obtain rfl : z9 = 6 := h9.trans (by decide)
                                                refine W.eq (g2 := F0 m 31 ls [.int (q_i 6), .int (q_i (((((((0 + 1) + 1) + 1) + 1) + 1) + 1) + 1)), .int (q_i y115)]) rfl ?_
                                                refine q_icge (tgt := 42) cx ⟨by decide, by decide⟩ ⟨by decide, by decide⟩ dX8_isWord_31 (by decide) (fun c118 => ?_) (fun c118 => ?_)
                                                · refine q_iconst cx dX8_isWord_42 ?_
                                                  refine q_iceq (tgt := 48) cx ⟨by omega, by omega⟩ ⟨by decide, by decide⟩ dX8_isWord_43 (by decide) (fun c119 => ?_) (fun c119 => ?_)
                                                  · refine q_iinc (lv' := [(2, .int (q_i ((((((((0 + 1) + 1) + 1) + 1) + 1) + 1) + 1) + 1))), (0, .ref so), (1, .ref (ad 7))]) cx dX8_isWord_48 hl (k := 0) rfl (by decide) rfl (fun ls hl => ?_)
                                                    refine lv_goto (tgt := 12) cx.1 cx.2.1 dX8_isWord_51 (by decide) ?_
                                                    refine q_ild_n cx dX8_isWord_12 rfl (lv_at hl 0 rfl) ?_
                                                    refine q_bipush cx dX8_isWord_13 rfl ?_
                                                    refine q_icge (tgt := 54) cx ⟨by decide, by decide⟩ ⟨by decide, by decide⟩ dX8_isWord_15 (by decide) (fun c120 => ?_) (fun c120 => ?_)
                                                    · refine q_iconst cx dX8_isWord_54 ?_
                                                      refine W.widen (k := 0) (n := 0) (by decide) (by decide) ?_
                                                      refine vx_ret ?_
                                                      refine q_zret cx hr hlk hB dX8_isWord_55 (by decide) (by decide) ?_
                                                      exact (Or.inl ⟨rfl, rfl, ⟨hk9, tk_is8 hiw9 (by unfold tk_isw tk_wEnergy; decide) ((t68).symm.trans ((by omega : y66 = 101).trans (rfl : (101 : Int) = tk_wEnergy.getD 0 0))) ((t75).symm.trans ((by omega : y73 = 110).trans (rfl : (110 : Int) = tk_wEnergy.getD 1 0))) ((t82).symm.trans ((by omega : y80 = 101).trans (rfl : (101 : Int) = tk_wEnergy.getD 2 0))) ((t89).symm.trans ((by omega : y87 = 114).trans (rfl : (114 : Int) = tk_wEnergy.getD 3 0))) ((t96).symm.trans ((by omega : y94 = 103).trans (rfl : (103 : Int) = tk_wEnergy.getD 4 0))) ((t103).symm.trans ((by omega : y101 = 121).trans (rfl : (121 : Int) = tk_wEnergy.getD 5 0))) ((t110).symm.trans ((by omega : y108 = 0).trans (rfl : (0 : Int) = tk_wEnergy.getD 6 0))) ((t117).symm.trans ((by omega : y115 = 0).trans (rfl : (0 : Int) = tk_wEnergy.getD 7 0)))⟩⟩)
                                                    · exact absurd c120 (by omega)
                                                  · refine q_iconst cx dX8_isWord_46 ?_
                                                    refine W.widen (k := 0) (n := 0) (by decide) (by decide) ?_
                                                    refine vx_ret ?_
                                                    refine q_zret cx hr hlk hB dX8_isWord_47 (by decide) (by decide) ?_
                                                    exact (Or.inr ⟨rfl, rfl, (fun h9 => absurd ((t117).trans ((congrArg (fun l9 => List.getD l9 7 0) h9.2).trans (show tk_wEnergy.getD 7 0 = (0 : Int) from rfl))) (by omega))⟩)
                                                · exact absurd c118 (by omega)
                                            · refine q_iconst cx dX8_isWord_46 ?_
                                              refine W.widen (k := 0) (n := 0) (by decide) (by decide) ?_
                                              refine vx_ret ?_
                                              refine q_zret cx hr hlk hB dX8_isWord_47 (by decide) (by decide) ?_
                                              exact (Or.inr ⟨rfl, rfl, (fun h9 => absurd ((t110).trans ((congrArg (fun l9 => List.getD l9 6 0) h9.2).trans (show tk_wEnergy.getD 6 0 = (0 : Int) from rfl))) (by omega))⟩)
                                          · exact absurd c111 (by omega)
                                      · refine q_iconst cx dX8_isWord_46 ?_
                                        refine W.widen (k := 0) (n := 0) (by decide) (by decide) ?_
                                        refine vx_ret ?_
                                        refine q_zret cx hr hlk hB dX8_isWord_47 (by decide) (by decide) ?_
                                        exact (Or.inr ⟨rfl, rfl, (fun h9 => absurd ((t103).trans ((congrArg (fun l9 => List.getD l9 5 0) h9.2).trans (show tk_wEnergy.getD 5 0 = (121 : Int) from rfl))) (by omega))⟩)
                                · refine q_iconst cx dX8_isWord_46 ?_
                                  refine W.widen (k := 0) (n := 0) (by decide) (by decide) ?_
                                  refine vx_ret ?_
                                  refine q_zret cx hr hlk hB dX8_isWord_47 (by decide) (by decide) ?_
                                  exact (Or.inr ⟨rfl, rfl, (fun h9 => absurd ((t96).trans ((congrArg (fun l9 => List.getD l9 4 0) h9.2).trans (show tk_wEnergy.getD 4 0 = (103 : Int) from rfl))) (by omega))⟩)
                          · refine q_iconst cx dX8_isWord_46 ?_
                            refine W.widen (k := 0) (n := 0) (by decide) (by decide) ?_
                            refine vx_ret ?_
                            refine q_zret cx hr hlk hB dX8_isWord_47 (by decide) (by decide) ?_
                            exact (Or.inr ⟨rfl, rfl, (fun h9 => absurd ((t89).trans ((congrArg (fun l9 => List.getD l9 3 0) h9.2).trans (show tk_wEnergy.getD 3 0 = (114 : Int) from rfl))) (by omega))⟩)
                    · refine q_iconst cx dX8_isWord_46 ?_
                      refine W.widen (k := 0) (n := 0) (by decide) (by decide) ?_
                      refine vx_ret ?_
                      refine q_zret cx hr hlk hB dX8_isWord_47 (by decide) (by decide) ?_
                      exact (Or.inr ⟨rfl, rfl, (fun h9 => absurd ((t82).trans ((congrArg (fun l9 => List.getD l9 2 0) h9.2).trans (show tk_wEnergy.getD 2 0 = (101 : Int) from rfl))) (by omega))⟩)
              · refine q_iconst cx dX8_isWord_46 ?_
                refine W.widen (k := 0) (n := 0) (by decide) (by decide) ?_
                refine vx_ret ?_
                refine q_zret cx hr hlk hB dX8_isWord_47 (by decide) (by decide) ?_
                exact (Or.inr ⟨rfl, rfl, (fun h9 => absurd ((t75).trans ((congrArg (fun l9 => List.getD l9 1 0) h9.2).trans (show tk_wEnergy.getD 1 0 = (110 : Int) from rfl))) (by omega))⟩)
        · refine q_iconst cx dX8_isWord_46 ?_
          refine W.widen (k := 0) (n := 0) (by decide) (by decide) ?_
          refine vx_ret ?_
          refine q_zret cx hr hlk hB dX8_isWord_47 (by decide) (by decide) ?_
          exact (Or.inr ⟨rfl, rfl, (fun h9 => absurd ((t68).trans ((congrArg (fun l9 => List.getD l9 0 0) h9.2).trans (show tk_wEnergy.getD 0 0 = (101 : Int) from rfl))) (by omega))⟩)
  · refine q_iconst cx dX8_isWord_8 ?_
    refine W.widen (k := 0) (n := 0) (by decide) (by decide) ?_
    refine vx_ret ?_
    refine q_zret cx hr hlk hB dX8_isWord_9 (by decide) (by decide) ?_
    exact (Or.inr ⟨rfl, rfl, (fun h9 => absurd ((tk_tc_k htc hf1 ex61).trans h9.1) (by omega))⟩)
set_option maxHeartbeats 4000000 in
set_option maxRecDepth 100000 in
theorem f_takeWord_0 (l : Launch) (g : q_G) (ad : Nat → Nat) {K : Nat → Nat} {L : List Nat} (hN : L.Nodup) {f : Nat → va_E} (hT : q_Ty g K L f) (hfl : l.stackTraces = false) (B : Nat → Int) (so : Nat) (hso : so ∈ L) (kso : K so = 8) (ba : Nat) (hba : ba ∈ L) (kba : K ba = 142) (tn : Int) (ltn : 0 ≤ tn) (utn : tn ≤ 600) (ss : Int) (lss : 0 ≤ ss) (uss : ss ≤ 600) (hf0 : q_is (q_z f so 1) tn) (hf1 : q_is (q_z f so 8) ss) (hf2 : q_is (q_z f so 2) 0) (hf3 : q_is (q_z f so 3) (-1)) (hr0 : q_ir (q_r f so 0) ba) (htc : tk_tc f so B tn) (htb : tk_tb f ba B tn) : q_Xt l g ad K L yX8_takeWord cX8_takeWord 2 (some .boolean) 5 107 0 0 [.ref so, .ref (ad 0)] f [(8, 2, 4), (8, 6, 9)] (q_Pi (fun (z : Int) (f1 : Nat → va_E) => (z = 1 ∧ q_is (q_z f1 so 2) 0 ∧ q_is (q_z f1 so 3) (-1) ∧ (tk_wd B tn tk_wYear ss = tk_ok (q_z f1 so 8)) ∧ (tk_tc f1 so B tn)) ∨ (z = 0 ∧ (tk_wd B tn tk_wYear ss = tk_er (q_z f1 so 2) (q_z f1 so 3)) ∧ (tk_tc f1 so B tn)))) (fun (_ : String) (_ : Nat → va_E) => False) := by
  refine q_xofb (by decide +kernel) hN hT (Nat.le_of_ble_eq_true rfl) ?_
  intro p e s m below meth c ls cx hr hlk htab hX hB hl
  have hl : lv_has ls 2 [(0, .ref so), (1, .ref (ad 0))] := hl
  obtain ⟨H, hH⟩ : ∃ H : Heap, H = s.heap := ⟨_, rfl⟩
  obtain ⟨locs, hlocs⟩ : ∃ z : List Loc, z = [] := ⟨_, rfl⟩
  rw [← hH, ← hlocs] at hB
  rw [← hH, ← hlocs]
  refine q_ald_n cx dX8_takeWord_0 rfl (lv_at hl 0 rfl) ?_
  refine q_ald_n cx dX8_takeWord_1 rfl (lv_at hl 1 rfl) ?_
  refine q_cXV (As := [.ref (ad 0)]) (rest := []) cx hX hB (fun _ h => h) (fun _ h _ => h) hN hso kso (by decide) rfl (f_isWord_0 l g ad hN hB.2.1 hfl B so hso kso ba hba kba tn (by omega) (by omega) ss (by omega) (by omega) hf0 hf1 hr0 htc htb) q_cX8_82 q_dX8_isWord (by decide) rfl rfl hl.1 rfl (Nat.le_of_ble_eq_true rfl) dX8_takeWord_2 (fun E9 ce9 q9 H locs f35 hex hF hB hcell hcv hcl => ?_) (fun v9 H locs f32 h34 hF hB => ?_)
  · exact hex.elim
  · obtain ⟨y33, rfl, ry33, h34⟩ := h34
    refine W.eq (g2 := F0 m 5 ls [.int (q_i y33)]) rfl ?_
    rcases h34 with h36 | h37
    · obtain ⟨rfl, qy33, t38⟩ := h36
      subst qy33
      refine q_ifne (tgt := 14) cx ⟨by decide, by decide⟩ dX8_takeWord_5 (by decide) (fun c39 => ?_) (fun c39 => ?_)
      · refine q_ald_n cx dX8_takeWord_14 rfl (lv_at hl 0 rfl) ?_
        refine q_cVv (As := []) (rest := []) cx hB (fun _ h => h) hN hso kso (by decide) rfl (f_adv l g hN hB.2.1 B so hso kso ba hba kba tn (by omega) (by omega) ss (by omega) (by omega) hf0 hf1 hr0 htc htb) q_cX8_30 q_dX8_advance (by decide) rfl rfl hl.1 rfl (Nat.le_of_ble_eq_true rfl) dX8_takeWord_15 (fun H locs f40 h42 hF hB => ?_)
        obtain ⟨t43, g44⟩ := h42
        have z45 : q_is (q_z f40 so 1) tn := Eq.trans (hF.z hso (by rw [kso]; rfl)) hf0
        have z46 : q_is (q_z f40 so 2) 0 := Eq.trans (hF.z hso (by rw [kso]; rfl)) hf2
        have z47 : q_is (q_z f40 so 3) (-1) := Eq.trans (hF.z hso (by rw [kso]; rfl)) hf3
        have z48 : q_ir (q_r f40 so 0) ba := Eq.trans (hF.r hso (by rw [kso]; rfl)) hr0
        have g49 : tk_tb f40 ba B tn := tk_tb_tr htb (fun i9 => hF.z hba (by rw [kba]; rfl))
        obtain ⟨x50, ex50⟩ : ∃ zz, q_is (q_z f40 so 8) zz := ⟨_, q_isr _⟩
        obtain ⟨lx50, ux50⟩ := q_isb ex50 (q_fib hB.2.1 hso kso (by decide) rfl)
        obtain ⟨-, l0x50, u0x50, -, -⟩ := tk_tc_n g44 ex50
        refine q_iconst cx dX8_takeWord_18 ?_
        refine W.widen (k := 0) (n := 0) (by decide) (by decide) ?_
        refine vx_ret ?_
        refine q_zret cx hr hlk hB dX8_takeWord_19 (by decide) (by decide) ?_
        exact (Or.inl ⟨rfl, z46, z47, (tk_wd_ok t38 t43), g44⟩)
      · exact absurd c39 (by omega)
    · obtain ⟨rfl, qy33, t51⟩ := h37
      subst qy33
      refine q_ifne (tgt := 14) cx ⟨by decide, by decide⟩ dX8_takeWord_5 (by decide) (fun c52 => ?_) (fun c52 => ?_)
      · exact absurd c52 (by omega)
      · refine q_ald_n cx dX8_takeWord_8 rfl (lv_at hl 0 rfl) ?_
        refine q_iconst cx dX8_takeWord_9 ?_
        refine q_cVi (As := [.int (q_i 1)]) (rest := []) cx hB (fun _ h => h) hN hso kso (by decide) rfl (f_fail l g hN hB.2.1 B so hso kso 1 (by decide) (by decide) ba hba kba tn (by omega) (by omega) ss (by omega) (by omega) hf0 hf1 hr0 htc htb) q_cX8_79 q_dX8_fail (by decide) rfl rfl hl.1 rfl (Nat.le_of_ble_eq_true rfl) dX8_takeWord_10 (fun y54 H locs f53 ry54 h55 hF hB => ?_)
        obtain ⟨qy54, z56, z57⟩ := h55
        have z58 : q_is (q_z f53 so 1) tn := Eq.trans (hF.z hso (by rw [kso]; rfl)) hf0
        have z59 : q_is (q_z f53 so 8) ss := Eq.trans (hF.z hso (by rw [kso]; rfl)) hf1
        have z60 : q_ir (q_r f53 so 0) ba := Eq.trans (hF.r hso (by rw [kso]; rfl)) hr0
        have g61 : tk_tc f53 so B tn := tk_tc_tr htc (hF.z hso (by rw [kso]; rfl)) (hF.z hso (by rw [kso]; rfl)) (hF.z hso (by rw [kso]; rfl)) (hF.j hso (by rw [kso]; rfl)) (hF.z hso (by rw [kso]; rfl))
        have g62 : tk_tb f53 ba B tn := tk_tb_tr htb (fun i9 => hF.z hba (by rw [kba]; rfl))
        subst qy54
        refine W.widen (k := 0) (n := 0) (by decide) (by decide) ?_
        refine vx_ret ?_
        refine q_zret cx hr hlk hB dX8_takeWord_13 (by decide) (by decide) ?_
        exact (Or.inr ⟨rfl, (tk_wd_er t51 z56 z57), g61⟩)
set_option maxHeartbeats 4000000 in
set_option maxRecDepth 100000 in
theorem f_takeWord_1 (l : Launch) (g : q_G) (ad : Nat → Nat) {K : Nat → Nat} {L : List Nat} (hN : L.Nodup) {f : Nat → va_E} (hT : q_Ty g K L f) (hfl : l.stackTraces = false) (B : Nat → Int) (so : Nat) (hso : so ∈ L) (kso : K so = 8) (ba : Nat) (hba : ba ∈ L) (kba : K ba = 142) (tn : Int) (ltn : 0 ≤ tn) (utn : tn ≤ 600) (ss : Int) (lss : 0 ≤ ss) (uss : ss ≤ 600) (hf0 : q_is (q_z f so 1) tn) (hf1 : q_is (q_z f so 8) ss) (hf2 : q_is (q_z f so 2) 0) (hf3 : q_is (q_z f so 3) (-1)) (hr0 : q_ir (q_r f so 0) ba) (htc : tk_tc f so B tn) (htb : tk_tb f ba B tn) : q_Xt l g ad K L yX8_takeWord cX8_takeWord 2 (some .boolean) 5 107 0 0 [.ref so, .ref (ad 1)] f [(8, 2, 4), (8, 6, 9)] (q_Pi (fun (z : Int) (f1 : Nat → va_E) => (z = 1 ∧ q_is (q_z f1 so 2) 0 ∧ q_is (q_z f1 so 3) (-1) ∧ (tk_wd B tn tk_wCosts ss = tk_ok (q_z f1 so 8)) ∧ (tk_tc f1 so B tn)) ∨ (z = 0 ∧ (tk_wd B tn tk_wCosts ss = tk_er (q_z f1 so 2) (q_z f1 so 3)) ∧ (tk_tc f1 so B tn)))) (fun (_ : String) (_ : Nat → va_E) => False) := by
  refine q_xofb (by decide +kernel) hN hT (Nat.le_of_ble_eq_true rfl) ?_
  intro p e s m below meth c ls cx hr hlk htab hX hB hl
  have hl : lv_has ls 2 [(0, .ref so), (1, .ref (ad 1))] := hl
  obtain ⟨H, hH⟩ : ∃ H : Heap, H = s.heap := ⟨_, rfl⟩
  obtain ⟨locs, hlocs⟩ : ∃ z : List Loc, z = [] := ⟨_, rfl⟩
  rw [← hH, ← hlocs] at hB
  rw [← hH, ← hlocs]
  refine q_ald_n cx dX8_takeWord_0 rfl (lv_at hl 0 rfl) ?_
  refine q_ald_n cx dX8_takeWord_1 rfl (lv_at hl 1 rfl) ?_
  refine q_cXV (As := [.ref (ad 1)]) (rest := []) cx hX hB (fun _ h => h) (fun _ h _ => h) hN hso kso (by decide) rfl (f_isWord_1 l g ad hN hB.2.1 hfl B so hso kso ba hba kba tn (by omega) (by omega) ss (by omega) (by omega) hf0 hf1 hr0 htc htb) q_cX8_82 q_dX8_isWord (by decide) rfl rfl hl.1 rfl (Nat.le_of_ble_eq_true rfl) dX8_takeWord_2 (fun E9 ce9 q9 H locs f35 hex hF hB hcell hcv hcl => ?_) (fun v9 H locs f32 h34 hF hB => ?_)
  · exact hex.elim
  · obtain ⟨y33, rfl, ry33, h34⟩ := h34
    refine W.eq (g2 := F0 m 5 ls [.int (q_i y33)]) rfl ?_
    rcases h34 with h36 | h37
    · obtain ⟨rfl, qy33, t38⟩ := h36
      subst qy33
      refine q_ifne (tgt := 14) cx ⟨by decide, by decide⟩ dX8_takeWord_5 (by decide) (fun c39 => ?_) (fun c39 => ?_)
      · refine q_ald_n cx dX8_takeWord_14 rfl (lv_at hl 0 rfl) ?_
        refine q_cVv (As := []) (rest := []) cx hB (fun _ h => h) hN hso kso (by decide) rfl (f_adv l g hN hB.2.1 B so hso kso ba hba kba tn (by omega) (by omega) ss (by omega) (by omega) hf0 hf1 hr0 htc htb) q_cX8_30 q_dX8_advance (by decide) rfl rfl hl.1 rfl (Nat.le_of_ble_eq_true rfl) dX8_takeWord_15 (fun H locs f40 h42 hF hB => ?_)
        obtain ⟨t43, g44⟩ := h42
        have z45 : q_is (q_z f40 so 1) tn := Eq.trans (hF.z hso (by rw [kso]; rfl)) hf0
        have z46 : q_is (q_z f40 so 2) 0 := Eq.trans (hF.z hso (by rw [kso]; rfl)) hf2
        have z47 : q_is (q_z f40 so 3) (-1) := Eq.trans (hF.z hso (by rw [kso]; rfl)) hf3
        have z48 : q_ir (q_r f40 so 0) ba := Eq.trans (hF.r hso (by rw [kso]; rfl)) hr0
        have g49 : tk_tb f40 ba B tn := tk_tb_tr htb (fun i9 => hF.z hba (by rw [kba]; rfl))
        obtain ⟨x50, ex50⟩ : ∃ zz, q_is (q_z f40 so 8) zz := ⟨_, q_isr _⟩
        obtain ⟨lx50, ux50⟩ := q_isb ex50 (q_fib hB.2.1 hso kso (by decide) rfl)
        obtain ⟨-, l0x50, u0x50, -, -⟩ := tk_tc_n g44 ex50
        refine q_iconst cx dX8_takeWord_18 ?_
        refine W.widen (k := 0) (n := 0) (by decide) (by decide) ?_
        refine vx_ret ?_
        refine q_zret cx hr hlk hB dX8_takeWord_19 (by decide) (by decide) ?_
        exact (Or.inl ⟨rfl, z46, z47, (tk_wd_ok t38 t43), g44⟩)
      · exact absurd c39 (by omega)
    · obtain ⟨rfl, qy33, t51⟩ := h37
      subst qy33
      refine q_ifne (tgt := 14) cx ⟨by decide, by decide⟩ dX8_takeWord_5 (by decide) (fun c52 => ?_) (fun c52 => ?_)
      · exact absurd c52 (by omega)
      · refine q_ald_n cx dX8_takeWord_8 rfl (lv_at hl 0 rfl) ?_
        refine q_iconst cx dX8_takeWord_9 ?_
        refine q_cVi (As := [.int (q_i 1)]) (rest := []) cx hB (fun _ h => h) hN hso kso (by decide) rfl (f_fail l g hN hB.2.1 B so hso kso 1 (by decide) (by decide) ba hba kba tn (by omega) (by omega) ss (by omega) (by omega) hf0 hf1 hr0 htc htb) q_cX8_79 q_dX8_fail (by decide) rfl rfl hl.1 rfl (Nat.le_of_ble_eq_true rfl) dX8_takeWord_10 (fun y54 H locs f53 ry54 h55 hF hB => ?_)
        obtain ⟨qy54, z56, z57⟩ := h55
        have z58 : q_is (q_z f53 so 1) tn := Eq.trans (hF.z hso (by rw [kso]; rfl)) hf0
        have z59 : q_is (q_z f53 so 8) ss := Eq.trans (hF.z hso (by rw [kso]; rfl)) hf1
        have z60 : q_ir (q_r f53 so 0) ba := Eq.trans (hF.r hso (by rw [kso]; rfl)) hr0
        have g61 : tk_tc f53 so B tn := tk_tc_tr htc (hF.z hso (by rw [kso]; rfl)) (hF.z hso (by rw [kso]; rfl)) (hF.z hso (by rw [kso]; rfl)) (hF.j hso (by rw [kso]; rfl)) (hF.z hso (by rw [kso]; rfl))
        have g62 : tk_tb f53 ba B tn := tk_tb_tr htb (fun i9 => hF.z hba (by rw [kba]; rfl))
        subst qy54
        refine W.widen (k := 0) (n := 0) (by decide) (by decide) ?_
        refine vx_ret ?_
        refine q_zret cx hr hlk hB dX8_takeWord_13 (by decide) (by decide) ?_
        exact (Or.inr ⟨rfl, (tk_wd_er t51 z56 z57), g61⟩)
set_option maxHeartbeats 4000000 in
set_option maxRecDepth 100000 in
theorem f_takeWord_2 (l : Launch) (g : q_G) (ad : Nat → Nat) {K : Nat → Nat} {L : List Nat} (hN : L.Nodup) {f : Nat → va_E} (hT : q_Ty g K L f) (hfl : l.stackTraces = false) (B : Nat → Int) (so : Nat) (hso : so ∈ L) (kso : K so = 8) (ba : Nat) (hba : ba ∈ L) (kba : K ba = 142) (tn : Int) (ltn : 0 ≤ tn) (utn : tn ≤ 600) (ss : Int) (lss : 0 ≤ ss) (uss : ss ≤ 600) (hf0 : q_is (q_z f so 1) tn) (hf1 : q_is (q_z f so 8) ss) (hf2 : q_is (q_z f so 2) 0) (hf3 : q_is (q_z f so 3) (-1)) (hr0 : q_ir (q_r f so 0) ba) (htc : tk_tc f so B tn) (htb : tk_tb f ba B tn) : q_Xt l g ad K L yX8_takeWord cX8_takeWord 2 (some .boolean) 5 107 0 0 [.ref so, .ref (ad 2)] f [(8, 2, 4), (8, 6, 9)] (q_Pi (fun (z : Int) (f1 : Nat → va_E) => (z = 1 ∧ q_is (q_z f1 so 2) 0 ∧ q_is (q_z f1 so 3) (-1) ∧ (tk_wd B tn tk_wMiss ss = tk_ok (q_z f1 so 8)) ∧ (tk_tc f1 so B tn)) ∨ (z = 0 ∧ (tk_wd B tn tk_wMiss ss = tk_er (q_z f1 so 2) (q_z f1 so 3)) ∧ (tk_tc f1 so B tn)))) (fun (_ : String) (_ : Nat → va_E) => False) := by
  refine q_xofb (by decide +kernel) hN hT (Nat.le_of_ble_eq_true rfl) ?_
  intro p e s m below meth c ls cx hr hlk htab hX hB hl
  have hl : lv_has ls 2 [(0, .ref so), (1, .ref (ad 2))] := hl
  obtain ⟨H, hH⟩ : ∃ H : Heap, H = s.heap := ⟨_, rfl⟩
  obtain ⟨locs, hlocs⟩ : ∃ z : List Loc, z = [] := ⟨_, rfl⟩
  rw [← hH, ← hlocs] at hB
  rw [← hH, ← hlocs]
  refine q_ald_n cx dX8_takeWord_0 rfl (lv_at hl 0 rfl) ?_
  refine q_ald_n cx dX8_takeWord_1 rfl (lv_at hl 1 rfl) ?_
  refine q_cXV (As := [.ref (ad 2)]) (rest := []) cx hX hB (fun _ h => h) (fun _ h _ => h) hN hso kso (by decide) rfl (f_isWord_2 l g ad hN hB.2.1 hfl B so hso kso ba hba kba tn (by omega) (by omega) ss (by omega) (by omega) hf0 hf1 hr0 htc htb) q_cX8_82 q_dX8_isWord (by decide) rfl rfl hl.1 rfl (Nat.le_of_ble_eq_true rfl) dX8_takeWord_2 (fun E9 ce9 q9 H locs f35 hex hF hB hcell hcv hcl => ?_) (fun v9 H locs f32 h34 hF hB => ?_)
  · exact hex.elim
  · obtain ⟨y33, rfl, ry33, h34⟩ := h34
    refine W.eq (g2 := F0 m 5 ls [.int (q_i y33)]) rfl ?_
    rcases h34 with h36 | h37
    · obtain ⟨rfl, qy33, t38⟩ := h36
      subst qy33
      refine q_ifne (tgt := 14) cx ⟨by decide, by decide⟩ dX8_takeWord_5 (by decide) (fun c39 => ?_) (fun c39 => ?_)
      · refine q_ald_n cx dX8_takeWord_14 rfl (lv_at hl 0 rfl) ?_
        refine q_cVv (As := []) (rest := []) cx hB (fun _ h => h) hN hso kso (by decide) rfl (f_adv l g hN hB.2.1 B so hso kso ba hba kba tn (by omega) (by omega) ss (by omega) (by omega) hf0 hf1 hr0 htc htb) q_cX8_30 q_dX8_advance (by decide) rfl rfl hl.1 rfl (Nat.le_of_ble_eq_true rfl) dX8_takeWord_15 (fun H locs f40 h42 hF hB => ?_)
        obtain ⟨t43, g44⟩ := h42
        have z45 : q_is (q_z f40 so 1) tn := Eq.trans (hF.z hso (by rw [kso]; rfl)) hf0
        have z46 : q_is (q_z f40 so 2) 0 := Eq.trans (hF.z hso (by rw [kso]; rfl)) hf2
        have z47 : q_is (q_z f40 so 3) (-1) := Eq.trans (hF.z hso (by rw [kso]; rfl)) hf3
        have z48 : q_ir (q_r f40 so 0) ba := Eq.trans (hF.r hso (by rw [kso]; rfl)) hr0
        have g49 : tk_tb f40 ba B tn := tk_tb_tr htb (fun i9 => hF.z hba (by rw [kba]; rfl))
        obtain ⟨x50, ex50⟩ : ∃ zz, q_is (q_z f40 so 8) zz := ⟨_, q_isr _⟩
        obtain ⟨lx50, ux50⟩ := q_isb ex50 (q_fib hB.2.1 hso kso (by decide) rfl)
        obtain ⟨-, l0x50, u0x50, -, -⟩ := tk_tc_n g44 ex50
        refine q_iconst cx dX8_takeWord_18 ?_
        refine W.widen (k := 0) (n := 0) (by decide) (by decide) ?_
        refine vx_ret ?_
        refine q_zret cx hr hlk hB dX8_takeWord_19 (by decide) (by decide) ?_
        exact (Or.inl ⟨rfl, z46, z47, (tk_wd_ok t38 t43), g44⟩)
      · exact absurd c39 (by omega)
    · obtain ⟨rfl, qy33, t51⟩ := h37
      subst qy33
      refine q_ifne (tgt := 14) cx ⟨by decide, by decide⟩ dX8_takeWord_5 (by decide) (fun c52 => ?_) (fun c52 => ?_)
      · exact absurd c52 (by omega)
      · refine q_ald_n cx dX8_takeWord_8 rfl (lv_at hl 0 rfl) ?_
        refine q_iconst cx dX8_takeWord_9 ?_
        refine q_cVi (As := [.int (q_i 1)]) (rest := []) cx hB (fun _ h => h) hN hso kso (by decide) rfl (f_fail l g hN hB.2.1 B so hso kso 1 (by decide) (by decide) ba hba kba tn (by omega) (by omega) ss (by omega) (by omega) hf0 hf1 hr0 htc htb) q_cX8_79 q_dX8_fail (by decide) rfl rfl hl.1 rfl (Nat.le_of_ble_eq_true rfl) dX8_takeWord_10 (fun y54 H locs f53 ry54 h55 hF hB => ?_)
        obtain ⟨qy54, z56, z57⟩ := h55
        have z58 : q_is (q_z f53 so 1) tn := Eq.trans (hF.z hso (by rw [kso]; rfl)) hf0
        have z59 : q_is (q_z f53 so 8) ss := Eq.trans (hF.z hso (by rw [kso]; rfl)) hf1
        have z60 : q_ir (q_r f53 so 0) ba := Eq.trans (hF.r hso (by rw [kso]; rfl)) hr0
        have g61 : tk_tc f53 so B tn := tk_tc_tr htc (hF.z hso (by rw [kso]; rfl)) (hF.z hso (by rw [kso]; rfl)) (hF.z hso (by rw [kso]; rfl)) (hF.j hso (by rw [kso]; rfl)) (hF.z hso (by rw [kso]; rfl))
        have g62 : tk_tb f53 ba B tn := tk_tb_tr htb (fun i9 => hF.z hba (by rw [kba]; rfl))
        subst qy54
        refine W.widen (k := 0) (n := 0) (by decide) (by decide) ?_
        refine vx_ret ?_
        refine q_zret cx hr hlk hB dX8_takeWord_13 (by decide) (by decide) ?_
        exact (Or.inr ⟨rfl, (tk_wd_er t51 z56 z57), g61⟩)
set_option maxHeartbeats 4000000 in
set_option maxRecDepth 100000 in
theorem f_takeWord_3 (l : Launch) (g : q_G) (ad : Nat → Nat) {K : Nat → Nat} {L : List Nat} (hN : L.Nodup) {f : Nat → va_E} (hT : q_Ty g K L f) (hfl : l.stackTraces = false) (B : Nat → Int) (so : Nat) (hso : so ∈ L) (kso : K so = 8) (ba : Nat) (hba : ba ∈ L) (kba : K ba = 142) (tn : Int) (ltn : 0 ≤ tn) (utn : tn ≤ 600) (ss : Int) (lss : 0 ≤ ss) (uss : ss ≤ 600) (hf0 : q_is (q_z f so 1) tn) (hf1 : q_is (q_z f so 8) ss) (hf2 : q_is (q_z f so 2) 0) (hf3 : q_is (q_z f so 3) (-1)) (hr0 : q_ir (q_r f so 0) ba) (htc : tk_tc f so B tn) (htb : tk_tb f ba B tn) : q_Xt l g ad K L yX8_takeWord cX8_takeWord 2 (some .boolean) 5 107 0 0 [.ref so, .ref (ad 3)] f [(8, 2, 4), (8, 6, 9)] (q_Pi (fun (z : Int) (f1 : Nat → va_E) => (z = 1 ∧ q_is (q_z f1 so 2) 0 ∧ q_is (q_z f1 so 3) (-1) ∧ (tk_wd B tn tk_wNode ss = tk_ok (q_z f1 so 8)) ∧ (tk_tc f1 so B tn)) ∨ (z = 0 ∧ (tk_wd B tn tk_wNode ss = tk_er (q_z f1 so 2) (q_z f1 so 3)) ∧ (tk_tc f1 so B tn)))) (fun (_ : String) (_ : Nat → va_E) => False) := by
  refine q_xofb (by decide +kernel) hN hT (Nat.le_of_ble_eq_true rfl) ?_
  intro p e s m below meth c ls cx hr hlk htab hX hB hl
  have hl : lv_has ls 2 [(0, .ref so), (1, .ref (ad 3))] := hl
  obtain ⟨H, hH⟩ : ∃ H : Heap, H = s.heap := ⟨_, rfl⟩
  obtain ⟨locs, hlocs⟩ : ∃ z : List Loc, z = [] := ⟨_, rfl⟩
  rw [← hH, ← hlocs] at hB
  rw [← hH, ← hlocs]
  refine q_ald_n cx dX8_takeWord_0 rfl (lv_at hl 0 rfl) ?_
  refine q_ald_n cx dX8_takeWord_1 rfl (lv_at hl 1 rfl) ?_
  refine q_cXV (As := [.ref (ad 3)]) (rest := []) cx hX hB (fun _ h => h) (fun _ h _ => h) hN hso kso (by decide) rfl (f_isWord_3 l g ad hN hB.2.1 hfl B so hso kso ba hba kba tn (by omega) (by omega) ss (by omega) (by omega) hf0 hf1 hr0 htc htb) q_cX8_82 q_dX8_isWord (by decide) rfl rfl hl.1 rfl (Nat.le_of_ble_eq_true rfl) dX8_takeWord_2 (fun E9 ce9 q9 H locs f35 hex hF hB hcell hcv hcl => ?_) (fun v9 H locs f32 h34 hF hB => ?_)
  · exact hex.elim
  · obtain ⟨y33, rfl, ry33, h34⟩ := h34
    refine W.eq (g2 := F0 m 5 ls [.int (q_i y33)]) rfl ?_
    rcases h34 with h36 | h37
    · obtain ⟨rfl, qy33, t38⟩ := h36
      subst qy33
      refine q_ifne (tgt := 14) cx ⟨by decide, by decide⟩ dX8_takeWord_5 (by decide) (fun c39 => ?_) (fun c39 => ?_)
      · refine q_ald_n cx dX8_takeWord_14 rfl (lv_at hl 0 rfl) ?_
        refine q_cVv (As := []) (rest := []) cx hB (fun _ h => h) hN hso kso (by decide) rfl (f_adv l g hN hB.2.1 B so hso kso ba hba kba tn (by omega) (by omega) ss (by omega) (by omega) hf0 hf1 hr0 htc htb) q_cX8_30 q_dX8_advance (by decide) rfl rfl hl.1 rfl (Nat.le_of_ble_eq_true rfl) dX8_takeWord_15 (fun H locs f40 h42 hF hB => ?_)
        obtain ⟨t43, g44⟩ := h42
        have z45 : q_is (q_z f40 so 1) tn := Eq.trans (hF.z hso (by rw [kso]; rfl)) hf0
        have z46 : q_is (q_z f40 so 2) 0 := Eq.trans (hF.z hso (by rw [kso]; rfl)) hf2
        have z47 : q_is (q_z f40 so 3) (-1) := Eq.trans (hF.z hso (by rw [kso]; rfl)) hf3
        have z48 : q_ir (q_r f40 so 0) ba := Eq.trans (hF.r hso (by rw [kso]; rfl)) hr0
        have g49 : tk_tb f40 ba B tn := tk_tb_tr htb (fun i9 => hF.z hba (by rw [kba]; rfl))
        obtain ⟨x50, ex50⟩ : ∃ zz, q_is (q_z f40 so 8) zz := ⟨_, q_isr _⟩
        obtain ⟨lx50, ux50⟩ := q_isb ex50 (q_fib hB.2.1 hso kso (by decide) rfl)
        obtain ⟨-, l0x50, u0x50, -, -⟩ := tk_tc_n g44 ex50
        refine q_iconst cx dX8_takeWord_18 ?_
        refine W.widen (k := 0) (n := 0) (by decide) (by decide) ?_
        refine vx_ret ?_
        refine q_zret cx hr hlk hB dX8_takeWord_19 (by decide) (by decide) ?_
        exact (Or.inl ⟨rfl, z46, z47, (tk_wd_ok t38 t43), g44⟩)
      · exact absurd c39 (by omega)
    · obtain ⟨rfl, qy33, t51⟩ := h37
      subst qy33
      refine q_ifne (tgt := 14) cx ⟨by decide, by decide⟩ dX8_takeWord_5 (by decide) (fun c52 => ?_) (fun c52 => ?_)
      · exact absurd c52 (by omega)
      · refine q_ald_n cx dX8_takeWord_8 rfl (lv_at hl 0 rfl) ?_
        refine q_iconst cx dX8_takeWord_9 ?_
        refine q_cVi (As := [.int (q_i 1)]) (rest := []) cx hB (fun _ h => h) hN hso kso (by decide) rfl (f_fail l g hN hB.2.1 B so hso kso 1 (by decide) (by decide) ba hba kba tn (by omega) (by omega) ss (by omega) (by omega) hf0 hf1 hr0 htc htb) q_cX8_79 q_dX8_fail (by decide) rfl rfl hl.1 rfl (Nat.le_of_ble_eq_true rfl) dX8_takeWord_10 (fun y54 H locs f53 ry54 h55 hF hB => ?_)
        obtain ⟨qy54, z56, z57⟩ := h55
        have z58 : q_is (q_z f53 so 1) tn := Eq.trans (hF.z hso (by rw [kso]; rfl)) hf0
        have z59 : q_is (q_z f53 so 8) ss := Eq.trans (hF.z hso (by rw [kso]; rfl)) hf1
        have z60 : q_ir (q_r f53 so 0) ba := Eq.trans (hF.r hso (by rw [kso]; rfl)) hr0
        have g61 : tk_tc f53 so B tn := tk_tc_tr htc (hF.z hso (by rw [kso]; rfl)) (hF.z hso (by rw [kso]; rfl)) (hF.z hso (by rw [kso]; rfl)) (hF.j hso (by rw [kso]; rfl)) (hF.z hso (by rw [kso]; rfl))
        have g62 : tk_tb f53 ba B tn := tk_tb_tr htb (fun i9 => hF.z hba (by rw [kba]; rfl))
        subst qy54
        refine W.widen (k := 0) (n := 0) (by decide) (by decide) ?_
        refine vx_ret ?_
        refine q_zret cx hr hlk hB dX8_takeWord_13 (by decide) (by decide) ?_
        exact (Or.inr ⟨rfl, (tk_wd_er t51 z56 z57), g61⟩)
set_option maxHeartbeats 4000000 in
set_option maxRecDepth 100000 in
theorem f_takeWord_4 (l : Launch) (g : q_G) (ad : Nat → Nat) {K : Nat → Nat} {L : List Nat} (hN : L.Nodup) {f : Nat → va_E} (hT : q_Ty g K L f) (hfl : l.stackTraces = false) (B : Nat → Int) (so : Nat) (hso : so ∈ L) (kso : K so = 8) (ba : Nat) (hba : ba ∈ L) (kba : K ba = 142) (tn : Int) (ltn : 0 ≤ tn) (utn : tn ≤ 600) (ss : Int) (lss : 0 ≤ ss) (uss : ss ≤ 600) (hf0 : q_is (q_z f so 1) tn) (hf1 : q_is (q_z f so 8) ss) (hf2 : q_is (q_z f so 2) 0) (hf3 : q_is (q_z f so 3) (-1)) (hr0 : q_ir (q_r f so 0) ba) (htc : tk_tc f so B tn) (htb : tk_tb f ba B tn) : q_Xt l g ad K L yX8_takeWord cX8_takeWord 2 (some .boolean) 5 107 0 0 [.ref so, .ref (ad 4)] f [(8, 2, 4), (8, 6, 9)] (q_Pi (fun (z : Int) (f1 : Nat → va_E) => (z = 1 ∧ q_is (q_z f1 so 2) 0 ∧ q_is (q_z f1 so 3) (-1) ∧ (tk_wd B tn tk_wLink ss = tk_ok (q_z f1 so 8)) ∧ (tk_tc f1 so B tn)) ∨ (z = 0 ∧ (tk_wd B tn tk_wLink ss = tk_er (q_z f1 so 2) (q_z f1 so 3)) ∧ (tk_tc f1 so B tn)))) (fun (_ : String) (_ : Nat → va_E) => False) := by
  refine q_xofb (by decide +kernel) hN hT (Nat.le_of_ble_eq_true rfl) ?_
  intro p e s m below meth c ls cx hr hlk htab hX hB hl
  have hl : lv_has ls 2 [(0, .ref so), (1, .ref (ad 4))] := hl
  obtain ⟨H, hH⟩ : ∃ H : Heap, H = s.heap := ⟨_, rfl⟩
  obtain ⟨locs, hlocs⟩ : ∃ z : List Loc, z = [] := ⟨_, rfl⟩
  rw [← hH, ← hlocs] at hB
  rw [← hH, ← hlocs]
  refine q_ald_n cx dX8_takeWord_0 rfl (lv_at hl 0 rfl) ?_
  refine q_ald_n cx dX8_takeWord_1 rfl (lv_at hl 1 rfl) ?_
  refine q_cXV (As := [.ref (ad 4)]) (rest := []) cx hX hB (fun _ h => h) (fun _ h _ => h) hN hso kso (by decide) rfl (f_isWord_4 l g ad hN hB.2.1 hfl B so hso kso ba hba kba tn (by omega) (by omega) ss (by omega) (by omega) hf0 hf1 hr0 htc htb) q_cX8_82 q_dX8_isWord (by decide) rfl rfl hl.1 rfl (Nat.le_of_ble_eq_true rfl) dX8_takeWord_2 (fun E9 ce9 q9 H locs f35 hex hF hB hcell hcv hcl => ?_) (fun v9 H locs f32 h34 hF hB => ?_)
  · exact hex.elim
  · obtain ⟨y33, rfl, ry33, h34⟩ := h34
    refine W.eq (g2 := F0 m 5 ls [.int (q_i y33)]) rfl ?_
    rcases h34 with h36 | h37
    · obtain ⟨rfl, qy33, t38⟩ := h36
      subst qy33
      refine q_ifne (tgt := 14) cx ⟨by decide, by decide⟩ dX8_takeWord_5 (by decide) (fun c39 => ?_) (fun c39 => ?_)
      · refine q_ald_n cx dX8_takeWord_14 rfl (lv_at hl 0 rfl) ?_
        refine q_cVv (As := []) (rest := []) cx hB (fun _ h => h) hN hso kso (by decide) rfl (f_adv l g hN hB.2.1 B so hso kso ba hba kba tn (by omega) (by omega) ss (by omega) (by omega) hf0 hf1 hr0 htc htb) q_cX8_30 q_dX8_advance (by decide) rfl rfl hl.1 rfl (Nat.le_of_ble_eq_true rfl) dX8_takeWord_15 (fun H locs f40 h42 hF hB => ?_)
        obtain ⟨t43, g44⟩ := h42
        have z45 : q_is (q_z f40 so 1) tn := Eq.trans (hF.z hso (by rw [kso]; rfl)) hf0
        have z46 : q_is (q_z f40 so 2) 0 := Eq.trans (hF.z hso (by rw [kso]; rfl)) hf2
        have z47 : q_is (q_z f40 so 3) (-1) := Eq.trans (hF.z hso (by rw [kso]; rfl)) hf3
        have z48 : q_ir (q_r f40 so 0) ba := Eq.trans (hF.r hso (by rw [kso]; rfl)) hr0
        have g49 : tk_tb f40 ba B tn := tk_tb_tr htb (fun i9 => hF.z hba (by rw [kba]; rfl))
        obtain ⟨x50, ex50⟩ : ∃ zz, q_is (q_z f40 so 8) zz := ⟨_, q_isr _⟩
        obtain ⟨lx50, ux50⟩ := q_isb ex50 (q_fib hB.2.1 hso kso (by decide) rfl)
        obtain ⟨-, l0x50, u0x50, -, -⟩ := tk_tc_n g44 ex50
        refine q_iconst cx dX8_takeWord_18 ?_
        refine W.widen (k := 0) (n := 0) (by decide) (by decide) ?_
        refine vx_ret ?_
        refine q_zret cx hr hlk hB dX8_takeWord_19 (by decide) (by decide) ?_
        exact (Or.inl ⟨rfl, z46, z47, (tk_wd_ok t38 t43), g44⟩)
      · exact absurd c39 (by omega)
    · obtain ⟨rfl, qy33, t51⟩ := h37
      subst qy33
      refine q_ifne (tgt := 14) cx ⟨by decide, by decide⟩ dX8_takeWord_5 (by decide) (fun c52 => ?_) (fun c52 => ?_)
      · exact absurd c52 (by omega)
      · refine q_ald_n cx dX8_takeWord_8 rfl (lv_at hl 0 rfl) ?_
        refine q_iconst cx dX8_takeWord_9 ?_
        refine q_cVi (As := [.int (q_i 1)]) (rest := []) cx hB (fun _ h => h) hN hso kso (by decide) rfl (f_fail l g hN hB.2.1 B so hso kso 1 (by decide) (by decide) ba hba kba tn (by omega) (by omega) ss (by omega) (by omega) hf0 hf1 hr0 htc htb) q_cX8_79 q_dX8_fail (by decide) rfl rfl hl.1 rfl (Nat.le_of_ble_eq_true rfl) dX8_takeWord_10 (fun y54 H locs f53 ry54 h55 hF hB => ?_)
        obtain ⟨qy54, z56, z57⟩ := h55
        have z58 : q_is (q_z f53 so 1) tn := Eq.trans (hF.z hso (by rw [kso]; rfl)) hf0
        have z59 : q_is (q_z f53 so 8) ss := Eq.trans (hF.z hso (by rw [kso]; rfl)) hf1
        have z60 : q_ir (q_r f53 so 0) ba := Eq.trans (hF.r hso (by rw [kso]; rfl)) hr0
        have g61 : tk_tc f53 so B tn := tk_tc_tr htc (hF.z hso (by rw [kso]; rfl)) (hF.z hso (by rw [kso]; rfl)) (hF.z hso (by rw [kso]; rfl)) (hF.j hso (by rw [kso]; rfl)) (hF.z hso (by rw [kso]; rfl))
        have g62 : tk_tb f53 ba B tn := tk_tb_tr htb (fun i9 => hF.z hba (by rw [kba]; rfl))
        subst qy54
        refine W.widen (k := 0) (n := 0) (by decide) (by decide) ?_
        refine vx_ret ?_
        refine q_zret cx hr hlk hB dX8_takeWord_13 (by decide) (by decide) ?_
        exact (Or.inr ⟨rfl, (tk_wd_er t51 z56 z57), g61⟩)
set_option maxHeartbeats 4000000 in
set_option maxRecDepth 100000 in
theorem f_takeWord_5 (l : Launch) (g : q_G) (ad : Nat → Nat) {K : Nat → Nat} {L : List Nat} (hN : L.Nodup) {f : Nat → va_E} (hT : q_Ty g K L f) (hfl : l.stackTraces = false) (B : Nat → Int) (so : Nat) (hso : so ∈ L) (kso : K so = 8) (ba : Nat) (hba : ba ∈ L) (kba : K ba = 142) (tn : Int) (ltn : 0 ≤ tn) (utn : tn ≤ 600) (ss : Int) (lss : 0 ≤ ss) (uss : ss ≤ 600) (hf0 : q_is (q_z f so 1) tn) (hf1 : q_is (q_z f so 8) ss) (hf2 : q_is (q_z f so 2) 0) (hf3 : q_is (q_z f so 3) (-1)) (hr0 : q_ir (q_r f so 0) ba) (htc : tk_tc f so B tn) (htb : tk_tb f ba B tn) : q_Xt l g ad K L yX8_takeWord cX8_takeWord 2 (some .boolean) 5 107 0 0 [.ref so, .ref (ad 5)] f [(8, 2, 4), (8, 6, 9)] (q_Pi (fun (z : Int) (f1 : Nat → va_E) => (z = 1 ∧ q_is (q_z f1 so 2) 0 ∧ q_is (q_z f1 so 3) (-1) ∧ (tk_wd B tn tk_wBorn ss = tk_ok (q_z f1 so 8)) ∧ (tk_tc f1 so B tn)) ∨ (z = 0 ∧ (tk_wd B tn tk_wBorn ss = tk_er (q_z f1 so 2) (q_z f1 so 3)) ∧ (tk_tc f1 so B tn)))) (fun (_ : String) (_ : Nat → va_E) => False) := by
  refine q_xofb (by decide +kernel) hN hT (Nat.le_of_ble_eq_true rfl) ?_
  intro p e s m below meth c ls cx hr hlk htab hX hB hl
  have hl : lv_has ls 2 [(0, .ref so), (1, .ref (ad 5))] := hl
  obtain ⟨H, hH⟩ : ∃ H : Heap, H = s.heap := ⟨_, rfl⟩
  obtain ⟨locs, hlocs⟩ : ∃ z : List Loc, z = [] := ⟨_, rfl⟩
  rw [← hH, ← hlocs] at hB
  rw [← hH, ← hlocs]
  refine q_ald_n cx dX8_takeWord_0 rfl (lv_at hl 0 rfl) ?_
  refine q_ald_n cx dX8_takeWord_1 rfl (lv_at hl 1 rfl) ?_
  refine q_cXV (As := [.ref (ad 5)]) (rest := []) cx hX hB (fun _ h => h) (fun _ h _ => h) hN hso kso (by decide) rfl (f_isWord_5 l g ad hN hB.2.1 hfl B so hso kso ba hba kba tn (by omega) (by omega) ss (by omega) (by omega) hf0 hf1 hr0 htc htb) q_cX8_82 q_dX8_isWord (by decide) rfl rfl hl.1 rfl (Nat.le_of_ble_eq_true rfl) dX8_takeWord_2 (fun E9 ce9 q9 H locs f35 hex hF hB hcell hcv hcl => ?_) (fun v9 H locs f32 h34 hF hB => ?_)
  · exact hex.elim
  · obtain ⟨y33, rfl, ry33, h34⟩ := h34
    refine W.eq (g2 := F0 m 5 ls [.int (q_i y33)]) rfl ?_
    rcases h34 with h36 | h37
    · obtain ⟨rfl, qy33, t38⟩ := h36
      subst qy33
      refine q_ifne (tgt := 14) cx ⟨by decide, by decide⟩ dX8_takeWord_5 (by decide) (fun c39 => ?_) (fun c39 => ?_)
      · refine q_ald_n cx dX8_takeWord_14 rfl (lv_at hl 0 rfl) ?_
        refine q_cVv (As := []) (rest := []) cx hB (fun _ h => h) hN hso kso (by decide) rfl (f_adv l g hN hB.2.1 B so hso kso ba hba kba tn (by omega) (by omega) ss (by omega) (by omega) hf0 hf1 hr0 htc htb) q_cX8_30 q_dX8_advance (by decide) rfl rfl hl.1 rfl (Nat.le_of_ble_eq_true rfl) dX8_takeWord_15 (fun H locs f40 h42 hF hB => ?_)
        obtain ⟨t43, g44⟩ := h42
        have z45 : q_is (q_z f40 so 1) tn := Eq.trans (hF.z hso (by rw [kso]; rfl)) hf0
        have z46 : q_is (q_z f40 so 2) 0 := Eq.trans (hF.z hso (by rw [kso]; rfl)) hf2
        have z47 : q_is (q_z f40 so 3) (-1) := Eq.trans (hF.z hso (by rw [kso]; rfl)) hf3
        have z48 : q_ir (q_r f40 so 0) ba := Eq.trans (hF.r hso (by rw [kso]; rfl)) hr0
        have g49 : tk_tb f40 ba B tn := tk_tb_tr htb (fun i9 => hF.z hba (by rw [kba]; rfl))
        obtain ⟨x50, ex50⟩ : ∃ zz, q_is (q_z f40 so 8) zz := ⟨_, q_isr _⟩
        obtain ⟨lx50, ux50⟩ := q_isb ex50 (q_fib hB.2.1 hso kso (by decide) rfl)
        obtain ⟨-, l0x50, u0x50, -, -⟩ := tk_tc_n g44 ex50
        refine q_iconst cx dX8_takeWord_18 ?_
        refine W.widen (k := 0) (n := 0) (by decide) (by decide) ?_
        refine vx_ret ?_
        refine q_zret cx hr hlk hB dX8_takeWord_19 (by decide) (by decide) ?_
        exact (Or.inl ⟨rfl, z46, z47, (tk_wd_ok t38 t43), g44⟩)
      · exact absurd c39 (by omega)
    · obtain ⟨rfl, qy33, t51⟩ := h37
      subst qy33
      refine q_ifne (tgt := 14) cx ⟨by decide, by decide⟩ dX8_takeWord_5 (by decide) (fun c52 => ?_) (fun c52 => ?_)
      · exact absurd c52 (by omega)
      · refine q_ald_n cx dX8_takeWord_8 rfl (lv_at hl 0 rfl) ?_
        refine q_iconst cx dX8_takeWord_9 ?_
        refine q_cVi (As := [.int (q_i 1)]) (rest := []) cx hB (fun _ h => h) hN hso kso (by decide) rfl (f_fail l g hN hB.2.1 B so hso kso 1 (by decide) (by decide) ba hba kba tn (by omega) (by omega) ss (by omega) (by omega) hf0 hf1 hr0 htc htb) q_cX8_79 q_dX8_fail (by decide) rfl rfl hl.1 rfl (Nat.le_of_ble_eq_true rfl) dX8_takeWord_10 (fun y54 H locs f53 ry54 h55 hF hB => ?_)
        obtain ⟨qy54, z56, z57⟩ := h55
        have z58 : q_is (q_z f53 so 1) tn := Eq.trans (hF.z hso (by rw [kso]; rfl)) hf0
        have z59 : q_is (q_z f53 so 8) ss := Eq.trans (hF.z hso (by rw [kso]; rfl)) hf1
        have z60 : q_ir (q_r f53 so 0) ba := Eq.trans (hF.r hso (by rw [kso]; rfl)) hr0
        have g61 : tk_tc f53 so B tn := tk_tc_tr htc (hF.z hso (by rw [kso]; rfl)) (hF.z hso (by rw [kso]; rfl)) (hF.z hso (by rw [kso]; rfl)) (hF.j hso (by rw [kso]; rfl)) (hF.z hso (by rw [kso]; rfl))
        have g62 : tk_tb f53 ba B tn := tk_tb_tr htb (fun i9 => hF.z hba (by rw [kba]; rfl))
        subst qy54
        refine W.widen (k := 0) (n := 0) (by decide) (by decide) ?_
        refine vx_ret ?_
        refine q_zret cx hr hlk hB dX8_takeWord_13 (by decide) (by decide) ?_
        exact (Or.inr ⟨rfl, (tk_wd_er t51 z56 z57), g61⟩)
set_option maxHeartbeats 4000000 in
set_option maxRecDepth 100000 in
theorem f_takeWord_6 (l : Launch) (g : q_G) (ad : Nat → Nat) {K : Nat → Nat} {L : List Nat} (hN : L.Nodup) {f : Nat → va_E} (hT : q_Ty g K L f) (hfl : l.stackTraces = false) (B : Nat → Int) (so : Nat) (hso : so ∈ L) (kso : K so = 8) (ba : Nat) (hba : ba ∈ L) (kba : K ba = 142) (tn : Int) (ltn : 0 ≤ tn) (utn : tn ≤ 600) (ss : Int) (lss : 0 ≤ ss) (uss : ss ≤ 600) (hf0 : q_is (q_z f so 1) tn) (hf1 : q_is (q_z f so 8) ss) (hf2 : q_is (q_z f so 2) 0) (hf3 : q_is (q_z f so 3) (-1)) (hr0 : q_ir (q_r f so 0) ba) (htc : tk_tc f so B tn) (htb : tk_tb f ba B tn) : q_Xt l g ad K L yX8_takeWord cX8_takeWord 2 (some .boolean) 5 107 0 0 [.ref so, .ref (ad 6)] f [(8, 2, 4), (8, 6, 9)] (q_Pi (fun (z : Int) (f1 : Nat → va_E) => (z = 1 ∧ q_is (q_z f1 so 2) 0 ∧ q_is (q_z f1 so 3) (-1) ∧ (tk_wd B tn tk_wShift ss = tk_ok (q_z f1 so 8)) ∧ (tk_tc f1 so B tn)) ∨ (z = 0 ∧ (tk_wd B tn tk_wShift ss = tk_er (q_z f1 so 2) (q_z f1 so 3)) ∧ (tk_tc f1 so B tn)))) (fun (_ : String) (_ : Nat → va_E) => False) := by
  refine q_xofb (by decide +kernel) hN hT (Nat.le_of_ble_eq_true rfl) ?_
  intro p e s m below meth c ls cx hr hlk htab hX hB hl
  have hl : lv_has ls 2 [(0, .ref so), (1, .ref (ad 6))] := hl
  obtain ⟨H, hH⟩ : ∃ H : Heap, H = s.heap := ⟨_, rfl⟩
  obtain ⟨locs, hlocs⟩ : ∃ z : List Loc, z = [] := ⟨_, rfl⟩
  rw [← hH, ← hlocs] at hB
  rw [← hH, ← hlocs]
  refine q_ald_n cx dX8_takeWord_0 rfl (lv_at hl 0 rfl) ?_
  refine q_ald_n cx dX8_takeWord_1 rfl (lv_at hl 1 rfl) ?_
  refine q_cXV (As := [.ref (ad 6)]) (rest := []) cx hX hB (fun _ h => h) (fun _ h _ => h) hN hso kso (by decide) rfl (f_isWord_6 l g ad hN hB.2.1 hfl B so hso kso ba hba kba tn (by omega) (by omega) ss (by omega) (by omega) hf0 hf1 hr0 htc htb) q_cX8_82 q_dX8_isWord (by decide) rfl rfl hl.1 rfl (Nat.le_of_ble_eq_true rfl) dX8_takeWord_2 (fun E9 ce9 q9 H locs f35 hex hF hB hcell hcv hcl => ?_) (fun v9 H locs f32 h34 hF hB => ?_)
  · exact hex.elim
  · obtain ⟨y33, rfl, ry33, h34⟩ := h34
    refine W.eq (g2 := F0 m 5 ls [.int (q_i y33)]) rfl ?_
    rcases h34 with h36 | h37
    · obtain ⟨rfl, qy33, t38⟩ := h36
      subst qy33
      refine q_ifne (tgt := 14) cx ⟨by decide, by decide⟩ dX8_takeWord_5 (by decide) (fun c39 => ?_) (fun c39 => ?_)
      · refine q_ald_n cx dX8_takeWord_14 rfl (lv_at hl 0 rfl) ?_
        refine q_cVv (As := []) (rest := []) cx hB (fun _ h => h) hN hso kso (by decide) rfl (f_adv l g hN hB.2.1 B so hso kso ba hba kba tn (by omega) (by omega) ss (by omega) (by omega) hf0 hf1 hr0 htc htb) q_cX8_30 q_dX8_advance (by decide) rfl rfl hl.1 rfl (Nat.le_of_ble_eq_true rfl) dX8_takeWord_15 (fun H locs f40 h42 hF hB => ?_)
        obtain ⟨t43, g44⟩ := h42
        have z45 : q_is (q_z f40 so 1) tn := Eq.trans (hF.z hso (by rw [kso]; rfl)) hf0
        have z46 : q_is (q_z f40 so 2) 0 := Eq.trans (hF.z hso (by rw [kso]; rfl)) hf2
        have z47 : q_is (q_z f40 so 3) (-1) := Eq.trans (hF.z hso (by rw [kso]; rfl)) hf3
        have z48 : q_ir (q_r f40 so 0) ba := Eq.trans (hF.r hso (by rw [kso]; rfl)) hr0
        have g49 : tk_tb f40 ba B tn := tk_tb_tr htb (fun i9 => hF.z hba (by rw [kba]; rfl))
        obtain ⟨x50, ex50⟩ : ∃ zz, q_is (q_z f40 so 8) zz := ⟨_, q_isr _⟩
        obtain ⟨lx50, ux50⟩ := q_isb ex50 (q_fib hB.2.1 hso kso (by decide) rfl)
        obtain ⟨-, l0x50, u0x50, -, -⟩ := tk_tc_n g44 ex50
        refine q_iconst cx dX8_takeWord_18 ?_
        refine W.widen (k := 0) (n := 0) (by decide) (by decide) ?_
        refine vx_ret ?_
        refine q_zret cx hr hlk hB dX8_takeWord_19 (by decide) (by decide) ?_
        exact (Or.inl ⟨rfl, z46, z47, (tk_wd_ok t38 t43), g44⟩)
      · exact absurd c39 (by omega)
    · obtain ⟨rfl, qy33, t51⟩ := h37
      subst qy33
      refine q_ifne (tgt := 14) cx ⟨by decide, by decide⟩ dX8_takeWord_5 (by decide) (fun c52 => ?_) (fun c52 => ?_)
      · exact absurd c52 (by omega)
      · refine q_ald_n cx dX8_takeWord_8 rfl (lv_at hl 0 rfl) ?_
        refine q_iconst cx dX8_takeWord_9 ?_
        refine q_cVi (As := [.int (q_i 1)]) (rest := []) cx hB (fun _ h => h) hN hso kso (by decide) rfl (f_fail l g hN hB.2.1 B so hso kso 1 (by decide) (by decide) ba hba kba tn (by omega) (by omega) ss (by omega) (by omega) hf0 hf1 hr0 htc htb) q_cX8_79 q_dX8_fail (by decide) rfl rfl hl.1 rfl (Nat.le_of_ble_eq_true rfl) dX8_takeWord_10 (fun y54 H locs f53 ry54 h55 hF hB => ?_)
        obtain ⟨qy54, z56, z57⟩ := h55
        have z58 : q_is (q_z f53 so 1) tn := Eq.trans (hF.z hso (by rw [kso]; rfl)) hf0
        have z59 : q_is (q_z f53 so 8) ss := Eq.trans (hF.z hso (by rw [kso]; rfl)) hf1
        have z60 : q_ir (q_r f53 so 0) ba := Eq.trans (hF.r hso (by rw [kso]; rfl)) hr0
        have g61 : tk_tc f53 so B tn := tk_tc_tr htc (hF.z hso (by rw [kso]; rfl)) (hF.z hso (by rw [kso]; rfl)) (hF.z hso (by rw [kso]; rfl)) (hF.j hso (by rw [kso]; rfl)) (hF.z hso (by rw [kso]; rfl))
        have g62 : tk_tb f53 ba B tn := tk_tb_tr htb (fun i9 => hF.z hba (by rw [kba]; rfl))
        subst qy54
        refine W.widen (k := 0) (n := 0) (by decide) (by decide) ?_
        refine vx_ret ?_
        refine q_zret cx hr hlk hB dX8_takeWord_13 (by decide) (by decide) ?_
        exact (Or.inr ⟨rfl, (tk_wd_er t51 z56 z57), g61⟩)
