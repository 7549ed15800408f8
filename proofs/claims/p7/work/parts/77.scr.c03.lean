set_option maxHeartbeats 4000000 in
set_option maxRecDepth 100000 in
theorem f_isWord_14 (l : Launch) (g : q_G) (ad : Nat → Nat) {K : Nat → Nat} {L : List Nat} (hN : L.Nodup) {f : Nat → va_E} (hT : q_Ty g K L f) (hfl : l.stackTraces = false) (B : Nat → Int) (so : Nat) (hso : so ∈ L) (kso : K so = 8) (ba : Nat) (hba : ba ∈ L) (kba : K ba = 142) (tn : Int) (ltn : 0 ≤ tn) (utn : tn ≤ 600) (ss : Int) (lss : 0 ≤ ss) (uss : ss ≤ 600) (hf0 : q_is (q_z f so 1) tn) (hf1 : q_is (q_z f so 8) ss) (hr0 : q_ir (q_r f so 0) ba) (htc : tk_tc f so B tn) (htb : tk_tb f ba B tn) : q_Xt l g ad K L yX8_isWord cX8_isWord 3 (some .boolean) 4 85 0 0 [.ref so, .ref (ad 14)] f [] (q_Pi (fun (z : Int) (f1 : Nat → va_E) => (f = f1 ∧ z = 1 ∧ (tk_isw9 B tn tk_wRepeat ss)) ∨ (f = f1 ∧ z = 0 ∧ (¬ tk_isw9 B tn tk_wRepeat ss)))) (fun (_ : String) (_ : Nat → va_E) => False) := by
  refine q_xofb (by decide +kernel) hN hT (Nat.le_of_ble_eq_true rfl) ?_
  intro p e s m below meth c ls cx hr hlk htab hX hB hl
  have hl : lv_has ls 3 [(0, .ref so), (1, .ref (ad 14))] := hl
  obtain ⟨H, hH⟩ : ∃ H : Heap, H = s.heap := ⟨_, rfl⟩
  obtain ⟨locs, hlocs⟩ : ∃ z : List Loc, z = [] := ⟨_, rfl⟩
  rw [← hH, ← hlocs] at hB
  rw [← hH, ← hlocs]
  refine q_ald_n cx dX8_isWord_0 rfl (lv_at hl 0 rfl) ?_
  obtain ⟨x61, ex61⟩ : ∃ zz, q_is (q_z f so 6) zz := ⟨_, q_isr _⟩
  refine q_gX8_40 cx hB hso kso ex61 dX8_isWord_1 (fun lb62 ub62 => ?_)
  refine q_iconst cx dX8_isWord_4 ?_
  refine q_iceq (tgt := 10) cx ⟨by omega, by omega⟩ ⟨by decide, by decide⟩ dX8_isWord_5 (by decide) (fun c63 => ?_) (fun c63 => ?_)
  · have hk9 : tk_k B tn ss = 1 := (Eq.symm (tk_tc_k htc hf1 ex61)).trans (by omega)
    have hiw9 : tk_isw (tk_w B tn ss) := tk_w_isw lss
    refine q_iconst cx dX8_isWord_10 ?_
    refine lv_istore_n (lv' := [(2, .int (q_i 0)), (0, .ref so), (1, .ref (ad 14))]) cx.1 cx.2.1 dX8_isWord_11 rfl hl (by decide) rfl (fun ls hl => ?_)
    refine q_ild_n cx dX8_isWord_12 rfl (lv_at hl 0 rfl) ?_
    refine q_bipush cx dX8_isWord_13 rfl ?_
    refine q_icge (tgt := 54) cx ⟨by decide, by decide⟩ ⟨by decide, by decide⟩ dX8_isWord_15 (by decide) (fun c64 => ?_) (fun c64 => ?_)
    · exact absurd c64 (by omega)
    · refine q_ald_n cx dX8_isWord_18 rfl (lv_at hl 1 rfl) ?_
      refine q_gX8_56 cx hB hso kso (tk_tc_w htc hf1 hk9) dX8_isWord_19 ?_
      refine q_ild_n cx dX8_isWord_22 rfl (lv_at hl 0 rfl) ?_
      refine q_cSi (As := [.long (tk_cw (tk_w B tn ss)), .int (q_i 0)]) (rest := []) cx hB (fun _ h => h) hN (f_letterOf l g hN hB.2.1 (tk_w B tn ss) (tk_cw (tk_w B tn ss)) 0 (by decide) (by decide) rfl hiw9) q_cX8_63 q_dX8_letterOf (by decide) rfl rfl hl.1 rfl (Nat.le_of_ble_eq_true rfl) dX8_isWord_23 (fun y66 H locs f65 ry66 h67 hF hB => ?_)
      obtain ⟨rfl, t68⟩ := h67
      refine q_ild_n cx dX8_isWord_26 rfl (lv_at hl 0 rfl) ?_
      refine q_ald_n cx dX8_isWord_27 rfl (lv_at hl 2 rfl) ?_
      refine q_cXT (As := []) (rest := [.int (q_i 0), .int (q_i y66)]) cx hX hB (fun _ h => h) (fun _ h _ => h) hN (q_srec hX (by decide) hB) (s_length l g ad hN hB.2.1 14 (by decide)) q_cX8_67 q_dJ0_length_8abf5 (by decide) rfl rfl hl.1 rfl (Nat.le_of_ble_eq_true rfl) dX8_isWord_28 (fun E9 ce9 q9 H locs fx hex hF hB hcell hcv hcl => ?_) (fun v9 H locs f1 h1 hF hB => ?_)
      · exact hex.elim
      obtain ⟨z9, rfl, -, rfl, h9⟩ := h1
      obtain rfl : z9 = 6 := h9.trans (by decide)
      refine W.eq (g2 := F0 m 31 ls [.int (q_i 6), .int (q_i 0), .int (q_i y66)]) rfl ?_
      refine q_icge (tgt := 42) cx ⟨by decide, by decide⟩ ⟨by decide, by decide⟩ dX8_isWord_31 (by decide) (fun c69 => ?_) (fun c69 => ?_)
      · exact absurd c69 (by omega)
      · refine q_ald_n cx dX8_isWord_34 rfl (lv_at hl 2 rfl) ?_
        refine q_ild_n cx dX8_isWord_35 rfl (lv_at hl 0 rfl) ?_
        refine q_cXT (As := [.int (q_i 0)]) (rest := [.int (q_i y66)]) cx hX hB (fun _ h => h) (fun _ h _ => h) hN (q_srec hX (by decide) hB) (s_charAt l g ad hN hB.2.1 14 (by decide) 0 (by decide) (by decide)) q_cX8_72 q_dJ0_charAt_5068e (by decide) rfl rfl hl.1 rfl (Nat.le_of_ble_eq_true rfl) dX8_isWord_36 (fun E9 ce9 q9 H locs fx hex hF hB hcell hcv hcl => ?_) (fun v9 H locs f1 h1 hF hB => ?_)
        · exact hex.elim
        obtain ⟨z9, rfl, -, rfl, h9⟩ := h1
        obtain rfl : z9 = 114 := h9.trans (by decide)
        refine W.eq (g2 := F0 m 39 ls [.int (q_i 114), .int (q_i y66)]) rfl ?_
        refine lv_goto (tgt := 43) cx.1 cx.2.1 dX8_isWord_39 (by decide) ?_
        refine q_iceq (tgt := 48) cx ⟨by omega, by omega⟩ ⟨by decide, by decide⟩ dX8_isWord_43 (by decide) (fun c70 => ?_) (fun c70 => ?_)
        · refine q_iinc (lv' := [(2, .int (q_i (0 + 1))), (0, .ref so), (1, .ref (ad 14))]) cx dX8_isWord_48 hl (k := 0) rfl (by decide) rfl (fun ls hl => ?_)
          refine lv_goto (tgt := 12) cx.1 cx.2.1 dX8_isWord_51 (by decide) ?_
          refine q_ild_n cx dX8_isWord_12 rfl (lv_at hl 0 rfl) ?_
          refine q_bipush cx dX8_isWord_13 rfl ?_
          refine q_icge (tgt := 54) cx ⟨by decide, by decide⟩ ⟨by decide, by decide⟩ dX8_isWord_15 (by decide) (fun c71 => ?_) (fun c71 => ?_)
          · exact absurd c71 (by omega)
          · refine q_ald_n cx dX8_isWord_18 rfl (lv_at hl 1 rfl) ?_
            refine q_gX8_56 cx hB hso kso (tk_tc_w htc hf1 hk9) dX8_isWord_19 ?_
            refine q_ild_n cx dX8_isWord_22 rfl (lv_at hl 0 rfl) ?_
            refine q_cSi (As := [.long (tk_cw (tk_w B tn ss)), .int (q_i (0 + 1))]) (rest := []) cx hB (fun _ h => h) hN (f_letterOf l g hN hB.2.1 (tk_w B tn ss) (tk_cw (tk_w B tn ss)) (0 + 1) (by decide) (by decide) rfl hiw9) q_cX8_63 q_dX8_letterOf (by decide) rfl rfl hl.1 rfl (Nat.le_of_ble_eq_true rfl) dX8_isWord_23 (fun y73 H locs f72 ry73 h74 hF hB => ?_)
            obtain ⟨rfl, t75⟩ := h74
            refine q_ild_n cx dX8_isWord_26 rfl (lv_at hl 0 rfl) ?_
            refine q_ald_n cx dX8_isWord_27 rfl (lv_at hl 2 rfl) ?_
            refine q_cXT (As := []) (rest := [.int (q_i (0 + 1)), .int (q_i y73)]) cx hX hB (fun _ h => h) (fun _ h _ => h) hN (q_srec hX (by decide) hB) (s_length l g ad hN hB.2.1 14 (by decide)) q_cX8_67 q_dJ0_length_8abf5 (by decide) rfl rfl hl.1 rfl (Nat.le_of_ble_eq_true rfl) dX8_isWord_28 (fun E9 ce9 q9 H locs fx hex hF hB hcell hcv hcl => ?_) (fun v9 H locs f1 h1 hF hB => ?_)
            · exact hex.elim
            obtain ⟨z9, rfl, -, rfl, h9⟩ := h1
            obtain rfl : z9 = 6 := h9.trans (by decide)
            refine W.eq (g2 := F0 m 31 ls [.int (q_i 6), .int (q_i (0 + 1)), .int (q_i y73)]) rfl ?_
            refine q_icge (tgt := 42) cx ⟨by decide, by decide⟩ ⟨by decide, by decide⟩ dX8_isWord_31 (by decide) (fun c76 => ?_) (fun c76 => ?_)
            · exact absurd c76 (by omega)
            · refine q_ald_n cx dX8_isWord_34 rfl (lv_at hl 2 rfl) ?_
              refine q_ild_n cx dX8_isWord_35 rfl (lv_at hl 0 rfl) ?_
              refine q_cXT (As := [.int (q_i (0 + 1))]) (rest := [.int (q_i y73)]) cx hX hB (fun _ h => h) (fun _ h _ => h) hN (q_srec hX (by decide) hB) (s_charAt l g ad hN hB.2.1 14 (by decide) 1 (by decide) (by decide)) q_cX8_72 q_dJ0_charAt_5068e (by decide) rfl rfl hl.1 rfl (Nat.le_of_ble_eq_true rfl) dX8_isWord_36 (fun E9 ce9 q9 H locs fx hex hF hB hcell hcv hcl => ?_) (fun v9 H locs f1 h1 hF hB => ?_)
              · exact hex.elim
              obtain ⟨z9, rfl, -, rfl, h9⟩ := h1
              obtain rfl : z9 = 101 := h9.trans (by decide)
              refine W.eq (g2 := F0 m 39 ls [.int (q_i 101), .int (q_i y73)]) rfl ?_
              refine lv_goto (tgt := 43) cx.1 cx.2.1 dX8_isWord_39 (by decide) ?_
              refine q_iceq (tgt := 48) cx ⟨by omega, by omega⟩ ⟨by decide, by decide⟩ dX8_isWord_43 (by decide) (fun c77 => ?_) (fun c77 => ?_)
              · refine q_iinc (lv' := [(2, .int (q_i ((0 + 1) + 1))), (0, .ref so), (1, .ref (ad 14))]) cx dX8_isWord_48 hl (k := 0) rfl (by decide) rfl (fun ls hl => ?_)
                refine lv_goto (tgt := 12) cx.1 cx.2.1 dX8_isWord_51 (by decide) ?_
                refine q_ild_n cx dX8_isWord_12 rfl (lv_at hl 0 rfl) ?_
                refine q_bipush cx dX8_isWord_13 rfl ?_
                refine q_icge (tgt := 54) cx ⟨by decide, by decide⟩ ⟨by decide, by decide⟩ dX8_isWord_15 (by decide) (fun c78 => ?_) (fun c78 => ?_)
                · exact absurd c78 (by omega)
                · refine q_ald_n cx dX8_isWord_18 rfl (lv_at hl 1 rfl) ?_
                  refine q_gX8_56 cx hB hso kso (tk_tc_w htc hf1 hk9) dX8_isWord_19 ?_
                  refine q_ild_n cx dX8_isWord_22 rfl (lv_at hl 0 rfl) ?_
                  refine q_cSi (As := [.long (tk_cw (tk_w B tn ss)), .int (q_i ((0 + 1) + 1))]) (rest := []) cx hB (fun _ h => h) hN (f_letterOf l g hN hB.2.1 (tk_w B tn ss) (tk_cw (tk_w B tn ss)) ((0 + 1) + 1) (by decide) (by decide) rfl hiw9) q_cX8_63 q_dX8_letterOf (by decide) rfl rfl hl.1 rfl (Nat.le_of_ble_eq_true rfl) dX8_isWord_23 (fun y80 H locs f79 ry80 h81 hF hB => ?_)
                  obtain ⟨rfl, t82⟩ := h81
                  refine q_ild_n cx dX8_isWord_26 rfl (lv_at hl 0 rfl) ?_
                  refine q_ald_n cx dX8_isWord_27 rfl (lv_at hl 2 rfl) ?_
                  refine q_cXT (As := []) (rest := [.int (q_i ((0 + 1) + 1)), .int (q_i y80)]) cx hX hB (fun _ h => h) (fun _ h _ => h) hN (q_srec hX (by decide) hB) (s_length l g ad hN hB.2.1 14 (by decide)) q_cX8_67 q_dJ0_length_8abf5 (by decide) rfl rfl hl.1 rfl (Nat.le_of_ble_eq_true rfl) dX8_isWord_28 (fun E9 ce9 q9 H locs fx hex hF hB hcell hcv hcl => ?_) (fun v9 H locs f1 h1 hF hB => ?_)
                  · exact hex.elim
                  obtain ⟨z9, rfl, -, rfl, h9⟩ := h1
                  obtain rfl : z9 = 6 := h9.trans (by decide)
                  refine W.eq (g2 := F0 m 31 ls [.int (q_i 6), .int (q_i ((0 + 1) + 1)), .int (q_i y80)]) rfl ?_
                  refine q_icge (tgt := 42) cx ⟨by decide, by decide⟩ ⟨by decide, by decide⟩ dX8_isWord_31 (by decide) (fun c83 => ?_) (fun c83 => ?_)
                  · exact absurd c83 (by omega)
                  · refine q_ald_n cx dX8_isWord_34 rfl (lv_at hl 2 rfl) ?_
                    refine q_ild_n cx dX8_isWord_35 rfl (lv_at hl 0 rfl) ?_
                    refine q_cXT (As := [.int (q_i ((0 + 1) + 1))]) (rest := [.int (q_i y80)]) cx hX hB (fun _ h => h) (fun _ h _ => h) hN (q_srec hX (by decide) hB) (s_charAt l g ad hN hB.2.1 14 (by decide) 2 (by decide) (by decide)) q_cX8_72 q_dJ0_charAt_5068e (by decide) rfl rfl hl.1 rfl (Nat.le_of_ble_eq_true rfl) dX8_isWord_36 (fun E9 ce9 q9 H locs fx hex hF hB hcell hcv hcl => ?_) (fun v9 H locs f1 h1 hF hB => ?_)
                    · exact hex.elim
                    obtain ⟨z9, rfl, -, rfl, h9⟩ := h1
                    obtain rfl : z9 = 112 := h9.trans (by decide)
                    refine W.eq (g2 := F0 m 39 ls [.int (q_i 112), .int (q_i y80)]) rfl ?_
                    refine lv_goto (tgt := 43) cx.1 cx.2.1 dX8_isWord_39 (by decide) ?_
                    refine q_iceq (tgt := 48) cx ⟨by omega, by omega⟩ ⟨by decide, by decide⟩ dX8_isWord_43 (by decide) (fun c84 => ?_) (fun c84 => ?_)
                    · refine q_iinc (lv' := [(2, .int (q_i (((0 + 1) + 1) + 1))), (0, .ref so), (1, .ref (ad 14))]) cx dX8_isWord_48 hl (k := 0) rfl (by decide) rfl (fun ls hl => ?_)
                      refine lv_goto (tgt := 12) cx.1 cx.2.1 dX8_isWord_51 (by decide) ?_
                      refine q_ild_n cx dX8_isWord_12 rfl (lv_at hl 0 rfl) ?_
                      refine q_bipush cx dX8_isWord_13 rfl ?_
                      refine q_icge (tgt := 54) cx ⟨by decide, by decide⟩ ⟨by decide, by decide⟩ dX8_isWord_15 (by decide) (fun c85 => ?_) (fun c85 => ?_)
                      · exact absurd c85 (by omega)
                      · refine q_ald_n cx dX8_isWord_18 rfl (lv_at hl 1 rfl) ?_
                        refine q_gX8_56 cx hB hso kso (tk_tc_w htc hf1 hk9) dX8_isWord_19 ?_
                        refine q_ild_n cx dX8_isWord_22 rfl (lv_at hl 0 rfl) ?_
                        refine q_cSi (As := [.long (tk_cw (tk_w B tn ss)), .int (q_i (((0 + 1) + 1) + 1))]) (rest := []) cx hB (fun _ h => h) hN (f_letterOf l g hN hB.2.1 (tk_w B tn ss) (tk_cw (tk_w B tn ss)) (((0 + 1) + 1) + 1) (by decide) (by decide) rfl hiw9) q_cX8_63 q_dX8_letterOf (by decide) rfl rfl hl.1 rfl (Nat.le_of_ble_eq_true rfl) dX8_isWord_23 (fun y87 H locs f86 ry87 h88 hF hB => ?_)
                        obtain ⟨rfl, t89⟩ := h88
                        refine q_ild_n cx dX8_isWord_26 rfl (lv_at hl 0 rfl) ?_
                        refine q_ald_n cx dX8_isWord_27 rfl (lv_at hl 2 rfl) ?_
                        refine q_cXT (As := []) (rest := [.int (q_i (((0 + 1) + 1) + 1)), .int (q_i y87)]) cx hX hB (fun _ h => h) (fun _ h _ => h) hN (q_srec hX (by decide) hB) (s_length l g ad hN hB.2.1 14 (by decide)) q_cX8_67 q_dJ0_length_8abf5 (by decide) rfl rfl hl.1 rfl (Nat.le_of_ble_eq_true rfl) dX8_isWord_28 (fun E9 ce9 q9 H locs fx hex hF hB hcell hcv hcl => ?_) (fun v9 H locs f1 h1 hF hB => ?_)
                        · exact hex.elim
                        obtain ⟨z9, rfl, -, rfl, h9⟩ := h1
                        obtain rfl : z9 = 6 := h9.trans (by decide)
                        refine W.eq (g2 := F0 m 31 ls [.int (q_i 6), .int (q_i (((0 + 1) + 1) + 1)), .int (q_i y87)]) rfl ?_
                        refine q_icge (tgt := 42) cx ⟨by decide, by decide⟩ ⟨by decide, by decide⟩ dX8_isWord_31 (by decide) (fun c90 => ?_) (fun c90 => ?_)
                        · exact absurd c90 (by omega)
                        · refine q_ald_n cx dX8_isWord_34 rfl (lv_at hl 2 rfl) ?_
                          refine q_ild_n cx dX8_isWord_35 rfl (lv_at hl 0 rfl) ?_
                          refine q_cXT (As := [.int (q_i (((0 + 1) + 1) + 1))]) (rest := [.int (q_i y87)]) cx hX hB (fun _ h => h) (fun _ h _ => h) hN (q_srec hX (by decide) hB) (s_charAt l g ad hN hB.2.1 14 (by decide) 3 (by decide) (by decide)) q_cX8_72 q_dJ0_charAt_5068e (by decide) rfl rfl hl.1 rfl (Nat.le_of_ble_eq_true rfl) dX8_isWord_36 (fun E9 ce9 q9 H locs fx hex hF hB hcell hcv hcl => ?_) (fun v9 H locs f1 h1 hF hB => ?_)
                          · exact hex.elim
                          obtain ⟨z9, rfl, -, rfl, h9⟩ := h1
                          obtain rfl : z9 = 101 := h9.trans (by decide)
                          refine W.eq (g2 := F0 m 39 ls [.int (q_i 101), .int (q_i y87)]) rfl ?_
                          refine lv_goto (tgt := 43) cx.1 cx.2.1 dX8_isWord_39 (by decide) ?_
                          refine q_iceq (tgt := 48) cx ⟨by omega, by omega⟩ ⟨by decide, by decide⟩ dX8_isWord_43 (by decide) (fun c91 => ?_) (fun c91 => ?_)
                          · refine q_iinc (lv' := [(2, .int (q_i ((((0 + 1) + 1) + 1) + 1))), (0, .ref so), (1, .ref (ad 14))]) cx dX8_isWord_48 hl (k := 0) rfl (by decide) rfl (fun ls hl => ?_)
                            refine lv_goto (tgt := 12) cx.1 cx.2.1 dX8_isWord_51 (by decide) ?_
                            refine q_ild_n cx dX8_isWord_12 rfl (lv_at hl 0 rfl) ?_
                            refine q_bipush cx dX8_isWord_13 rfl ?_
                            refine q_icge (tgt := 54) cx ⟨by decide, by decide⟩ ⟨by decide, by decide⟩ dX8_isWord_15 (by decide) (fun c92 => ?_) (fun c92 => ?_)
                            · exact absurd c92 (by omega)
                            · refine q_ald_n cx dX8_isWord_18 rfl (lv_at hl 1 rfl) ?_
                              refine q_gX8_56 cx hB hso kso (tk_tc_w htc hf1 hk9) dX8_isWord_19 ?_
                              refine q_ild_n cx dX8_isWord_22 rfl (lv_at hl 0 rfl) ?_
                              refine q_cSi (As := [.long (tk_cw (tk_w B tn ss)), .int (q_i ((((0 + 1) + 1) + 1) + 1))]) (rest := []) cx hB (fun _ h => h) hN (f_letterOf l g hN hB.2.1 (tk_w B tn ss) (tk_cw (tk_w B tn ss)) ((((0 + 1) + 1) + 1) + 1) (by decide) (by decide) rfl hiw9) q_cX8_63 q_dX8_letterOf (by decide) rfl rfl hl.1 rfl (Nat.le_of_ble_eq_true rfl) dX8_isWord_23 (fun y94 H locs f93 ry94 h95 hF hB => ?_)
                              obtain ⟨rfl, t96⟩ := h95
                              refine q_ild_n cx dX8_isWord_26 rfl (lv_at hl 0 rfl) ?_
                              refine q_ald_n cx dX8_isWord_27 rfl (lv_at hl 2 rfl) ?_
                              refine q_cXT (As := []) (rest := [.int (q_i ((((0 + 1) + 1) + 1) + 1)), .int (q_i y94)]) cx hX hB (fun _ h => h) (fun _ h _ => h) hN (q_srec hX (by decide) hB) (s_length l g ad hN hB.2.1 14 (by decide)) q_cX8_67 q_dJ0_length_8abf5 (by decide) rfl rfl hl.1 rfl (Nat.le_of_ble_eq_true rfl) dX8_isWord_28 (fun E9 ce9 q9 H locs fx hex hF hB hcell hcv hcl => ?_) (fun v9 H locs f1 h1 hF hB => ?_)
                              · exact hex.elim
                              obtain ⟨z9, rfl, -, rfl, h9⟩ := h1
                              obtain rfl : z9 = 6 := h9.trans (by decide)
                              refine W.eq (g2 := F0 m 31 ls [.int (q_i 6), .int (q_i ((((0 + 1) + 1) + 1) + 1)), .int (q_i y94)]) rfl ?_
                              refine q_icge (tgt := 42) cx ⟨by decide, by decide⟩ ⟨by decide, by decide⟩ dX8_isWord_31 (by decide) (fun c97 => ?_) (fun c97 => ?_)
                              · exact absurd c97 (by omega)
                              · refine q_ald_n cx dX8_isWord_34 rfl (lv_at hl 2 rfl) ?_
                                refine q_ild_n cx dX8_isWord_35 rfl (lv_at hl 0 rfl) ?_
                                refine q_cXT (As := [.int (q_i ((((0 + 1) + 1) + 1) + 1))]) (rest := [.int (q_i y94)]) cx hX hB (fun _ h => h) (fun _ h _ => h) hN (q_srec hX (by decide) hB) (s_charAt l g ad hN hB.2.1 14 (by decide) 4 (by decide) (by decide)) q_cX8_72 q_dJ0_charAt_5068e (by decide) rfl rfl hl.1 rfl (Nat.le_of_ble_eq_true rfl) dX8_isWord_36 (fun E9 ce9 q9 H locs fx hex hF hB hcell hcv hcl => ?_) (fun v9 H locs f1 h1 hF hB => ?_)
                                · exact hex.elim
                                obtain ⟨z9, rfl, -, rfl, h9⟩ := h1
                                obtain rfl : z9 = 97 := h9.trans (by decide)
                                refine W.eq (g2 := F0 m 39 ls [.int (q_i 97), .int (q_i y94)]) rfl ?_
                                refine lv_goto (tgt := 43) cx.1 cx.2.1 dX8_isWord_39 (by decide) ?_
                                refine q_iceq (tgt := 48) cx ⟨by omega, by omega⟩ ⟨by decide, by decide⟩ dX8_isWord_43 (by decide) (fun c98 => ?_) (fun c98 => ?_)
                                · refine q_iinc (lv' := [(2, .int (q_i (((((0 + 1) + 1) + 1) + 1) + 1))), (0, .ref so), (1, .ref (ad 14))]) cx dX8_isWord_48 hl (k := 0) rfl (by decide) rfl (fun ls hl => ?_)
                                  refine lv_goto (tgt := 12) cx.1 cx.2.1 dX8_isWord_51 (by decide) ?_
                                  refine q_ild_n cx dX8_isWord_12 rfl (lv_at hl 0 rfl) ?_
                                  refine q_bipush cx dX8_isWord_13 rfl ?_
                                  refine q_icge (tgt := 54) cx ⟨by decide, by decide⟩ ⟨by decide, by decide⟩ dX8_isWord_15 (by decide) (fun c99 => ?_) (fun c99 => ?_)
                                  · exact absurd c99 (by omega)
                                  · refine q_ald_n cx dX8_isWord_18 rfl (lv_at hl 1 rfl) ?_
                                    refine q_gX8_56 cx hB hso kso (tk_tc_w htc hf1 hk9) dX8_isWord_19 ?_
                                    refine q_ild_n cx dX8_isWord_22 rfl (lv_at hl 0 rfl) ?_
                                    refine q_cSi (As := [.long (tk_cw (tk_w B tn ss)), .int (q_i (((((0 + 1) + 1) + 1) + 1) + 1))]) (rest := []) cx hB (fun _ h => h) hN (f_letterOf l g hN hB.2.1 (tk_w B tn ss) (tk_cw (tk_w B tn ss)) (((((0 + 1) + 1) + 1) + 1) + 1) (by decide) (by decide) rfl hiw9) q_cX8_63 q_dX8_letterOf (by decide) rfl rfl hl.1 rfl (Nat.le_of_ble_eq_true rfl) dX8_isWord_23 (fun y101 H locs f100 ry101 h102 hF hB => ?_)
                                    obtain ⟨rfl, t103⟩ := h102
                                    refine q_ild_n cx dX8_isWord_26 rfl (lv_at hl 0 rfl) ?_
                                    refine q_ald_n cx dX8_isWord_27 rfl (lv_at hl 2 rfl) ?_
                                    refine q_cXT (As := []) (rest := [.int (q_i (((((0 + 1) + 1) + 1) + 1) + 1)), .int (q_i y101)]) cx hX hB (fun _ h => h) (fun _ h _ => h) hN (q_srec hX (by decide) hB) (s_length l g ad hN hB.2.1 14 (by decide)) q_cX8_67 q_dJ0_length_8abf5 (by decide) rfl rfl hl.1 rfl (Nat.le_of_ble_eq_true rfl) dX8_isWord_28 (fun E9 ce9 q9 H locs fx hex hF hB hcell hcv hcl => ?_) (fun v9 H locs f1 h1 hF hB => ?_)
                                    · exact hex.elim
                                    obtain ⟨z9, rfl, -, rfl, h9⟩ := h1
                                    obtain rfl : z9 = 6 := h9.trans (by decide)
                                    refine W.eq (g2 := F0 m 31 ls [.int (q_i 6), .int (q_i (((((0 + 1) + 1) + 1) + 1) + 1)), .int (q_i y101)]) rfl ?_
                                    refine q_icge (tgt := 42) cx ⟨by decide, by decide⟩ ⟨by decide, by decide⟩ dX8_isWord_31 (by decide) (fun c104 => ?_) (fun c104 => ?_)
                                    · exact absurd c104 (by omega)
                                    · refine q_ald_n cx dX8_isWord_34 rfl (lv_at hl 2 rfl) ?_
                                      refine q_ild_n cx dX8_isWord_35 rfl (lv_at hl 0 rfl) ?_
                                      refine q_cXT (As := [.int (q_i (((((0 + 1) + 1) + 1) + 1) + 1))]) (rest := [.int (q_i y101)]) cx hX hB (fun _ h => h) (fun _ h _ => h) hN (q_srec hX (by decide) hB) (s_charAt l g ad hN hB.2.1 14 (by decide) 5 (by decide) (by decide)) q_cX8_72 q_dJ0_charAt_5068e (by decide) rfl rfl hl.1 rfl (Nat.le_of_ble_eq_true rfl) dX8_isWord_36 (fun E9 ce9 q9 H locs fx hex hF hB hcell hcv hcl => ?_) (fun v9 H locs f1 h1 hF hB => ?_)
                                      · exact hex.elim
                                      obtain ⟨z9, rfl, -, rfl, h9⟩ := h1
                                      obtain rfl : z9 = 116 := h9.trans (by decide)
                                      refine W.eq (g2 := F0 m 39 ls [.int (q_i 116), .int (q_i y101)]) rfl ?_
                                      refine lv_goto (tgt := 43) cx.1 cx.2.1 dX8_isWord_39 (by decide) ?_
                                      refine q_iceq (tgt := 48) cx ⟨by omega, by omega⟩ ⟨by decide, by decide⟩ dX8_isWord_43 (by decide) (fun c105 => ?_) (fun c105 => ?_)
                                      · refine q_iinc (lv' := [(2, .int (q_i ((((((0 + 1) + 1) + 1) + 1) + 1) + 1))), (0, .ref so), (1, .ref (ad 14))]) cx dX8_isWord_48 hl (k := 0) rfl (by decide) rfl (fun ls hl => ?_)
                                        refine lv_goto (tgt := 12) cx.1 cx.2.1 dX8_isWord_51 (by decide) ?_
                                        refine q_ild_n cx dX8_isWord_12 rfl (lv_at hl 0 rfl) ?_
                                        refine q_bipush cx dX8_isWord_13 rfl ?_
                                        refine q_icge (tgt := 54) cx ⟨by decide, by decide⟩ ⟨by decide, by decide⟩ dX8_isWord_15 (by decide) (fun c106 => ?_) (fun c106 => ?_)
                                        · exact absurd c106 (by omega)
                                        · refine q_ald_n cx dX8_isWord_18 rfl (lv_at hl 1 rfl) ?_
                                          refine q_gX8_56 cx hB hso kso (tk_tc_w htc hf1 hk9) dX8_isWord_19 ?_
                                          refine q_ild_n cx dX8_isWord_22 rfl (lv_at hl 0 rfl) ?_
                                          refine q_cSi (As := [.long (tk_cw (tk_w B tn ss)), .int (q_i ((((((0 + 1) + 1) + 1) + 1) + 1) + 1))]) (rest := []) cx hB (fun _ h => h) hN (f_letterOf l g hN hB.2.1 (tk_w B tn ss) (tk_cw (tk_w B tn ss)) ((((((0 + 1) + 1) + 1) + 1) + 1) + 1) (by decide) (by decide) rfl hiw9) q_cX8_63 q_dX8_letterOf (by decide) rfl rfl hl.1 rfl (Nat.le_of_ble_eq_true rfl) dX8_isWord_23 (fun y108 H locs f107 ry108 h109 hF hB => ?_)
                                          obtain ⟨rfl, t110⟩ := h109
                                          refine q_ild_n cx dX8_isWord_26 rfl (lv_at hl 0 rfl) ?_
                                          refine q_ald_n cx dX8_isWord_27 rfl (lv_at hl 2 rfl) ?_
                                          refine q_cXT (As := []) (rest := [.int (q_i ((((((0 + 1) + 1) + 1) + 1) + 1) + 1)), .int (q_i y108)]) cx hX hB (fun _ h => h) (fun _ h _ => h) hN (q_srec hX (by decide) hB) (s_length l g ad hN hB.2.1 14 (by decide)) q_cX8_67 q_dJ0_length_8abf5 (by decide) rfl rfl hl.1 rfl (Nat.le_of_ble_eq_true rfl) dX8_isWord_28 (fun E9 ce9 q9 H locs fx hex hF hB hcell hcv hcl => ?_) (fun v9 H locs f1 h1 hF hB => ?_)
                                          · exact hex.elim
                                          obtain ⟨z9, rfl, -, rfl, h9⟩ := h1
                                          obtain rfl : z9 = 6 := h9.trans (by decide)
                                          refine W.eq (g2 := F0 m 31 ls [.int (q_i 6), .int (q_i ((((((0 + 1) + 1) + 1) + 1) + 1) + 1)), .int (q_i y108)]) rfl ?_
                                          refine q_icge (tgt := 42) cx ⟨by decide, by decide⟩ ⟨by decide, by decide⟩ dX8_isWord_31 (by decide) (fun c111 => ?_) (fun c111 => ?_)
                                          · refine q_iconst cx dX8_isWord_42 ?_
                                            refine q_iceq (tgt := 48) cx ⟨by omega, by omega⟩ ⟨by decide, by decide⟩ dX8_isWord_43 (by decide) (fun c112 => ?_) (fun c112 => ?_)
                                            · refine q_iinc (lv' := [(2, .int (q_i (((((((0 + 1) + 1) + 1) + 1) + 1) + 1) + 1))), (0, .ref so), (1, .ref (ad 14))]) cx dX8_isWord_48 hl (k := 0) rfl (by decide) rfl (fun ls hl => ?_)
                                              refine lv_goto (tgt := 12) cx.1 cx.2.1 dX8_isWord_51 (by decide) ?_
                                              refine q_ild_n cx dX8_isWord_12 rfl (lv_at hl 0 rfl) ?_
                                              refine q_bipush cx dX8_isWord_13 rfl ?_
                                              refine q_icge (tgt := 54) cx ⟨by decide, by decide⟩ ⟨by decide, by decide⟩ dX8_isWord_15 (by decide) (fun c113 => ?_) (fun c113 => ?_)
                                              · exact absurd c113 (by omega)
                                              · refine q_ald_n cx dX8_isWord_18 rfl (lv_at hl 1 rfl) ?_
                                                refine q_gX8_56 cx hB hso kso (tk_tc_w htc hf1 hk9) dX8_isWord_19 ?_
                                                refine q_ild_n cx dX8_isWord_22 rfl (lv_at hl 0 rfl) ?_
                                                refine q_cSi (As := [.long (tk_cw (tk_w B tn ss)), .int (q_i (((((((0 + 1) + 1) + 1) + 1) + 1) + 1) + 1))]) (rest := []) cx hB (fun _ h => h) hN (f_letterOf l g hN hB.2.1 (tk_w B tn ss) (tk_cw (tk_w B tn ss)) (((((((0 + 1) + 1) + 1) + 1) + 1) + 1) + 1) (by decide) (by decide) rfl hiw9) q_cX8_63 q_dX8_letterOf (by decide) rfl rfl hl.1 rfl (Nat.le_of_ble_eq_true rfl) dX8_isWord_23 (fun y115 H locs f114 ry115 h116 hF hB => ?_)
                                                obtain ⟨rfl, t117⟩ := h116
                                                refine q_ild_n cx dX8_isWord_26 rfl (lv_at hl 0 rfl) ?_
                                                refine q_ald_n cx dX8_isWord_27 rfl (lv_at hl 2 rfl) ?_
                                                refine q_cXT (As := []) (rest := [.int (q_i (((((((0 + 1) + 1) + 1) + 1) + 1) + 1) + 1)), .int (q_i y115)]) cx hX hB (fun _ h => h) (fun _ h _ => h) hN (q_srec hX (by decide) hB) (s_length l g ad hN hB.2.1 14 (by decide)) q_cX8_67 q_dJ0_length_8abf5 (by decide) rfl rfl hl.1 rfl (Nat.le_of_ble_eq_true rfl) dX8_isWord_28 (fun E9 ce9 q9 H locs fx hex hF hB hcell hcv hcl => ?_) (fun v9 H locs f1 h1 hF hB => ?_)
                                                · exact hex.elim
                                                obtain ⟨z9, rfl, -, rfl, h9⟩ := h1
                                                obtain rfl : z9 = 6 := h9.trans (by decide)
                                                refine W.eq (g2 := F0 m 31 ls [.int (q_i 6), .int (q_i (((((((0 + 1) + 1) + 1) + 1) + 1) + 1) + 1)), .int (q_i y115)]) rfl ?_
                                                refine q_icge (tgt := 42) cx ⟨by decide, by decide⟩ ⟨by decide, by decide⟩ dX8_isWord_31 (by decide) (fun c118 => ?_) (fun c118 => ?_)
                                                · refine q_iconst cx dX8_isWord_42 ?_
                                                  refine q_iceq (tgt := 48) cx ⟨by omega, by omega⟩ ⟨by decide, by decide⟩ dX8_isWord_43 (by decide) (fun c119 => ?_) (fun c119 => ?_)
                                                  · refine q_iinc (lv' := [(2, .int (q_i ((((((((0 + 1) + 1) + 1) + 1) + 1) + 1) + 1) + 1))), (0, .ref so), (1, .ref (ad 14))]) cx dX8_isWord_48 hl (k := 0) rfl (by decide) rfl (fun ls hl => ?_)
                                                    refine lv_goto (tgt := 12) cx.1 cx.2.1 dX8_isWord_51 (by decide) ?_
                                                    refine q_ild_n cx dX8_isWord_12 rfl (lv_at hl 0 rfl) ?_
                                                    refine q_bipush cx dX8_isWord_13 rfl ?_
                                                    refine q_icge (tgt := 54) cx ⟨by decide, by decide⟩ ⟨by decide, by decide⟩ dX8_isWord_15 (by decide) (fun c120 => ?_) (fun c120 => ?_)
                                                    · refine q_iconst cx dX8_isWord_54 ?_
                                                      refine W.widen (k := 0) (n := 0) (by decide) (by decide) ?_
                                                      refine vx_ret ?_
                                                      refine q_zret cx hr hlk hB dX8_isWord_55 (by decide) (by decide) ?_
                                                      exact (Or.inl ⟨rfl, rfl, ⟨hk9, tk_is8 hiw9 (by unfold tk_isw tk_wRepeat; decide) ((t68).symm.trans ((by omega : y66 = 114).trans (rfl : (114 : Int) = tk_wRepeat.getD 0 0))) ((t75).symm.trans ((by omega : y73 = 101).trans (rfl : (101 : Int) = tk_wRepeat.getD 1 0))) ((t82).symm.trans ((by omega : y80 = 112).trans (rfl : (112 : Int) = tk_wRepeat.getD 2 0))) ((t89).symm.trans ((by omega : y87 = 101).trans (rfl : (101 : Int) = tk_wRepeat.getD 3 0))) ((t96).symm.trans ((by omega : y94 = 97).trans (rfl : (97 : Int) = tk_wRepeat.getD 4 0))) ((t103).symm.trans ((by omega : y101 = 116).trans (rfl : (116 : Int) = tk_wRepeat.getD 5 0))) ((t110).symm.trans ((by omega : y108 = 0).trans (rfl : (0 : Int) = tk_wRepeat.getD 6 0))) ((t117).symm.trans ((by omega : y115 = 0).trans (rfl : (0 : Int) = tk_wRepeat.getD 7 0)))⟩⟩)
                                                    · exact absurd c120 (by omega)
                                                  · refine q_iconst cx dX8_isWord_46 ?_
                                                    refine W.widen (k := 0) (n := 0) (by decide) (by decide) ?_
                                                    refine vx_ret ?_
                                                    refine q_zret cx hr hlk hB dX8_isWord_47 (by decide) (by decide) ?_
                                                    exact (Or.inr ⟨rfl, rfl, (fun h9 => absurd ((t117).trans ((congrArg (fun l9 => List.getD l9 7 0) h9.2).trans (show tk_wRepeat.getD 7 0 = (0 : Int) from rfl))) (by omega))⟩)
                                                · exact absurd c118 (by omega)
                                            · refine q_iconst cx dX8_isWord_46 ?_
                                              refine W.widen (k := 0) (n := 0) (by decide) (by decide) ?_
                                              refine vx_ret ?_
                                              refine q_zret cx hr hlk hB dX8_isWord_47 (by decide) (by decide) ?_
                                              exact (Or.inr ⟨rfl, rfl, (fun h9 => absurd ((t110).trans ((congrArg (fun l9 => List.getD l9 6 0) h9.2).trans (show tk_wRepeat.getD 6 0 = (0 : Int) from rfl))) (by omega))⟩)
                                          · exact absurd c111 (by omega)
                                      · refine q_iconst cx dX8_isWord_46 ?_
                                        refine W.widen (k := 0) (n := 0) (by decide) (by decide) ?_
                                        refine vx_ret ?_
                                        refine q_zret cx hr hlk hB dX8_isWord_47 (by decide) (by decide) ?_
                                        exact (Or.inr ⟨rfl, rfl, (fun h9 => absurd ((t103).trans ((congrArg (fun l9 => List.getD l9 5 0) h9.2).trans (show tk_wRepeat.getD 5 0 = (116 : Int) from rfl))) (by omega))⟩)
                                · refine q_iconst cx dX8_isWord_46 ?_
                                  refine W.widen (k := 0) (n := 0) (by decide) (by decide) ?_
                                  refine vx_ret ?_
                                  refine q_zret cx hr hlk hB dX8_isWord_47 (by decide) (by decide) ?_
                                  exact (Or.inr ⟨rfl, rfl, (fun h9 => absurd ((t96).trans ((congrArg (fun l9 => List.getD l9 4 0) h9.2).trans (show tk_wRepeat.getD 4 0 = (97 : Int) from rfl))) (by omega))⟩)
                          · refine q_iconst cx dX8_isWord_46 ?_
                            refine W.widen (k := 0) (n := 0) (by decide) (by decide) ?_
                            refine vx_ret ?_
                            refine q_zret cx hr hlk hB dX8_isWord_47 (by decide) (by decide) ?_
                            exact (Or.inr ⟨rfl, rfl, (fun h9 => absurd ((t89).trans ((congrArg (fun l9 => List.getD l9 3 0) h9.2).trans (show tk_wRepeat.getD 3 0 = (101 : Int) from rfl))) (by omega))⟩)
                    · refine q_iconst cx dX8_isWord_46 ?_
                      refine W.widen (k := 0) (n := 0) (by decide) (by decide) ?_
                      refine vx_ret ?_
                      refine q_zret cx hr hlk hB dX8_isWord_47 (by decide) (by decide) ?_
                      exact (Or.inr ⟨rfl, rfl, (fun h9 => absurd ((t82).trans ((congrArg (fun l9 => List.getD l9 2 0) h9.2).trans (show tk_wRepeat.getD 2 0 = (112 : Int) from rfl))) (by omega))⟩)
              · refine q_iconst cx dX8_isWord_46 ?_
                refine W.widen (k := 0) (n := 0) (by decide) (by decide) ?_
                refine vx_ret ?_
                refine q_zret cx hr hlk hB dX8_isWord_47 (by decide) (by decide) ?_
                exact (Or.inr ⟨rfl, rfl, (fun h9 => absurd ((t75).trans ((congrArg (fun l9 => List.getD l9 1 0) h9.2).trans (show tk_wRepeat.getD 1 0 = (101 : Int) from rfl))) (by omega))⟩)
        · refine q_iconst cx dX8_isWord_46 ?_
          refine W.widen (k := 0) (n := 0) (by decide) (by decide) ?_
          refine vx_ret ?_
          refine q_zret cx hr hlk hB dX8_isWord_47 (by decide) (by decide) ?_
          exact (Or.inr ⟨rfl, rfl, (fun h9 => absurd ((t68).trans ((congrArg (fun l9 => List.getD l9 0 0) h9.2).trans (show tk_wRepeat.getD 0 0 = (114 : Int) from rfl))) (by omega))⟩)
  · refine q_iconst cx dX8_isWord_8 ?_
    refine W.widen (k := 0) (n := 0) (by decide) (by decide) ?_
    refine vx_ret ?_
    refine q_zret cx hr hlk hB dX8_isWord_9 (by decide) (by decide) ?_
    exact (Or.inr ⟨rfl, rfl, (fun h9 => absurd ((tk_tc_k htc hf1 ex61).trans h9.1) (by omega))⟩)
set_option maxHeartbeats 4000000 in
set_option maxRecDepth 100000 in
theorem f_numberOfN (l : Launch) (g : q_G) {K : Nat → Nat} {L : List Nat} (hN : L.Nodup) {f : Nat → va_E} (hT : q_Ty g K L f) (nl9 : List (List Int)) (wl : List Int) (now : Nat) (hnow : now ∈ L) (know : K now = 10) (p0 : Int64) (ndn : Nat) (hndn : ndn ∈ L) (kndn : K ndn = 110) (nn : Int) (lnn : 0 ≤ nn) (unn : nn ≤ 10) (hf0 : q_is (q_z f now 3) nn) (hr0 : q_ir (q_r f now 0) ndn) (hp0 : p0 = tk_cw wl) (hp1 : tk_isw wl) (hvn : tk_vn K L 5 f now ndn nl9) : q_Ct l g K L yX10_numberOf cX10_numberOf 4 (some .int) 1 21 [.ref now, .long p0] f [] (q_Pi (fun (z : Int) (f1 : Nat → va_E) => (f = f1 ∧ 0 ≤ z ∧ z ≤ 9 ∧ (tk_ix nl9 wl = some (Int.toNat z)) ∧ (z < nn)) ∨ (f = f1 ∧ z = (-1) ∧ (tk_ix nl9 wl = none)))) := by
  refine q_ofb (by decide +kernel) hN hT (Nat.le_of_ble_eq_true rfl) ?_
  intro p e s m below meth c ls cx hr hlk hB hl
  have hl : lv_has ls 4 [(0, .ref now), (1, .long p0)] := hl
  have J2 : ∀ (n : Nat) (v2_3 : Int) (lv2_3 : 0 ≤ v2_3) (uv2_3 : v2_3 ≤ 10) (hj_now_3 : q_is (q_z f now 3) nn) (hq_now_0 : q_ir (q_r f now 0) ndn) (hvn2 : tk_vn K L 5 f now ndn nl9) (hno : ∀ j : Nat, (j : Int) < v2_3 → nl9.getD j [] ≠ wl) (hmu : (Int.toNat (2147483647 - v2_3)) < n) (H : Heap) (locs : List Loc) (hB : q_B g K L (fun q => q ∈ L) [] f f s H locs) (ls : Array Slot) (hl : lv_has ls 4 [(0, .ref now), (1, .long p0), (3, .int (q_i v2_3))]), W p l e { frames := 1, cells := 0, slots := 0, locals := 21 } s m ([.ref now, .long p0] : List Value).toArray below meth c H locs 0 0 (MQ below (q_Q g K L [] f (q_Pi (fun (z : Int) (f1 : Nat → va_E) => (f = f1 ∧ 0 ≤ z ∧ z ≤ 9 ∧ (tk_ix nl9 wl = some (Int.toNat z)) ∧ (z < nn)) ∨ (f = f1 ∧ z = (-1) ∧ (tk_ix nl9 wl = none))))) ([.ref now, .long p0] : List Value).toArray s 0 0 (fun q => q ∈ L)) (F0 m 2 ls []) := by
    intro n
    induction n with
    | zero =>
      intro v2_3 lv2_3 uv2_3 hj_now_3 hq_now_0 hvn2 hno hmu
      exact absurd hmu (Nat.not_lt_zero _)
    | succ n ih2 =>
      intro v2_3 lv2_3 uv2_3 hj_now_3 hq_now_0 hvn2 hno hmu H locs hB ls hl
      refine q_ild_n cx dX10_numberOf_2 rfl (lv_at hl 2 rfl) ?_
      refine q_ald_n cx dX10_numberOf_3 rfl (lv_at hl 0 rfl) ?_
      refine q_gX10_35 cx hB hnow know hj_now_3 dX10_numberOf_4 (fun lb91 ub91 => ?_)
      refine q_icge (tgt := 31) cx ⟨by omega, by omega⟩ ⟨by omega, by omega⟩ dX10_numberOf_7 (by decide) (fun c92 => ?_) (fun c92 => ?_)
      · refine q_iconst cx dX10_numberOf_31 ?_
        refine q_iret cx hr hlk hB dX10_numberOf_32 ⟨by decide, by decide⟩ ?_
        exact (Or.inr ⟨rfl, rfl, (tk_nv_none hno (by have h7 := tk_vn_nn hvn2 hj_now_3; omega))⟩)
      · refine q_ald_n cx dX10_numberOf_10 rfl (lv_at hl 0 rfl) ?_
        refine q_ild_n cx dX10_numberOf_11 rfl (lv_at hl 2 rfl) ?_
        refine q_cVr (As := [.int (q_i v2_3)]) (rest := []) cx hB (fun _ h => h) hN hnow know (by decide) rfl (f_nodeAt0 l g hN hB.2.1 now hnow know v2_3 (by omega) (by omega) ndn hndn kndn hq_now_0) q_cX10_66 q_dX10_nodeAt (by decide) rfl rfl hl.1 rfl (Nat.le_of_ble_eq_true rfl) dX10_numberOf_12 (fun y94 H locs f93 h95 hF hB => ?_)
        obtain ⟨rfl, hy94, ky94, t96⟩ := h95
        obtain ⟨j97, ej97⟩ : ∃ zz, q_j f y94 0 = zz := ⟨_, rfl⟩
        refine q_gX10_88 cx hB hy94 ky94 ej97 dX10_numberOf_15 ?_
        refine q_lld_n cx dX10_numberOf_18 rfl (lv_at hl 1 rfl) ?_
        refine q_lcmp cx dX10_numberOf_19 (fun y98 ly98 uy98 ey98 gy98 hy98 => ?_)
        refine q_ifne (tgt := 25) cx ⟨by omega, by omega⟩ dX10_numberOf_20 (by decide) (fun c99 => ?_) (fun c99 => ?_)
        · refine q_iinc (lv' := [(3, .int (q_i (v2_3 + 1))), (0, .ref now), (1, .long p0)]) cx dX10_numberOf_25 hl (k := 2) rfl (by decide) rfl (fun ls hl => ?_)
          refine lv_goto (tgt := 2) cx.1 cx.2.1 dX10_numberOf_28 (by decide) ?_
          exact ih2 (v2_3 + 1) (by omega) (by omega) hj_now_3 hq_now_0 hvn2 (tk_nv_step hno hvn2 (by omega) (by have h7 := tk_vn_nn hvn2 hj_now_3; omega) t96 ej97 gy98 hp0 (by omega)) (by omega) H locs hB ls (lv_sub hl [1, 2, 0] rfl)
        · refine q_ild_n cx dX10_numberOf_23 rfl (lv_at hl 2 rfl) ?_
          refine q_iret cx hr hlk hB dX10_numberOf_24 ⟨by omega, by omega⟩ ?_
          exact (Or.inl ⟨rfl, (by omega), (by omega), (tk_nv_hit hno hvn2 (by omega) (by have h7 := tk_vn_nn hvn2 hj_now_3; omega) t96 ej97 gy98 hp0 hp1 (by omega)), (by omega)⟩)
  obtain ⟨H, hH⟩ : ∃ H : Heap, H = s.heap := ⟨_, rfl⟩
  obtain ⟨locs, hlocs⟩ : ∃ z : List Loc, z = [] := ⟨_, rfl⟩
  rw [← hH, ← hlocs] at hB
  rw [← hH, ← hlocs]
  refine q_iconst cx dX10_numberOf_0 ?_
  refine lv_istore_n (lv' := [(3, .int (q_i 0)), (0, .ref now), (1, .long p0)]) cx.1 cx.2.1 dX10_numberOf_1 rfl hl (by decide) rfl (fun ls hl => ?_)
  exact J2 ((Int.toNat (2147483647 - 0)) + 1) 0 (by decide) (by decide) hf0 hr0 hvn (fun j hj => absurd hj (by omega)) (Nat.lt_succ_self _) H locs hB ls (lv_sub hl [1, 2, 0] rfl)
set_option maxHeartbeats 4000000 in
set_option maxRecDepth 100000 in
theorem f_expectNodeN (l : Launch) (g : q_G) {K : Nat → Nat} {L : List Nat} (hN : L.Nodup) {f : Nat → va_E} (hT : q_Ty g K L f) (B : Nat → Int) (nl9 : List (List Int)) (so : Nat) (hso : so ∈ L) (kso : K so = 8) (now : Nat) (hnow : now ∈ L) (know : K now = 10) (ba : Nat) (hba : ba ∈ L) (kba : K ba = 142) (ndn : Nat) (hndn : ndn ∈ L) (kndn : K ndn = 110) (tn : Int) (ltn : 0 ≤ tn) (utn : tn ≤ 600) (ss : Int) (lss : 0 ≤ ss) (uss : ss ≤ 600) (nn : Int) (lnn : 0 ≤ nn) (unn : nn ≤ 10) (hf0 : q_is (q_z f so 1) tn) (hf1 : q_is (q_z f so 8) ss) (hf2 : q_is (q_z f so 2) 0) (hf3 : q_is (q_z f so 3) (-1)) (hf4 : q_is (q_z f now 3) nn) (hr0 : q_ir (q_r f so 0) ba) (hr1 : q_ir (q_r f now 0) ndn) (htc : tk_tc f so B tn) (htb : tk_tb f ba B tn) (hvn : tk_vn K L 5 f now ndn nl9) : q_Ct l g K L yX8_expectNode cX8_expectNode 3 (some .int) 2 44 [.ref so, .ref now] f [(8, 2, 3)] (q_Pi (fun (z : Int) (f1 : Nat → va_E) => (0 ≤ z ∧ z ≤ 9 ∧ q_is (q_z f1 so 2) 0 ∧ q_is (q_z f1 so 3) (-1) ∧ q_is (q_z f1 so 8) ss ∧ (tk_who B tn ss nl9 = tk_ok (Int.toNat z)) ∧ (z < nn) ∧ (tk_tc f1 so B tn)) ∨ (z = (-1) ∧ (tk_who B tn ss nl9 = tk_er (q_z f1 so 2) (q_z f1 so 3)) ∧ (tk_tc f1 so B tn)))) := by
  refine q_ofb (by decide +kernel) hN hT (Nat.le_of_ble_eq_true rfl) ?_
  intro p e s m below meth c ls cx hr hlk hB hl
  have hl : lv_has ls 3 [(0, .ref so), (1, .ref now)] := hl
  obtain ⟨H, hH⟩ : ∃ H : Heap, H = s.heap := ⟨_, rfl⟩
  obtain ⟨locs, hlocs⟩ : ∃ z : List Loc, z = [] := ⟨_, rfl⟩
  rw [← hH, ← hlocs] at hB
  rw [← hH, ← hlocs]
  refine q_ald_n cx dX8_expectNode_0 rfl (lv_at hl 0 rfl) ?_
  refine q_cVi (As := []) (rest := []) cx hB (fun _ h => h) hN hso kso (by decide) rfl (f_expectName l g hN hB.2.1 B so hso kso ba hba kba tn (by omega) (by omega) ss (by omega) (by omega) hf0 hf1 hf2 hf3 hr0 htc htb) q_cX8_89 q_dX8_expectName (by decide) rfl rfl hl.1 rfl (Nat.le_of_ble_eq_true rfl) dX8_expectNode_1 (fun y57 H locs f56 ry57 h58 hF hB => ?_)
  rcases h58 with h59 | h60
  · obtain ⟨qy57, z61, z62, t63, g64⟩ := h59
    have z65 : q_is (q_z f56 so 1) tn := Eq.trans (hF.z hso (by rw [kso]; rfl)) hf0
    have z66 : q_is (q_z f56 so 8) ss := Eq.trans (hF.z hso (by rw [kso]; rfl)) hf1
    have z67 : q_is (q_z f56 now 3) nn := Eq.trans (hF.z hnow (by rw [know]; rfl)) hf4
    have z68 : q_ir (q_r f56 so 0) ba := Eq.trans (hF.r hso (by rw [kso]; rfl)) hr0
    have z69 : q_ir (q_r f56 now 0) ndn := Eq.trans (hF.r hnow (by rw [know]; rfl)) hr1
    have g70 : tk_tc f56 so B tn := tk_tc_tr htc (hF.z hso (by rw [kso]; rfl)) (hF.z hso (by rw [kso]; rfl)) (hF.z hso (by rw [kso]; rfl)) (hF.j hso (by rw [kso]; rfl)) (hF.z hso (by rw [kso]; rfl))
    have g71 : tk_tb f56 ba B tn := tk_tb_tr htb (fun i9 => hF.z hba (by rw [kba]; rfl))
    have g72 : tk_vn K L 5 f56 now ndn nl9 := tk_vn_tr hvn (hF.z hnow (by rw [know]; rfl)) (fun a9 h9 k9 => hF.j h9 (by rw [k9]; rfl)) (fun i9 => hF.r hndn (by rw [kndn]; rfl))
    subst qy57
    refine q_ifne (tgt := 9) cx ⟨by decide, by decide⟩ dX8_expectNode_4 (by decide) (fun c73 => ?_) (fun c73 => ?_)
    · refine q_ald_n cx dX8_expectNode_9 rfl (lv_at hl 1 rfl) ?_
      have hiw9 : tk_isw (tk_w B tn ss) := tk_w_isw (by omega)
      refine q_ald_n cx dX8_expectNode_10 rfl (lv_at hl 0 rfl) ?_
      refine q_gX8_56 cx hB hso kso (tk_tc_w g64 z66 t63) dX8_expectNode_11 ?_
      refine q_cVi (As := [.long (tk_cw (tk_w B tn ss))]) (rest := []) cx hB (fun _ h => h) hN hnow know (by decide) rfl (f_numberOfN l g hN hB.2.1 nl9 (tk_w B tn ss) now hnow know (tk_cw (tk_w B tn ss)) ndn hndn kndn nn (by omega) (by omega) z67 z69 rfl hiw9 g72) q_cX8_93 q_dX10_numberOf (by decide) rfl rfl hl.1 rfl (Nat.le_of_ble_eq_true rfl) dX8_expectNode_14 (fun y75 H locs f74 ry75 h76 hF hB => ?_)
      rcases h76 with h77 | h78
      · obtain ⟨rfl, ly75, uy75, t79, t80⟩ := h77
        refine lv_istore_n (lv' := [(2, .int (q_i y75)), (0, .ref so), (1, .ref now)]) cx.1 cx.2.1 dX8_expectNode_17 rfl hl (by decide) rfl (fun ls hl => ?_)
        refine q_ild_n cx dX8_expectNode_18 rfl (lv_at hl 0 rfl) ?_
        refine q_iconst cx dX8_expectNode_19 ?_
        refine q_icne (tgt := 29) cx ⟨by omega, by omega⟩ ⟨by decide, by decide⟩ dX8_expectNode_20 (by decide) (fun c81 => ?_) (fun c81 => ?_)
        · refine q_ild_n cx dX8_expectNode_29 rfl (lv_at hl 0 rfl) ?_
          refine q_iret cx hr hlk hB dX8_expectNode_30 ⟨by omega, by omega⟩ ?_
          exact (Or.inl ⟨(by omega), (by omega), z61, z62, z66, (tk_who_ok t63 t79), (by omega), g64⟩)
        · exact absurd c81 (by omega)
      · obtain ⟨rfl, qy75, t82⟩ := h78
        subst qy75
        refine lv_istore_n (lv' := [(2, .int (q_i (-1))), (0, .ref so), (1, .ref now)]) cx.1 cx.2.1 dX8_expectNode_17 rfl hl (by decide) rfl (fun ls hl => ?_)
        refine q_ild_n cx dX8_expectNode_18 rfl (lv_at hl 0 rfl) ?_
        refine q_iconst cx dX8_expectNode_19 ?_
        refine q_icne (tgt := 29) cx ⟨by decide, by decide⟩ ⟨by decide, by decide⟩ dX8_expectNode_20 (by decide) (fun c83 => ?_) (fun c83 => ?_)
        · exact absurd c83 (by omega)
        · refine q_ald_n cx dX8_expectNode_23 rfl (lv_at hl 1 rfl) ?_
          refine q_iconst cx dX8_expectNode_24 ?_
          refine q_cVi (As := [.int (q_i 4)]) (rest := []) cx hB (fun _ h => h) hN hso kso (by decide) rfl (f_fail l g hN hB.2.1 B so hso kso 4 (by decide) (by decide) ba hba kba tn (by omega) (by omega) ss (by omega) (by omega) z65 z66 z68 g64 g71) q_cX8_79 q_dX8_fail (by decide) rfl rfl hl.1 rfl (Nat.le_of_ble_eq_true rfl) dX8_expectNode_25 (fun y85 H locs f84 ry85 h86 hF hB => ?_)
          obtain ⟨qy85, z87, z88⟩ := h86
          have z89 : q_j f84 so 4 = (tk_cw (tk_w B tn ss)) := (hF.j hso (by rw [kso]; rfl)).trans (tk_tc_w g64 z66 t63)
          have z90 : q_is (q_z f84 so 1) tn := Eq.trans (hF.z hso (by rw [kso]; rfl)) z65
          have z91 : q_is (q_z f84 so 8) ss := Eq.trans (hF.z hso (by rw [kso]; rfl)) z66
          have z92 : q_is (q_z f84 now 3) nn := Eq.trans (hF.z hnow (by rw [know]; rfl)) z67
          have z93 : q_ir (q_r f84 so 0) ba := Eq.trans (hF.r hso (by rw [kso]; rfl)) z68
          have z94 : q_ir (q_r f84 now 0) ndn := Eq.trans (hF.r hnow (by rw [know]; rfl)) z69
          have g95 : tk_tc f84 so B tn := tk_tc_tr g64 (hF.z hso (by rw [kso]; rfl)) (hF.z hso (by rw [kso]; rfl)) (hF.z hso (by rw [kso]; rfl)) (hF.j hso (by rw [kso]; rfl)) (hF.z hso (by rw [kso]; rfl))
          have g96 : tk_tb f84 ba B tn := tk_tb_tr g71 (fun i9 => hF.z hba (by rw [kba]; rfl))
          have g97 : tk_vn K L 5 f84 now ndn nl9 := tk_vn_tr g72 (hF.z hnow (by rw [know]; rfl)) (fun a9 h9 k9 => hF.j h9 (by rw [k9]; rfl)) (fun i9 => hF.r hndn (by rw [kndn]; rfl))
          subst qy85
          refine lv_pop cx.1 cx.2.1 dX8_expectNode_28 rfl ?_
          refine q_ild_n cx dX8_expectNode_29 rfl (lv_at hl 0 rfl) ?_
          refine q_iret cx hr hlk hB dX8_expectNode_30 ⟨by decide, by decide⟩ ?_
          exact (Or.inr ⟨rfl, (tk_who_e4 t63 t82 z87 z88), g95⟩)
    · exact absurd c73 (by omega)
  · obtain ⟨qy57, z98, z99, t100, g101⟩ := h60
    have z102 : q_is (q_z f56 so 1) tn := Eq.trans (hF.z hso (by rw [kso]; rfl)) hf0
    have z103 : q_is (q_z f56 so 8) ss := Eq.trans (hF.z hso (by rw [kso]; rfl)) hf1
    have z104 : q_is (q_z f56 now 3) nn := Eq.trans (hF.z hnow (by rw [know]; rfl)) hf4
    have z105 : q_ir (q_r f56 so 0) ba := Eq.trans (hF.r hso (by rw [kso]; rfl)) hr0
    have z106 : q_ir (q_r f56 now 0) ndn := Eq.trans (hF.r hnow (by rw [know]; rfl)) hr1
    have g107 : tk_tc f56 so B tn := tk_tc_tr htc (hF.z hso (by rw [kso]; rfl)) (hF.z hso (by rw [kso]; rfl)) (hF.z hso (by rw [kso]; rfl)) (hF.j hso (by rw [kso]; rfl)) (hF.z hso (by rw [kso]; rfl))
    have g108 : tk_tb f56 ba B tn := tk_tb_tr htb (fun i9 => hF.z hba (by rw [kba]; rfl))
    have g109 : tk_vn K L 5 f56 now ndn nl9 := tk_vn_tr hvn (hF.z hnow (by rw [know]; rfl)) (fun a9 h9 k9 => hF.j h9 (by rw [k9]; rfl)) (fun i9 => hF.r hndn (by rw [kndn]; rfl))
    subst qy57
    refine q_ifne (tgt := 9) cx ⟨by decide, by decide⟩ dX8_expectNode_4 (by decide) (fun c110 => ?_) (fun c110 => ?_)
    · exact absurd c110 (by omega)
    · refine q_iconst cx dX8_expectNode_7 ?_
      refine q_iret cx hr hlk hB dX8_expectNode_8 ⟨by decide, by decide⟩ ?_
      exact (Or.inr ⟨rfl, (tk_who_e1 t100 z98 z99), g101⟩)
set_option maxHeartbeats 4000000 in
set_option maxRecDepth 100000 in
theorem f_kindOfWord (l : Launch) (g : q_G) (ad : Nat → Nat) {K : Nat → Nat} {L : List Nat} (hN : L.Nodup) {f : Nat → va_E} (hT : q_Ty g K L f) (hfl : l.stackTraces = false) (B : Nat → Int) (so : Nat) (hso : so ∈ L) (kso : K so = 8) (ba : Nat) (hba : ba ∈ L) (kba : K ba = 142) (tn : Int) (ltn : 0 ≤ tn) (utn : tn ≤ 600) (ss : Int) (lss : 0 ≤ ss) (uss : ss ≤ 600) (hf0 : q_is (q_z f so 1) tn) (hf1 : q_is (q_z f so 8) ss) (hr0 : q_ir (q_r f so 0) ba) (htc : tk_tc f so B tn) (htb : tk_tb f ba B tn) : q_Xt l g ad K L yX7_kindOfWord cX7_kindOfWord 1 (some .int) 5 107 0 0 [.ref so] f [] (q_Pi (fun (z : Int) (f1 : Nat → va_E) => f = f1 ∧ (-1) ≤ z ∧ z ≤ 6 ∧ (tk_kw B tn ss = z))) (fun (_ : String) (_ : Nat → va_E) => False) := by
  refine q_xofb (by decide +kernel) hN hT (Nat.le_of_ble_eq_true rfl) ?_
  intro p e s m below meth c ls cx hr hlk htab hX hB hl
  have hl : lv_has ls 1 [(0, .ref so)] := hl
  obtain ⟨H, hH⟩ : ∃ H : Heap, H = s.heap := ⟨_, rfl⟩
  obtain ⟨locs, hlocs⟩ : ∃ z : List Loc, z = [] := ⟨_, rfl⟩
  rw [← hH, ← hlocs] at hB
  rw [← hH, ← hlocs]
  refine q_ald_n cx dX7_kindOfWord_0 rfl (lv_at hl 0 rfl) ?_
  refine va_ldcS (q := ad 8) cx.1 cx.2.1 cx.2.2.2.1 ((hX.2.2.2.2.2.2.2 8 (by decide)).1) dX7_kindOfWord_1 ?_
  refine q_cXV (As := [.ref (ad 8)]) (rest := []) cx hX hB (fun _ h => h) (fun _ h _ => h) hN hso kso (by decide) rfl (f_isWord_8 l g ad hN hB.2.1 hfl B so hso kso ba hba kba tn (by omega) (by omega) ss (by omega) (by omega) hf0 hf1 hr0 htc htb) q_cX7_54 q_dX8_isWord (by decide) rfl rfl hl.1 rfl (Nat.le_of_ble_eq_true rfl) dX7_kindOfWord_3 (fun E9 ce9 q9 H locs f74 hex hF hB hcell hcv hcl => ?_) (fun v9 H locs f71 h73 hF hB => ?_)
  · exact hex.elim
  · obtain ⟨y72, rfl, ry72, h73⟩ := h73
    refine W.eq (g2 := F0 m 6 ls [.int (q_i y72)]) rfl ?_
    rcases h73 with h75 | h76
    · obtain ⟨rfl, qy72, t77⟩ := h75
      subst qy72
      refine q_ifeq (tgt := 11) cx ⟨by decide, by decide⟩ dX7_kindOfWord_6 (by decide) (fun c78 => ?_) (fun c78 => ?_)
      · exact absurd c78 (by omega)
      · refine q_iconst cx dX7_kindOfWord_9 ?_
        refine W.widen (k := 0) (n := 0) (by decide) (by decide) ?_
        refine vx_ret ?_
        refine q_iret cx hr hlk hB dX7_kindOfWord_10 ⟨by decide, by decide⟩ ?_
        exact ⟨rfl, (by decide), (by decide), (tk_kw_0 t77)⟩
    · obtain ⟨rfl, qy72, t79⟩ := h76
      subst qy72
      refine q_ifeq (tgt := 11) cx ⟨by decide, by decide⟩ dX7_kindOfWord_6 (by decide) (fun c80 => ?_) (fun c80 => ?_)
      · refine q_ald_n cx dX7_kindOfWord_11 rfl (lv_at hl 0 rfl) ?_
        refine va_ldcS (q := ad 9) cx.1 cx.2.1 cx.2.2.2.1 ((hX.2.2.2.2.2.2.2 9 (by decide)).1) dX7_kindOfWord_12 ?_
        refine q_cXV (As := [.ref (ad 9)]) (rest := []) cx hX hB (fun _ h => h) (fun _ h _ => h) hN hso kso (by decide) rfl (f_isWord_9 l g ad hN hB.2.1 hfl B so hso kso ba hba kba tn (by omega) (by omega) ss (by omega) (by omega) hf0 hf1 hr0 htc htb) q_cX7_54 q_dX8_isWord (by decide) rfl rfl hl.1 rfl (Nat.le_of_ble_eq_true rfl) dX7_kindOfWord_14 (fun E9 ce9 q9 H locs f84 hex hF hB hcell hcv hcl => ?_) (fun v9 H locs f81 h83 hF hB => ?_)
        · exact hex.elim
        · obtain ⟨y82, rfl, ry82, h83⟩ := h83
          refine W.eq (g2 := F0 m 17 ls [.int (q_i y82)]) rfl ?_
          rcases h83 with h85 | h86
          · obtain ⟨rfl, qy82, t87⟩ := h85
            subst qy82
            refine q_ifeq (tgt := 22) cx ⟨by decide, by decide⟩ dX7_kindOfWord_17 (by decide) (fun c88 => ?_) (fun c88 => ?_)
            · exact absurd c88 (by omega)
            · refine q_iconst cx dX7_kindOfWord_20 ?_
              refine W.widen (k := 0) (n := 0) (by decide) (by decide) ?_
              refine vx_ret ?_
              refine q_iret cx hr hlk hB dX7_kindOfWord_21 ⟨by decide, by decide⟩ ?_
              exact ⟨rfl, (by decide), (by decide), (tk_kw_1 t79 t87)⟩
          · obtain ⟨rfl, qy82, t89⟩ := h86
            subst qy82
            refine q_ifeq (tgt := 22) cx ⟨by decide, by decide⟩ dX7_kindOfWord_17 (by decide) (fun c90 => ?_) (fun c90 => ?_)
            · refine q_ald_n cx dX7_kindOfWord_22 rfl (lv_at hl 0 rfl) ?_
              refine va_ldcS (q := ad 10) cx.1 cx.2.1 cx.2.2.2.1 ((hX.2.2.2.2.2.2.2 10 (by decide)).1) dX7_kindOfWord_23 ?_
              refine q_cXV (As := [.ref (ad 10)]) (rest := []) cx hX hB (fun _ h => h) (fun _ h _ => h) hN hso kso (by decide) rfl (f_isWord_10 l g ad hN hB.2.1 hfl B so hso kso ba hba kba tn (by omega) (by omega) ss (by omega) (by omega) hf0 hf1 hr0 htc htb) q_cX7_54 q_dX8_isWord (by decide) rfl rfl hl.1 rfl (Nat.le_of_ble_eq_true rfl) dX7_kindOfWord_25 (fun E9 ce9 q9 H locs f94 hex hF hB hcell hcv hcl => ?_) (fun v9 H locs f91 h93 hF hB => ?_)
              · exact hex.elim
              · obtain ⟨y92, rfl, ry92, h93⟩ := h93
                refine W.eq (g2 := F0 m 28 ls [.int (q_i y92)]) rfl ?_
                rcases h93 with h95 | h96
                · obtain ⟨rfl, qy92, t97⟩ := h95
                  subst qy92
                  refine q_ifeq (tgt := 33) cx ⟨by decide, by decide⟩ dX7_kindOfWord_28 (by decide) (fun c98 => ?_) (fun c98 => ?_)
                  · exact absurd c98 (by omega)
                  · refine q_iconst cx dX7_kindOfWord_31 ?_
                    refine W.widen (k := 0) (n := 0) (by decide) (by decide) ?_
                    refine vx_ret ?_
                    refine q_iret cx hr hlk hB dX7_kindOfWord_32 ⟨by decide, by decide⟩ ?_
                    exact ⟨rfl, (by decide), (by decide), (tk_kw_2 t79 t89 t97)⟩
                · obtain ⟨rfl, qy92, t99⟩ := h96
                  subst qy92
                  refine q_ifeq (tgt := 33) cx ⟨by decide, by decide⟩ dX7_kindOfWord_28 (by decide) (fun c100 => ?_) (fun c100 => ?_)
                  · refine q_ald_n cx dX7_kindOfWord_33 rfl (lv_at hl 0 rfl) ?_
                    refine va_ldcS (q := ad 11) cx.1 cx.2.1 cx.2.2.2.1 ((hX.2.2.2.2.2.2.2 11 (by decide)).1) dX7_kindOfWord_34 ?_
                    refine q_cXV (As := [.ref (ad 11)]) (rest := []) cx hX hB (fun _ h => h) (fun _ h _ => h) hN hso kso (by decide) rfl (f_isWord_11 l g ad hN hB.2.1 hfl B so hso kso ba hba kba tn (by omega) (by omega) ss (by omega) (by omega) hf0 hf1 hr0 htc htb) q_cX7_54 q_dX8_isWord (by decide) rfl rfl hl.1 rfl (Nat.le_of_ble_eq_true rfl) dX7_kindOfWord_36 (fun E9 ce9 q9 H locs f104 hex hF hB hcell hcv hcl => ?_) (fun v9 H locs f101 h103 hF hB => ?_)
                    · exact hex.elim
                    · obtain ⟨y102, rfl, ry102, h103⟩ := h103
                      refine W.eq (g2 := F0 m 39 ls [.int (q_i y102)]) rfl ?_
                      rcases h103 with h105 | h106
                      · obtain ⟨rfl, qy102, t107⟩ := h105
                        subst qy102
                        refine q_ifeq (tgt := 44) cx ⟨by decide, by decide⟩ dX7_kindOfWord_39 (by decide) (fun c108 => ?_) (fun c108 => ?_)
                        · exact absurd c108 (by omega)
                        · refine q_iconst cx dX7_kindOfWord_42 ?_
                          refine W.widen (k := 0) (n := 0) (by decide) (by decide) ?_
                          refine vx_ret ?_
                          refine q_iret cx hr hlk hB dX7_kindOfWord_43 ⟨by decide, by decide⟩ ?_
                          exact ⟨rfl, (by decide), (by decide), (tk_kw_3 t79 t89 t99 t107)⟩
                      · obtain ⟨rfl, qy102, t109⟩ := h106
                        subst qy102
                        refine q_ifeq (tgt := 44) cx ⟨by decide, by decide⟩ dX7_kindOfWord_39 (by decide) (fun c110 => ?_) (fun c110 => ?_)
                        · refine q_ald_n cx dX7_kindOfWord_44 rfl (lv_at hl 0 rfl) ?_
                          refine va_ldcS (q := ad 12) cx.1 cx.2.1 cx.2.2.2.1 ((hX.2.2.2.2.2.2.2 12 (by decide)).1) dX7_kindOfWord_45 ?_
                          refine q_cXV (As := [.ref (ad 12)]) (rest := []) cx hX hB (fun _ h => h) (fun _ h _ => h) hN hso kso (by decide) rfl (f_isWord_12 l g ad hN hB.2.1 hfl B so hso kso ba hba kba tn (by omega) (by omega) ss (by omega) (by omega) hf0 hf1 hr0 htc htb) q_cX7_54 q_dX8_isWord (by decide) rfl rfl hl.1 rfl (Nat.le_of_ble_eq_true rfl) dX7_kindOfWord_47 (fun E9 ce9 q9 H locs f114 hex hF hB hcell hcv hcl => ?_) (fun v9 H locs f111 h113 hF hB => ?_)
                          · exact hex.elim
                          · obtain ⟨y112, rfl, ry112, h113⟩ := h113
                            refine W.eq (g2 := F0 m 50 ls [.int (q_i y112)]) rfl ?_
                            rcases h113 with h115 | h116
                            · obtain ⟨rfl, qy112, t117⟩ := h115
                              subst qy112
                              refine q_ifeq (tgt := 55) cx ⟨by decide, by decide⟩ dX7_kindOfWord_50 (by decide) (fun c118 => ?_) (fun c118 => ?_)
                              · exact absurd c118 (by omega)
                              · refine q_iconst cx dX7_kindOfWord_53 ?_
                                refine W.widen (k := 0) (n := 0) (by decide) (by decide) ?_
                                refine vx_ret ?_
                                refine q_iret cx hr hlk hB dX7_kindOfWord_54 ⟨by decide, by decide⟩ ?_
                                exact ⟨rfl, (by decide), (by decide), (tk_kw_4 t79 t89 t99 t109 t117)⟩
                            · obtain ⟨rfl, qy112, t119⟩ := h116
                              subst qy112
                              refine q_ifeq (tgt := 55) cx ⟨by decide, by decide⟩ dX7_kindOfWord_50 (by decide) (fun c120 => ?_) (fun c120 => ?_)
                              · refine q_ald_n cx dX7_kindOfWord_55 rfl (lv_at hl 0 rfl) ?_
                                refine va_ldcS (q := ad 13) cx.1 cx.2.1 cx.2.2.2.1 ((hX.2.2.2.2.2.2.2 13 (by decide)).1) dX7_kindOfWord_56 ?_
                                refine q_cXV (As := [.ref (ad 13)]) (rest := []) cx hX hB (fun _ h => h) (fun _ h _ => h) hN hso kso (by decide) rfl (f_isWord_13 l g ad hN hB.2.1 hfl B so hso kso ba hba kba tn (by omega) (by omega) ss (by omega) (by omega) hf0 hf1 hr0 htc htb) q_cX7_54 q_dX8_isWord (by decide) rfl rfl hl.1 rfl (Nat.le_of_ble_eq_true rfl) dX7_kindOfWord_58 (fun E9 ce9 q9 H locs f124 hex hF hB hcell hcv hcl => ?_) (fun v9 H locs f121 h123 hF hB => ?_)
                                · exact hex.elim
                                · obtain ⟨y122, rfl, ry122, h123⟩ := h123
                                  refine W.eq (g2 := F0 m 61 ls [.int (q_i y122)]) rfl ?_
                                  rcases h123 with h125 | h126
                                  · obtain ⟨rfl, qy122, t127⟩ := h125
                                    subst qy122
                                    refine q_ifeq (tgt := 66) cx ⟨by decide, by decide⟩ dX7_kindOfWord_61 (by decide) (fun c128 => ?_) (fun c128 => ?_)
                                    · exact absurd c128 (by omega)
                                    · refine q_iconst cx dX7_kindOfWord_64 ?_
                                      refine W.widen (k := 0) (n := 0) (by decide) (by decide) ?_
                                      refine vx_ret ?_
                                      refine q_iret cx hr hlk hB dX7_kindOfWord_65 ⟨by decide, by decide⟩ ?_
                                      exact ⟨rfl, (by decide), (by decide), (tk_kw_5 t79 t89 t99 t109 t119 t127)⟩
                                  · obtain ⟨rfl, qy122, t129⟩ := h126
                                    subst qy122
                                    refine q_ifeq (tgt := 66) cx ⟨by decide, by decide⟩ dX7_kindOfWord_61 (by decide) (fun c130 => ?_) (fun c130 => ?_)
                                    · refine q_ald_n cx dX7_kindOfWord_66 rfl (lv_at hl 0 rfl) ?_
                                      refine va_ldcS (q := ad 14) cx.1 cx.2.1 cx.2.2.2.1 ((hX.2.2.2.2.2.2.2 14 (by decide)).1) dX7_kindOfWord_67 ?_
                                      refine q_cXV (As := [.ref (ad 14)]) (rest := []) cx hX hB (fun _ h => h) (fun _ h _ => h) hN hso kso (by decide) rfl (f_isWord_14 l g ad hN hB.2.1 hfl B so hso kso ba hba kba tn (by omega) (by omega) ss (by omega) (by omega) hf0 hf1 hr0 htc htb) q_cX7_54 q_dX8_isWord (by decide) rfl rfl hl.1 rfl (Nat.le_of_ble_eq_true rfl) dX7_kindOfWord_69 (fun E9 ce9 q9 H locs f134 hex hF hB hcell hcv hcl => ?_) (fun v9 H locs f131 h133 hF hB => ?_)
                                      · exact hex.elim
                                      · obtain ⟨y132, rfl, ry132, h133⟩ := h133
                                        refine W.eq (g2 := F0 m 72 ls [.int (q_i y132)]) rfl ?_
                                        rcases h133 with h135 | h136
                                        · obtain ⟨rfl, qy132, t137⟩ := h135
                                          subst qy132
                                          refine q_ifeq (tgt := 80) cx ⟨by decide, by decide⟩ dX7_kindOfWord_72 (by decide) (fun c138 => ?_) (fun c138 => ?_)
                                          · exact absurd c138 (by omega)
                                          · refine q_bipush cx dX7_kindOfWord_75 rfl ?_
                                            refine lv_goto (tgt := 81) cx.1 cx.2.1 dX7_kindOfWord_77 (by decide) ?_
                                            refine W.widen (k := 0) (n := 0) (by decide) (by decide) ?_
                                            refine vx_ret ?_
                                            refine q_iret cx hr hlk hB dX7_kindOfWord_81 ⟨by decide, by decide⟩ ?_
                                            exact ⟨rfl, (by decide), (by decide), (tk_kw_6 t79 t89 t99 t109 t119 t129 t137)⟩
                                        · obtain ⟨rfl, qy132, t139⟩ := h136
                                          subst qy132
                                          refine q_ifeq (tgt := 80) cx ⟨by decide, by decide⟩ dX7_kindOfWord_72 (by decide) (fun c140 => ?_) (fun c140 => ?_)
                                          · refine q_iconst cx dX7_kindOfWord_80 ?_
                                            refine W.widen (k := 0) (n := 0) (by decide) (by decide) ?_
                                            refine vx_ret ?_
                                            refine q_iret cx hr hlk hB dX7_kindOfWord_81 ⟨by decide, by decide⟩ ?_
                                            exact ⟨rfl, (by decide), (by decide), (tk_kw_7 t79 t89 t99 t109 t119 t129 t139)⟩
                                          · exact absurd c140 (by omega)
                                    · exact absurd c130 (by omega)
                              · exact absurd c120 (by omega)
                        · exact absurd c110 (by omega)
                  · exact absurd c100 (by omega)
            · exact absurd c90 (by omega)
      · exact absurd c80 (by omega)
set_option maxHeartbeats 4000000 in
set_option maxRecDepth 100000 in
theorem f_commandAt (l : Launch) (g : q_G) {K : Nat → Nat} {L : List Nat} (hN : L.Nodup) {f : Nat → va_E} (hT : q_Ty g K L f) (scr : Nat) (hscr : scr ∈ L) (kscr : K scr = 7) (p0 : Int) (lp0 : 0 ≤ p0) (up0 : p0 ≤ 29) (cmds : Nat) (hcmds : cmds ∈ L) (kcmds : K cmds = 141) (hr0 : q_ir (q_r f scr 0) cmds) : q_Ct l g K L yX7_commandAt cX7_commandAt 2 (some (.object "WakeVillage$Command")) 0 0 [.ref scr, .int (q_i p0)] f [] (q_Pr (fun (z : Nat) (f1 : Nat → va_E) => f = f1 ∧ z ∈ L ∧ K z = 0 ∧ (z = q_r f cmds (Int.toNat p0)))) := by
  refine q_ofb (by decide +kernel) hN hT (Nat.le_of_ble_eq_true rfl) ?_
  intro p e s m below meth c ls cx hr hlk hB hl
  have hl : lv_has ls 2 [(0, .ref scr), (1, .int (q_i p0))] := hl
  obtain ⟨H, hH⟩ : ∃ H : Heap, H = s.heap := ⟨_, rfl⟩
  obtain ⟨locs, hlocs⟩ : ∃ z : List Loc, z = [] := ⟨_, rfl⟩
  rw [← hH, ← hlocs] at hB
  rw [← hH, ← hlocs]
  refine q_ald_n cx dX7_commandAt_0 rfl (lv_at hl 0 rfl) ?_
  refine q_gX7_13 cx hB hscr kscr hr0 dX7_commandAt_1 (fun hb7 kb7 => ?_)
  refine q_ild_n cx dX7_commandAt_4 rfl (lv_at hl 1 rfl) ?_
  refine q_iflt (tgt := 21) cx ⟨by omega, by omega⟩ dX7_commandAt_5 (by decide) (fun c8 => ?_) (fun c8 => ?_)
  · exact absurd c8 (by omega)
  · refine q_ild_n cx dX7_commandAt_8 rfl (lv_at hl 1 rfl) ?_
    refine q_ald_n cx dX7_commandAt_9 rfl (lv_at hl 0 rfl) ?_
    refine q_gX7_13 cx hB hscr kscr hr0 dX7_commandAt_10 (fun hb9 kb9 => ?_)
    refine q_alen (n := 30) cx hB hcmds kcmds (by decide) rfl 4 rfl rfl dX7_commandAt_13 ?_
    refine q_icge (tgt := 21) cx ⟨by omega, by omega⟩ ⟨by decide, by decide⟩ dX7_commandAt_14 (by decide) (fun c10 => ?_) (fun c10 => ?_)
    · exact absurd c10 (by omega)
    · refine q_ild_n cx dX7_commandAt_17 rfl (lv_at hl 1 rfl) ?_
      refine lv_goto (tgt := 22) cx.1 cx.2.1 dX7_commandAt_18 (by decide) ?_
      obtain ⟨p11, ep11⟩ : ∃ zz, q_ir (q_r f cmds (Int.toNat p0)) zz := ⟨_, q_irr _⟩
      refine q_aald (k2 := 0) (n := 30) cx hB hcmds kcmds (by decide) rfl 4 rfl (by decide) rfl (by omega) (by omega) (by decide) rfl ep11 dX7_commandAt_22 (fun hb12 kb12 => ?_)
      refine q_aret cx hr (Or.inl ⟨_, rfl⟩) hlk hB dX7_commandAt_23 ?_
      exact ⟨rfl, hb12, kb12, (Eq.symm ep11)⟩
