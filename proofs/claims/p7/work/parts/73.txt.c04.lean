set_option maxHeartbeats 4000000 in
set_option maxRecDepth 100000 in
theorem f_isWord_5 (l : Launch) (g : q_G) (ad : Nat → Nat) {K : Nat → Nat} {L : List Nat} (hN : L.Nodup) {f : Nat → va_E} (hT : q_Ty g K L f) (hfl : l.stackTraces = false) (B : Nat → Int) (so : Nat) (hso : so ∈ L) (kso : K so = 8) (ba : Nat) (hba : ba ∈ L) (kba : K ba = 142) (tn : Int) (ltn : 0 ≤ tn) (utn : tn ≤ 600) (ss : Int) (lss : 0 ≤ ss) (uss : ss ≤ 600) (hf0 : q_is (q_z f so 1) tn) (hf1 : q_is (q_z f so 8) ss) (hr0 : q_ir (q_r f so 0) ba) (htc : tk_tc f so B tn) (htb : tk_tb f ba B tn) : q_Xt l g ad K L yX8_isWord cX8_isWord 3 (some .boolean) 4 85 0 0 [.ref so, .ref (ad 5)] f [] (q_Pi (fun (z : Int) (f1 : Nat → va_E) => (f = f1 ∧ z = 1 ∧ (tk_isw9 B tn tk_wBorn ss)) ∨ (f = f1 ∧ z = 0 ∧ (¬ tk_isw9 B tn tk_wBorn ss)))) (fun (_ : String) (_ : Nat → va_E) => False) := by
  refine q_xofb (by decide +kernel) hN hT (Nat.le_of_ble_eq_true rfl) ?_
  intro p e s m below meth c ls cx hr hlk htab hX hB hl
  have hl : lv_has ls 3 [(0, .ref so), (1, .ref (ad 5))] := hl
  obtain ⟨H, hH⟩ : ∃ H : Heap, H = s.heap := ⟨_, rfl⟩
  obtain ⟨locs, hlocs⟩ : ∃ z : List Loc, z = [] := ⟨_, rfl⟩
  rw [← hH, ← hlocs] at hB
  rw [← hH, ← hlocs]
  refine q_ald_n cx dX8_isWord_0 rfl (lv_at hl 0 rfl) ?_
  obtain ⟨x61, ex61⟩ : ∃ zz, q_is (q_z f so 6) zz := ⟨_, q_isr _⟩
  refine q_gX8_40 cx hB hso kso ex61 dX8_isWord_1 (fun lb62 ub62 => ?_)
  refine q_iconst cx dX8_isWord_4 ?_
  refine q_iceq (tgt := 10) cx ⟨by omega, by omega⟩ ⟨by decide, by decide⟩ dX8_isWord_5 (by decide) (fun c63 => ?_) (fun c63 => ?_)
  · have hk9 : tk_k B tn ss = 1 := (Eq.symm (tk_tc_k htc hf1 ex61)).trans (by omega)
    have hiw9 : tk_isw (tk_w B tn ss) := tk_w_isw lss
    refine q_iconst cx dX8_isWord_10 ?_
    refine lv_istore_n (lv' := [(2, .int (q_i 0)), (0, .ref so), (1, .ref (ad 5))]) cx.1 cx.2.1 dX8_isWord_11 rfl hl (by decide) rfl (fun ls hl => ?_)
    refine q_ild_n cx dX8_isWord_12 rfl (lv_at hl 0 rfl) ?_
    refine q_bipush cx dX8_isWord_13 rfl ?_
    refine q_icge (tgt := 54) cx ⟨by decide, by decide⟩ ⟨by decide, by decide⟩ dX8_isWord_15 (by decide) (fun c64 => ?_) (fun c64 => ?_)
    · exact absurd c64 (by omega)
    · refine q_ald_n cx dX8_isWord_18 rfl (lv_at hl 1 rfl) ?_
      refine q_gX8_56 cx hB hso kso (tk_tc_w htc hf1 hk9) dX8_isWord_19 ?_
      refine q_ild_n cx dX8_isWord_22 rfl (lv_at hl 0 rfl) ?_
      refine q_cSi (As := [.long (tk_cw (tk_w B tn ss)), .int (q_i 0)]) (rest := []) cx hB (fun _ h => h) hN (f_letterOf l g hN hB.2.1 (tk_w B tn ss) (tk_cw (tk_w B tn ss)) 0 (by decide) (by decide) rfl hiw9) q_cX8_63 q_dX8_letterOf (by decide) rfl rfl hl.1 rfl (Nat.le_of_ble_eq_true rfl) dX8_isWord_23 (fun y66 H locs f65 ry66 h67 hF hB => ?_)
      obtain ⟨rfl, t68⟩ := h67
      refine q_ild_n cx dX8_isWord_26 rfl (lv_at hl 0 rfl) ?_
      refine q_ald_n cx dX8_isWord_27 rfl (lv_at hl 2 rfl) ?_
      refine q_cXT (As := []) (rest := [.int (q_i 0), .int (q_i y66)]) cx hX hB (fun _ h => h) (fun _ h _ => h) hN (q_srec hX (by decide) hB) (s_length l g ad hN hB.2.1 5 (by decide)) q_cX8_67 q_dJ0_length_8abf5 (by decide) rfl rfl hl.1 rfl (Nat.le_of_ble_eq_true rfl) dX8_isWord_28 (fun E9 ce9 q9 H locs fx hex hF hB hcell hcv hcl => ?_) (fun v9 H locs f1 h1 hF hB => ?_)
      · exact hex.elim
      obtain ⟨z9, rfl, -, rfl, h9⟩ := h1
      obtain rfl : z9 = 4 := h9.trans (by decide)
      refine W.eq (g2 := F0 m 31 ls [.int (q_i 4), .int (q_i 0), .int (q_i y66)]) rfl ?_
      refine q_icge (tgt := 42) cx ⟨by decide, by decide⟩ ⟨by decide, by decide⟩ dX8_isWord_31 (by decide) (fun c69 => ?_) (fun c69 => ?_)
      · exact absurd c69 (by omega)
      · refine q_ald_n cx dX8_isWord_34 rfl (lv_at hl 2 rfl) ?_
        refine q_ild_n cx dX8_isWord_35 rfl (lv_at hl 0 rfl) ?_
        refine q_cXT (As := [.int (q_i 0)]) (rest := [.int (q_i y66)]) cx hX hB (fun _ h => h) (fun _ h _ => h) hN (q_srec hX (by decide) hB) (s_charAt l g ad hN hB.2.1 5 (by decide) 0 (by decide) (by decide)) q_cX8_72 q_dJ0_charAt_5068e (by decide) rfl rfl hl.1 rfl (Nat.le_of_ble_eq_true rfl) dX8_isWord_36 (fun E9 ce9 q9 H locs fx hex hF hB hcell hcv hcl => ?_) (fun v9 H locs f1 h1 hF hB => ?_)
        · exact hex.elim
        obtain ⟨z9, rfl, -, rfl, h9⟩ := h1
        obtain rfl : z9 = 98 := h9.trans (by decide)
        refine W.eq (g2 := F0 m 39 ls [.int (q_i 98), .int (q_i y66)]) rfl ?_
        refine lv_goto (tgt := 43) cx.1 cx.2.1 dX8_isWord_39 (by decide) ?_
        refine q_iceq (tgt := 48) cx ⟨by omega, by omega⟩ ⟨by decide, by decide⟩ dX8_isWord_43 (by decide) (fun c70 => ?_) (fun c70 => ?_)
        · refine q_iinc (lv' := [(2, .int (q_i (0 + 1))), (0, .ref so), (1, .ref (ad 5))]) cx dX8_isWord_48 hl (k := 0) rfl (by decide) rfl (fun ls hl => ?_)
          refine lv_goto (tgt := 12) cx.1 cx.2.1 dX8_isWord_51 (by decide) ?_
          refine q_ild_n cx dX8_isWord_12 rfl (lv_at hl 0 rfl) ?_
          refine q_bipush cx dX8_isWord_13 rfl ?_
          refine q_icge (tgt := 54) cx ⟨by decide, by decide⟩ ⟨by decide, by decide⟩ dX8_isWord_15 (by decide) (fun c71 => ?_) (fun c71 => ?_)
          · exact absurd c71 (by omega)
          · refine q_ald_n cx dX8_isWord_18 rfl (lv_at hl 1 rfl) ?_
            refine q_gX8_56 cx hB hso kso (tk_tc_w htc hf1 hk9) dX8_isWord_19 ?_
            refine q_ild_n cx dX8_isWord_22 rfl (lv_at hl 0 rfl) ?_
            refine q_cSi (As := [.long (tk_cw (tk_w B tn ss)), .int (q_i (0 + 1))]) (rest := []) cx hB (fun _ h => h) hN (f_letterOf l g hN hB.2.1 (tk_w B tn ss) (tk_cw (tk_w B tn ss)) (0 + 1) (by decide) (by decide) rfl hiw9) q_cX8_63 q_dX8_letterOf (by decide) rfl rfl hl.1 rfl (Nat.le_of_ble_eq_true rfl) dX8_isWord_23 (fun y73 H locs f72 ry73 h74 hF hB => ?_)
            obtain ⟨rfl, t75⟩ := h74
            refine q_ild_n cx dX8_isWord_26 rfl (lv_at hl 0 rfl) ?_
            refine q_ald_n cx dX8_isWord_27 rfl (lv_at hl 2 rfl) ?_
            refine q_cXT (As := []) (rest := [.int (q_i (0 + 1)), .int (q_i y73)]) cx hX hB (fun _ h => h) (fun _ h _ => h) hN (q_srec hX (by decide) hB) (s_length l g ad hN hB.2.1 5 (by decide)) q_cX8_67 q_dJ0_length_8abf5 (by decide) rfl rfl hl.1 rfl (Nat.le_of_ble_eq_true rfl) dX8_isWord_28 (fun E9 ce9 q9 H locs fx hex hF hB hcell hcv hcl => ?_) (fun v9 H locs f1 h1 hF hB => ?_)
            · exact hex.elim
            obtain ⟨z9, rfl, -, rfl, h9⟩ := h1
            obtain rfl : z9 = 4 := h9.trans (by decide)
            refine W.eq (g2 := F0 m 31 ls [.int (q_i 4), .int (q_i (0 + 1)), .int (q_i y73)]) rfl ?_
            refine q_icge (tgt := 42) cx ⟨by decide, by decide⟩ ⟨by decide, by decide⟩ dX8_isWord_31 (by decide) (fun c76 => ?_) (fun c76 => ?_)
            · exact absurd c76 (by omega)
            · refine q_ald_n cx dX8_isWord_34 rfl (lv_at hl 2 rfl) ?_
              refine q_ild_n cx dX8_isWord_35 rfl (lv_at hl 0 rfl) ?_
              refine q_cXT (As := [.int (q_i (0 + 1))]) (rest := [.int (q_i y73)]) cx hX hB (fun _ h => h) (fun _ h _ => h) hN (q_srec hX (by decide) hB) (s_charAt l g ad hN hB.2.1 5 (by decide) 1 (by decide) (by decide)) q_cX8_72 q_dJ0_charAt_5068e (by decide) rfl rfl hl.1 rfl (Nat.le_of_ble_eq_true rfl) dX8_isWord_36 (fun E9 ce9 q9 H locs fx hex hF hB hcell hcv hcl => ?_) (fun v9 H locs f1 h1 hF hB => ?_)
              · exact hex.elim
              obtain ⟨z9, rfl, -, rfl, h9⟩ := h1
              obtain rfl : z9 = 111 := h9.trans (by decide)
              refine W.eq (g2 := F0 m 39 ls [.int (q_i 111), .int (q_i y73)]) rfl ?_
              refine lv_goto (tgt := 43) cx.1 cx.2.1 dX8_isWord_39 (by decide) ?_
              refine q_iceq (tgt := 48) cx ⟨by omega, by omega⟩ ⟨by decide, by decide⟩ dX8_isWord_43 (by decide) (fun c77 => ?_) (fun c77 => ?_)
              · refine q_iinc (lv' := [(2, .int (q_i ((0 + 1) + 1))), (0, .ref so), (1, .ref (ad 5))]) cx dX8_isWord_48 hl (k := 0) rfl (by decide) rfl (fun ls hl => ?_)
                refine lv_goto (tgt := 12) cx.1 cx.2.1 dX8_isWord_51 (by decide) ?_
                refine q_ild_n cx dX8_isWord_12 rfl (lv_at hl 0 rfl) ?_
                refine q_bipush cx dX8_isWord_13 rfl ?_
                refine q_icge (tgt := 54) cx ⟨by decide, by decide⟩ ⟨by decide, by decide⟩ dX8_isWord_15 (by decide) (fun c78 => ?_) (fun c78 => ?_)
                · exact absurd c78 (by omega)
                · refine q_ald_n cx dX8_isWord_18 rfl (lv_at hl 1 rfl) ?_
                  refine q_gX8_56 cx hB hso kso (tk_tc_w htc hf1 hk9) dX8_isWord_19 ?_
                  refine q_ild_n cx dX8_isWord_22 rfl (lv_at hl 0 rfl) ?_
                  refine q_cSi (As := [.long (tk_cw (tk_w B tn ss)), .int (q_i ((0 + 1) + 1))]) (rest := []) cx hB (fun _ h => h) hN (f_letterOf l g hN hB.2.1 (tk_w B tn ss) (tk_cw (tk_w B tn ss)) ((0 + 1) + 1) (by decide) (by decide) rfl hiw9) q_cX8_63 q_dX8_letterOf (by decide) rfl rfl hl.1 rfl (Nat.le_of_ble_eq_true rfl) dX8_isWord_23 (fun y80 H locs f79 ry80 h81 hF hB => ?_)
                  obtain ⟨rfl, t82⟩ := h81
                  refine q_ild_n cx dX8_isWord_26 rfl (lv_at hl 0 rfl) ?_
                  refine q_ald_n cx dX8_isWord_27 rfl (lv_at hl 2 rfl) ?_
                  refine q_cXT (As := []) (rest := [.int (q_i ((0 + 1) + 1)), .int (q_i y80)]) cx hX hB (fun _ h => h) (fun _ h _ => h) hN (q_srec hX (by decide) hB) (s_length l g ad hN hB.2.1 5 (by decide)) q_cX8_67 q_dJ0_length_8abf5 (by decide) rfl rfl hl.1 rfl (Nat.le_of_ble_eq_true rfl) dX8_isWord_28 (fun E9 ce9 q9 H locs fx hex hF hB hcell hcv hcl => ?_) (fun v9 H locs f1 h1 hF hB => ?_)
                  · exact hex.elim
                  obtain ⟨z9, rfl, -, rfl, h9⟩ := h1
                  obtain rfl : z9 = 4 := h9.trans (by decide)
                  refine W.eq (g2 := F0 m 31 ls [.int (q_i 4), .int (q_i ((0 + 1) + 1)), .int (q_i y80)]) rfl ?_
                  refine q_icge (tgt := 42) cx ⟨by decide, by decide⟩ ⟨by decide, by decide⟩ dX8_isWord_31 (by decide) (fun c83 => ?_) (fun c83 => ?_)
                  · exact absurd c83 (by omega)
                  · refine q_ald_n cx dX8_isWord_34 rfl (lv_at hl 2 rfl) ?_
                    refine q_ild_n cx dX8_isWord_35 rfl (lv_at hl 0 rfl) ?_
                    refine q_cXT (As := [.int (q_i ((0 + 1) + 1))]) (rest := [.int (q_i y80)]) cx hX hB (fun _ h => h) (fun _ h _ => h) hN (q_srec hX (by decide) hB) (s_charAt l g ad hN hB.2.1 5 (by decide) 2 (by decide) (by decide)) q_cX8_72 q_dJ0_charAt_5068e (by decide) rfl rfl hl.1 rfl (Nat.le_of_ble_eq_true rfl) dX8_isWord_36 (fun E9 ce9 q9 H locs fx hex hF hB hcell hcv hcl => ?_) (fun v9 H locs f1 h1 hF hB => ?_)
                    · exact hex.elim
                    obtain ⟨z9, rfl, -, rfl, h9⟩ := h1
                    obtain rfl : z9 = 114 := h9.trans (by decide)
                    refine W.eq (g2 := F0 m 39 ls [.int (q_i 114), .int (q_i y80)]) rfl ?_
                    refine lv_goto (tgt := 43) cx.1 cx.2.1 dX8_isWord_39 (by decide) ?_
                    refine q_iceq (tgt := 48) cx ⟨by omega, by omega⟩ ⟨by decide, by decide⟩ dX8_isWord_43 (by decide) (fun c84 => ?_) (fun c84 => ?_)
                    · refine q_iinc (lv' := [(2, .int (q_i (((0 + 1) + 1) + 1))), (0, .ref so), (1, .ref (ad 5))]) cx dX8_isWord_48 hl (k := 0) rfl (by decide) rfl (fun ls hl => ?_)
                      refine lv_goto (tgt := 12) cx.1 cx.2.1 dX8_isWord_51 (by decide) ?_
                      refine q_ild_n cx dX8_isWord_12 rfl (lv_at hl 0 rfl) ?_
                      refine q_bipush cx dX8_isWord_13 rfl ?_
                      refine q_icge (tgt := 54) cx ⟨by decide, by decide⟩ ⟨by decide, by decide⟩ dX8_isWord_15 (by decide) (fun c85 => ?_) (fun c85 => ?_)
                      · exact absurd c85 (by omega)
                      · refine q_ald_n cx dX8_isWord_18 rfl (lv_at hl 1 rfl) ?_
                        refine q_gX8_56 cx hB hso kso (tk_tc_w htc hf1 hk9) dX8_isWord_19 ?_
                        refine q_ild_n cx dX8_isWord_22 rfl (lv_at hl 0 rfl) ?_
                        refine q_cSi (As := [.long (tk_cw (tk_w B tn ss)), .int (q_i (((0 + 1) + 1) + 1))]) (rest := []) cx hB (fun _ h => h) hN (f_letterOf l g hN hB.2.1 (tk_w B tn ss) (tk_cw (tk_w B tn ss)) (((0 + 1) + 1) + 1) (by decide) (by decide) rfl hiw9) q_cX8_63 q_dX8_letterOf (by decide) rfl rfl hl.1 rfl (Nat.le_of_ble_eq_true rfl) dX8_isWord_23 (fun y87 H locs f86 ry87 h88 hF hB => ?_)
                        obtain ⟨rfl, t89⟩ := h88
                        refine q_ild_n cx dX8_isWord_26 rfl (lv_at hl 0 rfl) ?_
                        refine q_ald_n cx dX8_isWord_27 rfl (lv_at hl 2 rfl) ?_
                        refine q_cXT (As := []) (rest := [.int (q_i (((0 + 1) + 1) + 1)), .int (q_i y87)]) cx hX hB (fun _ h => h) (fun _ h _ => h) hN (q_srec hX (by decide) hB) (s_length l g ad hN hB.2.1 5 (by decide)) q_cX8_67 q_dJ0_length_8abf5 (by decide) rfl rfl hl.1 rfl (Nat.le_of_ble_eq_true rfl) dX8_isWord_28 (fun E9 ce9 q9 H locs fx hex hF hB hcell hcv hcl => ?_) (fun v9 H locs f1 h1 hF hB => ?_)
                        · exact hex.elim
                        obtain ⟨z9, rfl, -, rfl, h9⟩ := h1
                        obtain rfl : z9 = 4 := h9.trans (by decide)
                        refine W.eq (g2 := F0 m 31 ls [.int (q_i 4), .int (q_i (((0 + 1) + 1) + 1)), .int (q_i y87)]) rfl ?_
                        refine q_icge (tgt := 42) cx ⟨by decide, by decide⟩ ⟨by decide, by decide⟩ dX8_isWord_31 (by decide) (fun c90 => ?_) (fun c90 => ?_)
                        · exact absurd c90 (by omega)
                        · refine q_ald_n cx dX8_isWord_34 rfl (lv_at hl 2 rfl) ?_
                          refine q_ild_n cx dX8_isWord_35 rfl (lv_at hl 0 rfl) ?_
                          refine q_cXT (As := [.int (q_i (((0 + 1) + 1) + 1))]) (rest := [.int (q_i y87)]) cx hX hB (fun _ h => h) (fun _ h _ => h) hN (q_srec hX (by decide) hB) (s_charAt l g ad hN hB.2.1 5 (by decide) 3 (by decide) (by decide)) q_cX8_72 q_dJ0_charAt_5068e (by decide) rfl rfl hl.1 rfl (Nat.le_of_ble_eq_true rfl) dX8_isWord_36 (fun E9 ce9 q9 H locs fx hex hF hB hcell hcv hcl => ?_) (fun v9 H locs f1 h1 hF hB => ?_)
                          · exact hex.elim
                          obtain ⟨z9, rfl, -, rfl, h9⟩ := h1
                          obtain rfl : z9 = 110 := h9.trans (by decide)
                          refine W.eq (g2 := F0 m 39 ls [.int (q_i 110), .int (q_i y87)]) rfl ?_
                          refine lv_goto (tgt := 43) cx.1 cx.2.1 dX8_isWord_39 (by decide) ?_
                          refine q_iceq (tgt := 48) cx ⟨by omega, by omega⟩ ⟨by decide, by decide⟩ dX8_isWord_43 (by decide) (fun c91 => ?_) (fun c91 => ?_)
                          · refine q_iinc (lv' := [(2, .int (q_i ((((0 + 1) + 1) + 1) + 1))), (0, .ref so), (1, .ref (ad 5))]) cx dX8_isWord_48 hl (k := 0) rfl (by decide) rfl (fun ls hl => ?_)
                            refine lv_goto (tgt := 12) cx.1 cx.2.1 dX8_isWord_51 (by decide) ?_
                            refine q_ild_n cx dX8_isWord_12 rfl (lv_at hl 0 rfl) ?_
                            refine q_bipush cx dX8_isWord_13 rfl ?_
                            refine q_icge (tgt := 54) cx ⟨by decide, by decide⟩ ⟨by decide, by decide⟩ dX8_isWord_15 (by decide) (fun c92 => ?_) (fun c92 => ?_)
                            · exact absurd c92 (by omega)
                            · refine q_ald_n cx dX8_isWord_18 rfl (lv_at hl 1 rfl) ?_
                              refine q_gX8_56 cx hB hso kso (tk_tc_w htc hf1 hk9) dX8_isWord_19 ?_
                              refine q_ild_n cx dX8_isWord_22 rfl (lv_at hl 0 rfl) ?_
                              refine q_cSi (As := [.long (tk_cw (tk_w B tn ss)), .int (q_i ((((0 + 1) + 1) + 1) + 1))]) (rest := []) cx hB (fun _ h => h) hN (f_letterOf l g hN hB.2.1 (tk_w B tn ss) (tk_cw (tk_w B tn ss)) ((((0 + 1) + 1) + 1) + 1) (by decide) (by decide) rfl hiw9) q_cX8_63 q_dX8_letterOf (by decide) rfl rfl hl.1 rfl (Nat.le_of_ble_eq_true rfl) dX8_isWord_23 (fun y94 H locs f93 ry94 h95 hF hB => ?_)
                              obtain ⟨rfl, t96⟩ := h95
                              refine q_ild_n cx dX8_isWord_26 rfl (lv_at hl 0 rfl) ?_
                              refine q_ald_n cx dX8_isWord_27 rfl (lv_at hl 2 rfl) ?_
                              refine q_cXT (As := []) (rest := [.int (q_i ((((0 + 1) + 1) + 1) + 1)), .int (q_i y94)]) cx hX hB (fun _ h => h) (fun _ h _ => h) hN (q_srec hX (by decide) hB) (s_length l g ad hN hB.2.1 5 (by decide)) q_cX8_67 q_dJ0_length_8abf5 (by decide) rfl rfl hl.1 rfl (Nat.le_of_ble_eq_true rfl) dX8_isWord_28 (fun E9 ce9 q9 H locs fx hex hF hB hcell hcv hcl => ?_) (fun v9 H locs f1 h1 hF hB => ?_)
                              · exact hex.elim
                              obtain ⟨z9, rfl, -, rfl, h9⟩ := h1
                              obtain rfl : z9 = 4 := h9.trans (by decide)
                              refine W.eq (g2 := F0 m 31 ls [.int (q_i 4), .int (q_i ((((0 + 1) + 1) + 1) + 1)), .int (q_i y94)]) rfl ?_
                              refine q_icge (tgt := 42) cx ⟨by decide, by decide⟩ ⟨by decide, by decide⟩ dX8_isWord_31 (by decide) (fun c97 => ?_) (fun c97 => ?_)
                              · refine q_iconst cx dX8_isWord_42 ?_
                                refine q_iceq (tgt := 48) cx ⟨by omega, by omega⟩ ⟨by decide, by decide⟩ dX8_isWord_43 (by decide) (fun c98 => ?_) (fun c98 => ?_)
                                · refine q_iinc (lv' := [(2, .int (q_i (((((0 + 1) + 1) + 1) + 1) + 1))), (0, .ref so), (1, .ref (ad 5))]) cx dX8_isWord_48 hl (k := 0) rfl (by decide) rfl (fun ls hl => ?_)
                                  refine lv_goto (tgt := 12) cx.1 cx.2.1 dX8_isWord_51 (by decide) ?_
                                  refine q_ild_n cx dX8_isWord_12 rfl (lv_at hl 0 rfl) ?_
                                  refine q_bipush cx dX8_isWord_13 rfl ?_
                                  refine q_icge (tgt := 54) cx ⟨by decide, by decide⟩ ⟨by decide, by decide⟩ dX8_isWord_15 (by decide) (fun c99 => ?_) (fun c99 => ?_)
                                  · exact absurd c99 (by omega)
                                  · refine q_ald_n cx dX8_isWord_18 rfl (lv_at hl 1 rfl) ?_
                                    refine q_gX8_56 cx hB hso kso (tk_tc_w htc hf1 hk9) dX8_isWord_19 ?_
                                    refine q_ild_n cx dX8_isWord_22 rfl (lv_at hl 0 rfl) ?_
                                    refine q_cSi (As := [.long (tk_cw (tk_w B tn ss)), .int (q_i (((((0 + 1) + 1) + 1) + 1) + 1))]) (rest := []) cx hB (fun _ h => h) hN (f_letterOf l g hN hB.2.1 (tk_w B tn ss) (tk_cw (tk_w B tn ss)) (((((0 + 1) + 1) + 1) + 1) + 1) (by decide) (by decide) rfl hiw9) q_cX8_63 q_dX8_letterOf (by decide) rfl rfl hl.1 rfl (Nat.le_of_ble_eq_true rfl) dX8_isWord_23 (fun y101 H locs f100 ry101 h102 hF hB => ?_)
                                    obtain ⟨rfl, t103⟩ := h102
                                    refine q_ild_n cx dX8_isWord_26 rfl (lv_at hl 0 rfl) ?_
                                    refine q_ald_n cx dX8_isWord_27 rfl (lv_at hl 2 rfl) ?_
                                    refine q_cXT (As := []) (rest := [.int (q_i (((((0 + 1) + 1) + 1) + 1) + 1)), .int (q_i y101)]) cx hX hB (fun _ h => h) (fun _ h _ => h) hN (q_srec hX (by decide) hB) (s_length l g ad hN hB.2.1 5 (by decide)) q_cX8_67 q_dJ0_length_8abf5 (by decide) rfl rfl hl.1 rfl (Nat.le_of_ble_eq_true rfl) dX8_isWord_28 (fun E9 ce9 q9 H locs fx hex hF hB hcell hcv hcl => ?_) (fun v9 H locs f1 h1 hF hB => ?_)
                                    · exact hex.elim
                                    obtain ⟨z9, rfl, -, rfl, h9⟩ := h1
                                    obtain rfl : z9 = 4 := h9.trans (by decide)
                                    refine W.eq (g2 := F0 m 31 ls [.int (q_i 4), .int (q_i (((((0 + 1) + 1) + 1) + 1) + 1)), .int (q_i y101)]) rfl ?_
                                    refine q_icge (tgt := 42) cx ⟨by decide, by decide⟩ ⟨by decide, by decide⟩ dX8_isWord_31 (by decide) (fun c104 => ?_) (fun c104 => ?_)
                                    · refine q_iconst cx dX8_isWord_42 ?_
                                      refine q_iceq (tgt := 48) cx ⟨by omega, by omega⟩ ⟨by decide, by decide⟩ dX8_isWord_43 (by decide) (fun c105 => ?_) (fun c105 => ?_)
                                      · refine q_iinc (lv' := [(2, .int (q_i ((((((0 + 1) + 1) + 1) + 1) + 1) + 1))), (0, .ref so), (1, .ref (ad 5))]) cx dX8_isWord_48 hl (k := 0) rfl (by decide) rfl (fun ls hl => ?_)
                                        refine lv_goto (tgt := 12) cx.1 cx.2.1 dX8_isWord_51 (by decide) ?_
                                        refine q_ild_n cx dX8_isWord_12 rfl (lv_at hl 0 rfl) ?_
                                        refine q_bipush cx dX8_isWord_13 rfl ?_
                                        refine q_icge (tgt := 54) cx ⟨by decide, by decide⟩ ⟨by decide, by decide⟩ dX8_isWord_15 (by decide) (fun c106 => ?_) (fun c106 => ?_)
                                        · exact absurd c106 (by omega)
                                        · refine q_ald_n cx dX8_isWord_18 rfl (lv_at hl 1 rfl) ?_
                                          refine q_gX8_56 cx hB hso kso (tk_tc_w htc hf1 hk9) dX8_isWord_19 ?_
                                          refine q_ild_n cx dX8_isWord_22 rfl (lv_at hl 0 rfl) ?_
                                          refine q_cSi (As := [.long (tk_cw (tk_w B tn ss)), .int (q_i ((((((0 + 1) + 1) + 1) + 1) + 1) + 1))]) (rest := []) cx hB (fun _ h => h) hN (f_letterOf l g hN hB.2.1 (tk_w B tn ss) (tk_cw (tk_w B tn ss)) ((((((0 + 1) + 1) + 1) + 1) + 1) + 1) (by decide) (by decide) rfl hiw9) q_cX8_63 q_dX8_letterOf (by decide) rfl rfl hl.1 rfl (Nat.le_of_ble_eq_true rfl) dX8_isWord_23 (fun y108 H locs f107 ry108 h109 hF hB => ?_)
                                          obtain ⟨rfl, t110⟩ := h109
                                          refine q_ild_n cx dX8_isWord_26 rfl (lv_at hl 0 rfl) ?_
                                          refine q_ald_n cx dX8_isWord_27 rfl (lv_at hl 2 rfl) ?_
                                          refine q_cXT (As := []) (rest := [.int (q_i ((((((0 + 1) + 1) + 1) + 1) + 1) + 1)), .int (q_i y108)]) cx hX hB (fun _ h => h) (fun _ h _ => h) hN (q_srec hX (by decide) hB) (s_length l g ad hN hB.2.1 5 (by decide)) q_cX8_67 q_dJ0_length_8abf5 (by decide) rfl rfl hl.1 rfl (Nat.le_of_ble_eq_true rfl) dX8_isWord_28 (fun E9 ce9 q9 H locs fx hex hF hB hcell hcv hcl => ?_) (fun v9 H locs f1 h1 hF hB => ?_)
                                          · exact hex.elim
                                          obtain ⟨z9, rfl, -, rfl, h9⟩ := h1
                                          obtain rfl : z9 = 4 := h9.trans (by decide)
                                          refine W.eq (g2 := F0 m 31 ls [.int (q_i 4), .int (q_i ((((((0 + 1) + 1) + 1) + 1) + 1) + 1)), .int (q_i y108)]) rfl ?_
                                          refine q_icge (tgt := 42) cx ⟨by decide, by decide⟩ ⟨by decide, by decide⟩ dX8_isWord_31 (by decide) (fun c111 => ?_) (fun c111 => ?_)
                                          · refine q_iconst cx dX8_isWord_42 ?_
                                            refine q_iceq (tgt := 48) cx ⟨by omega, by omega⟩ ⟨by decide, by decide⟩ dX8_isWord_43 (by decide) (fun c112 => ?_) (fun c112 => ?_)
                                            · refine q_iinc (lv' := [(2, .int (q_i (((((((0 + 1) + 1) + 1) + 1) + 1) + 1) + 1))), (0, .ref so), (1, .ref (ad 5))]) cx dX8_isWord_48 hl (k := 0) rfl (by decide) rfl (fun ls hl => ?_)
                                              refine lv_goto (tgt := 12) cx.1 cx.2.1 dX8_isWord_51 (by decide) ?_
                                              refine q_ild_n cx dX8_isWord_12 rfl (lv_at hl 0 rfl) ?_
                                              refine q_bipush cx dX8_isWord_13 rfl ?_
                                              refine q_icge (tgt := 54) cx ⟨by decide, by decide⟩ ⟨by decide, by decide⟩ dX8_isWord_15 (by decide) (fun c113 => ?_) (fun c113 => ?_)
                                              · exact absurd c113 (by omega)
                                              · refine q_ald_n cx dX8_isWord_18 rfl (lv_at hl 1 rfl) ?_
                                                refine q_gX8_56 cx hB hso kso (tk_tc_w htc hf1 hk9) dX8_isWord_19 ?_
                                                refine q_ild_n cx dX8_isWord_22 rfl (lv_at hl 0 rfl) ?_
                                                refine q_cSi (As := [.long (tk_cw (tk_w B tn ss)), .int (q_i (((((((0 + 1) + 1) + 1) + 1) + 1) + 1) + 1))]) (rest := []) cx hB (fun _ h => h) hN (f_letterOf l g hN hB.2.1 (tk_w B tn ss) (tk_cw (tk_w B tn ss)) (((((((0 + 1) + 1) + 1) + 1) + 1) + 1) + 1) (by decide) (by decide) rfl hiw9) q_cX8_63 q_dX8_letterOf (by decide) rfl rfl hl.1 rfl (Nat.le_of_ble_eq_true rfl) dX8_isWord_23 (fun y115 H locs f114 ry115 h116 hF hB => ?_)
                                                obtain ⟨rfl, t117⟩ := h116
                                                refine q_ild_n cx dX8_isWord_26 rfl (lv_at hl 0 rfl) ?_
                                                refine q_ald_n cx dX8_isWord_27 rfl (lv_at hl 2 rfl) ?_
                                                refine q_cXT (As := []) (rest := [.int (q_i (((((((0 + 1) + 1) + 1) + 1) + 1) + 1) + 1)), .int (q_i y115)]) cx hX hB (fun _ h => h) (fun _ h _ => h) hN (q_srec hX (by decide) hB) (s_length l g ad hN hB.2.1 5 (by decide)) q_cX8_67 q_dJ0_length_8abf5 (by decide) rfl rfl hl.1 rfl (Nat.le_of_ble_eq_true rfl) dX8_isWord_28 (fun E9 ce9 q9 H locs fx hex hF hB hcell hcv hcl => ?_) (fun v9 H locs f1 h1 hF hB => ?_)
                                                · exact hex.elim
                                                obtain ⟨z9, rfl, -, rfl, h9⟩ := h1
                                                obtain rfl : z9 = 4 := h9.trans (by decide)
                                                refine W.eq (g2 := F0 m 31 ls [.int (q_i 4), .int (q_i (((((((0 + 1) + 1) + 1) + 1) + 1) + 1) + 1)), .int (q_i y115)]) rfl ?_
                                                refine q_icge (tgt := 42) cx ⟨by decide, by decide⟩ ⟨by decide, by decide⟩ dX8_isWord_31 (by decide) (fun c118 => ?_) (fun c118 => ?_)
                                                · refine q_iconst cx dX8_isWord_42 ?_
                                                  refine q_iceq (tgt := 48) cx ⟨by omega, by omega⟩ ⟨by decide, by decide⟩ dX8_isWord_43 (by decide) (fun c119 => ?_) (fun c119 => ?_)
                                                  · refine q_iinc (lv' := [(2, .int (q_i ((((((((0 + 1) + 1) + 1) + 1) + 1) + 1) + 1) + 1))), (0, .ref so), (1, .ref (ad 5))]) cx dX8_isWord_48 hl (k := 0) rfl (by decide) rfl (fun ls hl => ?_)
                                                    refine lv_goto (tgt := 12) cx.1 cx.2.1 dX8_isWord_51 (by decide) ?_
                                                    refine q_ild_n cx dX8_isWord_12 rfl (lv_at hl 0 rfl) ?_
                                                    refine q_bipush cx dX8_isWord_13 rfl ?_
                                                    refine q_icge (tgt := 54) cx ⟨by decide, by decide⟩ ⟨by decide, by decide⟩ dX8_isWord_15 (by decide) (fun c120 => ?_) (fun c120 => ?_)
                                                    · refine q_iconst cx dX8_isWord_54 ?_
                                                      refine W.widen (k := 0) (n := 0) (by decide) (by decide) ?_
                                                      refine vx_ret ?_
                                                      refine q_zret cx hr hlk hB dX8_isWord_55 (by decide) (by decide) ?_
                                                      exact (Or.inl ⟨rfl, rfl, ⟨hk9, tk_is8 hiw9 (by unfold tk_isw tk_wBorn; decide) ((t68).symm.trans ((by omega : y66 = 98).trans (rfl : (98 : Int) = tk_wBorn.getD 0 0))) ((t75).symm.trans ((by omega : y73 = 111).trans (rfl : (111 : Int) = tk_wBorn.getD 1 0))) ((t82).symm.trans ((by omega : y80 = 114).trans (rfl : (114 : Int) = tk_wBorn.getD 2 0))) ((t89).symm.trans ((by omega : y87 = 110).trans (rfl : (110 : Int) = tk_wBorn.getD 3 0))) ((t96).symm.trans ((by omega : y94 = 0).trans (rfl : (0 : Int) = tk_wBorn.getD 4 0))) ((t103).symm.trans ((by omega : y101 = 0).trans (rfl : (0 : Int) = tk_wBorn.getD 5 0))) ((t110).symm.trans ((by omega : y108 = 0).trans (rfl : (0 : Int) = tk_wBorn.getD 6 0))) ((t117).symm.trans ((by omega : y115 = 0).trans (rfl : (0 : Int) = tk_wBorn.getD 7 0)))⟩⟩)
                                                    · exact absurd c120 (by omega)
                                                  · refine q_iconst cx dX8_isWord_46 ?_
                                                    refine W.widen (k := 0) (n := 0) (by decide) (by decide) ?_
                                                    refine vx_ret ?_
                                                    refine q_zret cx hr hlk hB dX8_isWord_47 (by decide) (by decide) ?_
                                                    exact (Or.inr ⟨rfl, rfl, (fun h9 => absurd ((t117).trans ((congrArg (fun l9 => List.getD l9 7 0) h9.2).trans (show tk_wBorn.getD 7 0 = (0 : Int) from rfl))) (by omega))⟩)
                                                · exact absurd c118 (by omega)
                                            · refine q_iconst cx dX8_isWord_46 ?_
                                              refine W.widen (k := 0) (n := 0) (by decide) (by decide) ?_
                                              refine vx_ret ?_
                                              refine q_zret cx hr hlk hB dX8_isWord_47 (by decide) (by decide) ?_
                                              exact (Or.inr ⟨rfl, rfl, (fun h9 => absurd ((t110).trans ((congrArg (fun l9 => List.getD l9 6 0) h9.2).trans (show tk_wBorn.getD 6 0 = (0 : Int) from rfl))) (by omega))⟩)
                                          · exact absurd c111 (by omega)
                                      · refine q_iconst cx dX8_isWord_46 ?_
                                        refine W.widen (k := 0) (n := 0) (by decide) (by decide) ?_
                                        refine vx_ret ?_
                                        refine q_zret cx hr hlk hB dX8_isWord_47 (by decide) (by decide) ?_
                                        exact (Or.inr ⟨rfl, rfl, (fun h9 => absurd ((t103).trans ((congrArg (fun l9 => List.getD l9 5 0) h9.2).trans (show tk_wBorn.getD 5 0 = (0 : Int) from rfl))) (by omega))⟩)
                                    · exact absurd c104 (by omega)
                                · refine q_iconst cx dX8_isWord_46 ?_
                                  refine W.widen (k := 0) (n := 0) (by decide) (by decide) ?_
                                  refine vx_ret ?_
                                  refine q_zret cx hr hlk hB dX8_isWord_47 (by decide) (by decide) ?_
                                  exact (Or.inr ⟨rfl, rfl, (fun h9 => absurd ((t96).trans ((congrArg (fun l9 => List.getD l9 4 0) h9.2).trans (show tk_wBorn.getD 4 0 = (0 : Int) from rfl))) (by omega))⟩)
                              · exact absurd c97 (by omega)
                          · refine q_iconst cx dX8_isWord_46 ?_
                            refine W.widen (k := 0) (n := 0) (by decide) (by decide) ?_
                            refine vx_ret ?_
                            refine q_zret cx hr hlk hB dX8_isWord_47 (by decide) (by decide) ?_
                            exact (Or.inr ⟨rfl, rfl, (fun h9 => absurd ((t89).trans ((congrArg (fun l9 => List.getD l9 3 0) h9.2).trans (show tk_wBorn.getD 3 0 = (110 : Int) from rfl))) (by omega))⟩)
                    · refine q_iconst cx dX8_isWord_46 ?_
                      refine W.widen (k := 0) (n := 0) (by decide) (by decide) ?_
                      refine vx_ret ?_
                      refine q_zret cx hr hlk hB dX8_isWord_47 (by decide) (by decide) ?_
                      exact (Or.inr ⟨rfl, rfl, (fun h9 => absurd ((t82).trans ((congrArg (fun l9 => List.getD l9 2 0) h9.2).trans (show tk_wBorn.getD 2 0 = (114 : Int) from rfl))) (by omega))⟩)
              · refine q_iconst cx dX8_isWord_46 ?_
                refine W.widen (k := 0) (n := 0) (by decide) (by decide) ?_
                refine vx_ret ?_
                refine q_zret cx hr hlk hB dX8_isWord_47 (by decide) (by decide) ?_
                exact (Or.inr ⟨rfl, rfl, (fun h9 => absurd ((t75).trans ((congrArg (fun l9 => List.getD l9 1 0) h9.2).trans (show tk_wBorn.getD 1 0 = (111 : Int) from rfl))) (by omega))⟩)
        · refine q_iconst cx dX8_isWord_46 ?_
          refine W.widen (k := 0) (n := 0) (by decide) (by decide) ?_
          refine vx_ret ?_
          refine q_zret cx hr hlk hB dX8_isWord_47 (by decide) (by decide) ?_
          exact (Or.inr ⟨rfl, rfl, (fun h9 => absurd ((t68).trans ((congrArg (fun l9 => List.getD l9 0 0) h9.2).trans (show tk_wBorn.getD 0 0 = (98 : Int) from rfl))) (by omega))⟩)
  · refine q_iconst cx dX8_isWord_8 ?_
    refine W.widen (k := 0) (n := 0) (by decide) (by decide) ?_
    refine vx_ret ?_
    refine q_zret cx hr hlk hB dX8_isWord_9 (by decide) (by decide) ?_
    exact (Or.inr ⟨rfl, rfl, (fun h9 => absurd ((tk_tc_k htc hf1 ex61).trans h9.1) (by omega))⟩)
set_option maxHeartbeats 4000000 in
set_option maxRecDepth 100000 in
theorem f_isWord_6 (l : Launch) (g : q_G) (ad : Nat → Nat) {K : Nat → Nat} {L : List Nat} (hN : L.Nodup) {f : Nat → va_E} (hT : q_Ty g K L f) (hfl : l.stackTraces = false) (B : Nat → Int) (so : Nat) (hso : so ∈ L) (kso : K so = 8) (ba : Nat) (hba : ba ∈ L) (kba : K ba = 142) (tn : Int) (ltn : 0 ≤ tn) (utn : tn ≤ 600) (ss : Int) (lss : 0 ≤ ss) (uss : ss ≤ 600) (hf0 : q_is (q_z f so 1) tn) (hf1 : q_is (q_z f so 8) ss) (hr0 : q_ir (q_r f so 0) ba) (htc : tk_tc f so B tn) (htb : tk_tb f ba B tn) : q_Xt l g ad K L yX8_isWord cX8_isWord 3 (some .boolean) 4 85 0 0 [.ref so, .ref (ad 6)] f [] (q_Pi (fun (z : Int) (f1 : Nat → va_E) => (f = f1 ∧ z = 1 ∧ (tk_isw9 B tn tk_wShift ss)) ∨ (f = f1 ∧ z = 0 ∧ (¬ tk_isw9 B tn tk_wShift ss)))) (fun (_ : String) (_ : Nat → va_E) => False) := by
  refine q_xofb (by decide +kernel) hN hT (Nat.le_of_ble_eq_true rfl) ?_
  intro p e s m below meth c ls cx hr hlk htab hX hB hl
  have hl : lv_has ls 3 [(0, .ref so), (1, .ref (ad 6))] := hl
  obtain ⟨H, hH⟩ : ∃ H : Heap, H = s.heap := ⟨_, rfl⟩
  obtain ⟨locs, hlocs⟩ : ∃ z : List Loc, z = [] := ⟨_, rfl⟩
  rw [← hH, ← hlocs] at hB
  rw [← hH, ← hlocs]
  refine q_ald_n cx dX8_isWord_0 rfl (lv_at hl 0 rfl) ?_
  obtain ⟨x61, ex61⟩ : ∃ zz, q_is (q_z f so 6) zz := ⟨_, q_isr _⟩
  refine q_gX8_40 cx hB hso kso ex61 dX8_isWord_1 (fun lb62 ub62 => ?_)
  refine q_iconst cx dX8_isWord_4 ?_
  refine q_iceq (tgt := 10) cx ⟨by omega, by omega⟩ ⟨by decide, by decide⟩ dX8_isWord_5 (by decide) (fun c63 => ?_) (fun c63 => ?_)
  · have hk9 : tk_k B tn ss = 1 := (Eq.symm (tk_tc_k htc hf1 ex61)).trans (by omega)
    have hiw9 : tk_isw (tk_w B tn ss) := tk_w_isw lss
    refine q_iconst cx dX8_isWord_10 ?_
    refine lv_istore_n (lv' := [(2, .int (q_i 0)), (0, .ref so), (1, .ref (ad 6))]) cx.1 cx.2.1 dX8_isWord_11 rfl hl (by decide) rfl (fun ls hl => ?_)
    refine q_ild_n cx dX8_isWord_12 rfl (lv_at hl 0 rfl) ?_
    refine q_bipush cx dX8_isWord_13 rfl ?_
    refine q_icge (tgt := 54) cx ⟨by decide, by decide⟩ ⟨by decide, by decide⟩ dX8_isWord_15 (by decide) (fun c64 => ?_) (fun c64 => ?_)
    · exact absurd c64 (by omega)
    · refine q_ald_n cx dX8_isWord_18 rfl (lv_at hl 1 rfl) ?_
      refine q_gX8_56 cx hB hso kso (tk_tc_w htc hf1 hk9) dX8_isWord_19 ?_
      refine q_ild_n cx dX8_isWord_22 rfl (lv_at hl 0 rfl) ?_
      refine q_cSi (As := [.long (tk_cw (tk_w B tn ss)), .int (q_i 0)]) (rest := []) cx hB (fun _ h => h) hN (f_letterOf l g hN hB.2.1 (tk_w B tn ss) (tk_cw (tk_w B tn ss)) 0 (by decide) (by decide) rfl hiw9) q_cX8_63 q_dX8_letterOf (by decide) rfl rfl hl.1 rfl (Nat.le_of_ble_eq_true rfl) dX8_isWord_23 (fun y66 H locs f65 ry66 h67 hF hB => ?_)
      obtain ⟨rfl, t68⟩ := h67
      refine q_ild_n cx dX8_isWord_26 rfl (lv_at hl 0 rfl) ?_
      refine q_ald_n cx dX8_isWord_27 rfl (lv_at hl 2 rfl) ?_
      refine q_cXT (As := []) (rest := [.int (q_i 0), .int (q_i y66)]) cx hX hB (fun _ h => h) (fun _ h _ => h) hN (q_srec hX (by decide) hB) (s_length l g ad hN hB.2.1 6 (by decide)) q_cX8_67 q_dJ0_length_8abf5 (by decide) rfl rfl hl.1 rfl (Nat.le_of_ble_eq_true rfl) dX8_isWord_28 (fun E9 ce9 q9 H locs fx hex hF hB hcell hcv hcl => ?_) (fun v9 H locs f1 h1 hF hB => ?_)
      · exact hex.elim
      obtain ⟨z9, rfl, -, rfl, h9⟩ := h1
      obtain rfl : z9 = 5 := h9.trans (by decide)
      refine W.eq (g2 := F0 m 31 ls [.int (q_i 5), .int (q_i 0), .int (q_i y66)]) rfl ?_
      refine q_icge (tgt := 42) cx ⟨by decide, by decide⟩ ⟨by decide, by decide⟩ dX8_isWord_31 (by decide) (fun c69 => ?_) (fun c69 => ?_)
      · exact absurd c69 (by omega)
      · refine q_ald_n cx dX8_isWord_34 rfl (lv_at hl 2 rfl) ?_
        refine q_ild_n cx dX8_isWord_35 rfl (lv_at hl 0 rfl) ?_
        refine q_cXT (As := [.int (q_i 0)]) (rest := [.int (q_i y66)]) cx hX hB (fun _ h => h) (fun _ h _ => h) hN (q_srec hX (by decide) hB) (s_charAt l g ad hN hB.2.1 6 (by decide) 0 (by decide) (by decide)) q_cX8_72 q_dJ0_charAt_5068e (by decide) rfl rfl hl.1 rfl (Nat.le_of_ble_eq_true rfl) dX8_isWord_36 (fun E9 ce9 q9 H locs fx hex hF hB hcell hcv hcl => ?_) (fun v9 H locs f1 h1 hF hB => ?_)
        · exact hex.elim
        obtain ⟨z9, rfl, -, rfl, h9⟩ := h1
        obtain rfl : z9 = 115 := h9.trans (by decide)
        refine W.eq (g2 := F0 m 39 ls [.int (q_i 115), .int (q_i y66)]) rfl ?_
        refine lv_goto (tgt := 43) cx.1 cx.2.1 dX8_isWord_39 (by decide) ?_
        refine q_iceq (tgt := 48) cx ⟨by omega, by omega⟩ ⟨by decide, by decide⟩ dX8_isWord_43 (by decide) (fun c70 => ?_) (fun c70 => ?_)
        · refine q_iinc (lv' := [(2, .int (q_i (0 + 1))), (0, .ref so), (1, .ref (ad 6))]) cx dX8_isWord_48 hl (k := 0) rfl (by decide) rfl (fun ls hl => ?_)
          refine lv_goto (tgt := 12) cx.1 cx.2.1 dX8_isWord_51 (by decide) ?_
          refine q_ild_n cx dX8_isWord_12 rfl (lv_at hl 0 rfl) ?_
          refine q_bipush cx dX8_isWord_13 rfl ?_
          refine q_icge (tgt := 54) cx ⟨by decide, by decide⟩ ⟨by decide, by decide⟩ dX8_isWord_15 (by decide) (fun c71 => ?_) (fun c71 => ?_)
          · exact absurd c71 (by omega)
          · refine q_ald_n cx dX8_isWord_18 rfl (lv_at hl 1 rfl) ?_
            refine q_gX8_56 cx hB hso kso (tk_tc_w htc hf1 hk9) dX8_isWord_19 ?_
            refine q_ild_n cx dX8_isWord_22 rfl (lv_at hl 0 rfl) ?_
            refine q_cSi (As := [.long (tk_cw (tk_w B tn ss)), .int (q_i (0 + 1))]) (rest := []) cx hB (fun _ h => h) hN (f_letterOf l g hN hB.2.1 (tk_w B tn ss) (tk_cw (tk_w B tn ss)) (0 + 1) (by decide) (by decide) rfl hiw9) q_cX8_63 q_dX8_letterOf (by decide) rfl rfl hl.1 rfl (Nat.le_of_ble_eq_true rfl) dX8_isWord_23 (fun y73 H locs f72 ry73 h74 hF hB => ?_)
            obtain ⟨rfl, t75⟩ := h74
            refine q_ild_n cx dX8_isWord_26 rfl (lv_at hl 0 rfl) ?_
            refine q_ald_n cx dX8_isWord_27 rfl (lv_at hl 2 rfl) ?_
            refine q_cXT (As := []) (rest := [.int (q_i (0 + 1)), .int (q_i y73)]) cx hX hB (fun _ h => h) (fun _ h _ => h) hN (q_srec hX (by decide) hB) (s_length l g ad hN hB.2.1 6 (by decide)) q_cX8_67 q_dJ0_length_8abf5 (by decide) rfl rfl hl.1 rfl (Nat.le_of_ble_eq_true rfl) dX8_isWord_28 (fun E9 ce9 q9 H locs fx hex hF hB hcell hcv hcl => ?_) (fun v9 H locs f1 h1 hF hB => ?_)
            · exact hex.elim
            obtain ⟨z9, rfl, -, rfl, h9⟩ := h1
            obtain rfl : z9 = 5 := h9.trans (by decide)
            refine W.eq (g2 := F0 m 31 ls [.int (q_i 5), .int (q_i (0 + 1)), .int (q_i y73)]) rfl ?_
            refine q_icge (tgt := 42) cx ⟨by decide, by decide⟩ ⟨by decide, by decide⟩ dX8_isWord_31 (by decide) (fun c76 => ?_) (fun c76 => ?_)
            · exact absurd c76 (by omega)
            · refine q_ald_n cx dX8_isWord_34 rfl (lv_at hl 2 rfl) ?_
              refine q_ild_n cx dX8_isWord_35 rfl (lv_at hl 0 rfl) ?_
              refine q_cXT (As := [.int (q_i (0 + 1))]) (rest := [.int (q_i y73)]) cx hX hB (fun _ h => h) (fun _ h _ => h) hN (q_srec hX (by decide) hB) (s_charAt l g ad hN hB.2.1 6 (by decide) 1 (by decide) (by decide)) q_cX8_72 q_dJ0_charAt_5068e (by decide) rfl rfl hl.1 rfl (Nat.le_of_ble_eq_true rfl) dX8_isWord_36 (fun E9 ce9 q9 H locs fx hex hF hB hcell hcv hcl => ?_) (fun v9 H locs f1 h1 hF hB => ?_)
              · exact hex.elim
              obtain ⟨z9, rfl, -, rfl, h9⟩ := h1
              obtain rfl : z9 = 104 := h9.trans (by decide)
              refine W.eq (g2 := F0 m 39 ls [.int (q_i 104), .int (q_i y73)]) rfl ?_
              refine lv_goto (tgt := 43) cx.1 cx.2.1 dX8_isWord_39 (by decide) ?_
              refine q_iceq (tgt := 48) cx ⟨by omega, by omega⟩ ⟨by decide, by decide⟩ dX8_isWord_43 (by decide) (fun c77 => ?_) (fun c77 => ?_)
              · refine q_iinc (lv' := [(2, .int (q_i ((0 + 1) + 1))), (0, .ref so), (1, .ref (ad 6))]) cx dX8_isWord_48 hl (k := 0) rfl (by decide) rfl (fun ls hl => ?_)
                refine lv_goto (tgt := 12) cx.1 cx.2.1 dX8_isWord_51 (by decide) ?_
                refine q_ild_n cx dX8_isWord_12 rfl (lv_at hl 0 rfl) ?_
                refine q_bipush cx dX8_isWord_13 rfl ?_
                refine q_icge (tgt := 54) cx ⟨by decide, by decide⟩ ⟨by decide, by decide⟩ dX8_isWord_15 (by decide) (fun c78 => ?_) (fun c78 => ?_)
                · exact absurd c78 (by omega)
                · refine q_ald_n cx dX8_isWord_18 rfl (lv_at hl 1 rfl) ?_
                  refine q_gX8_56 cx hB hso kso (tk_tc_w htc hf1 hk9) dX8_isWord_19 ?_
                  refine q_ild_n cx dX8_isWord_22 rfl (lv_at hl 0 rfl) ?_
                  refine q_cSi (As := [.long (tk_cw (tk_w B tn ss)), .int (q_i ((0 + 1) + 1))]) (rest := []) cx hB (fun _ h => h) hN (f_letterOf l g hN hB.2.1 (tk_w B tn ss) (tk_cw (tk_w B tn ss)) ((0 + 1) + 1) (by decide) (by decide) rfl hiw9) q_cX8_63 q_dX8_letterOf (by decide) rfl rfl hl.1 rfl (Nat.le_of_ble_eq_true rfl) dX8_isWord_23 (fun y80 H locs f79 ry80 h81 hF hB => ?_)
                  obtain ⟨rfl, t82⟩ := h81
                  refine q_ild_n cx dX8_isWord_26 rfl (lv_at hl 0 rfl) ?_
                  refine q_ald_n cx dX8_isWord_27 rfl (lv_at hl 2 rfl) ?_
                  refine q_cXT (As := []) (rest := [.int (q_i ((0 + 1) + 1)), .int (q_i y80)]) cx hX hB (fun _ h => h) (fun _ h _ => h) hN (q_srec hX (by decide) hB) (s_length l g ad hN hB.2.1 6 (by decide)) q_cX8_67 q_dJ0_length_8abf5 (by decide) rfl rfl hl.1 rfl (Nat.le_of_ble_eq_true rfl) dX8_isWord_28 (fun E9 ce9 q9 H locs fx hex hF hB hcell hcv hcl => ?_) (fun v9 H locs f1 h1 hF hB => ?_)
                  · exact hex.elim
                  obtain ⟨z9, rfl, -, rfl, h9⟩ := h1
                  obtain rfl : z9 = 5 := h9.trans (by decide)
                  refine W.eq (g2 := F0 m 31 ls [.int (q_i 5), .int (q_i ((0 + 1) + 1)), .int (q_i y80)]) rfl ?_
                  refine q_icge (tgt := 42) cx ⟨by decide, by decide⟩ ⟨by decide, by decide⟩ dX8_isWord_31 (by decide) (fun c83 => ?_) (fun c83 => ?_)
                  · exact absurd c83 (by omega)
                  · refine q_ald_n cx dX8_isWord_34 rfl (lv_at hl 2 rfl) ?_
                    refine q_ild_n cx dX8_isWord_35 rfl (lv_at hl 0 rfl) ?_
                    refine q_cXT (As := [.int (q_i ((0 + 1) + 1))]) (rest := [.int (q_i y80)]) cx hX hB (fun _ h => h) (fun _ h _ => h) hN (q_srec hX (by decide) hB) (s_charAt l g ad hN hB.2.1 6 (by decide) 2 (by decide) (by decide)) q_cX8_72 q_dJ0_charAt_5068e (by decide) rfl rfl hl.1 rfl (Nat.le_of_ble_eq_true rfl) dX8_isWord_36 (fun E9 ce9 q9 H locs fx hex hF hB hcell hcv hcl => ?_) (fun v9 H locs f1 h1 hF hB => ?_)
                    · exact hex.elim
                    obtain ⟨z9, rfl, -, rfl, h9⟩ := h1
                    obtain rfl : z9 = 105 := h9.trans (by decide)
                    refine W.eq (g2 := F0 m 39 ls [.int (q_i 105), .int (q_i y80)]) rfl ?_
                    refine lv_goto (tgt := 43) cx.1 cx.2.1 dX8_isWord_39 (by decide) ?_
                    refine q_iceq (tgt := 48) cx ⟨by omega, by omega⟩ ⟨by decide, by decide⟩ dX8_isWord_43 (by decide) (fun c84 => ?_) (fun c84 => ?_)
                    · refine q_iinc (lv' := [(2, .int (q_i (((0 + 1) + 1) + 1))), (0, .ref so), (1, .ref (ad 6))]) cx dX8_isWord_48 hl (k := 0) rfl (by decide) rfl (fun ls hl => ?_)
                      refine lv_goto (tgt := 12) cx.1 cx.2.1 dX8_isWord_51 (by decide) ?_
                      refine q_ild_n cx dX8_isWord_12 rfl (lv_at hl 0 rfl) ?_
                      refine q_bipush cx dX8_isWord_13 rfl ?_
                      refine q_icge (tgt := 54) cx ⟨by decide, by decide⟩ ⟨by decide, by decide⟩ dX8_isWord_15 (by decide) (fun c85 => ?_) (fun c85 => ?_)
                      · exact absurd c85 (by omega)
                      · refine q_ald_n cx dX8_isWord_18 rfl (lv_at hl 1 rfl) ?_
                        refine q_gX8_56 cx hB hso kso (tk_tc_w htc hf1 hk9) dX8_isWord_19 ?_
                        refine q_ild_n cx dX8_isWord_22 rfl (lv_at hl 0 rfl) ?_
                        refine q_cSi (As := [.long (tk_cw (tk_w B tn ss)), .int (q_i (((0 + 1) + 1) + 1))]) (rest := []) cx hB (fun _ h => h) hN (f_letterOf l g hN hB.2.1 (tk_w B tn ss) (tk_cw (tk_w B tn ss)) (((0 + 1) + 1) + 1) (by decide) (by decide) rfl hiw9) q_cX8_63 q_dX8_letterOf (by decide) rfl rfl hl.1 rfl (Nat.le_of_ble_eq_true rfl) dX8_isWord_23 (fun y87 H locs f86 ry87 h88 hF hB => ?_)
                        obtain ⟨rfl, t89⟩ := h88
                        refine q_ild_n cx dX8_isWord_26 rfl (lv_at hl 0 rfl) ?_
                        refine q_ald_n cx dX8_isWord_27 rfl (lv_at hl 2 rfl) ?_
                        refine q_cXT (As := []) (rest := [.int (q_i (((0 + 1) + 1) + 1)), .int (q_i y87)]) cx hX hB (fun _ h => h) (fun _ h _ => h) hN (q_srec hX (by decide) hB) (s_length l g ad hN hB.2.1 6 (by decide)) q_cX8_67 q_dJ0_length_8abf5 (by decide) rfl rfl hl.1 rfl (Nat.le_of_ble_eq_true rfl) dX8_isWord_28 (fun E9 ce9 q9 H locs fx hex hF hB hcell hcv hcl => ?_) (fun v9 H locs f1 h1 hF hB => ?_)
                        · exact hex.elim
                        obtain ⟨z9, rfl, -, rfl, h9⟩ := h1
                        obtain rfl : z9 = 5 := h9.trans (by decide)
                        refine W.eq (g2 := F0 m 31 ls [.int (q_i 5), .int (q_i (((0 + 1) + 1) + 1)), .int (q_i y87)]) rfl ?_
                        refine q_icge (tgt := 42) cx ⟨by decide, by decide⟩ ⟨by decide, by decide⟩ dX8_isWord_31 (by decide) (fun c90 => ?_) (fun c90 => ?_)
                        · exact absurd c90 (by omega)
                        · refine q_ald_n cx dX8_isWord_34 rfl (lv_at hl 2 rfl) ?_
                          refine q_ild_n cx dX8_isWord_35 rfl (lv_at hl 0 rfl) ?_
                          refine q_cXT (As := [.int (q_i (((0 + 1) + 1) + 1))]) (rest := [.int (q_i y87)]) cx hX hB (fun _ h => h) (fun _ h _ => h) hN (q_srec hX (by decide) hB) (s_charAt l g ad hN hB.2.1 6 (by decide) 3 (by decide) (by decide)) q_cX8_72 q_dJ0_charAt_5068e (by decide) rfl rfl hl.1 rfl (Nat.le_of_ble_eq_true rfl) dX8_isWord_36 (fun E9 ce9 q9 H locs fx hex hF hB hcell hcv hcl => ?_) (fun v9 H locs f1 h1 hF hB => ?_)
                          · exact hex.elim
                          obtain ⟨z9, rfl, -, rfl, h9⟩ := h1
                          obtain rfl : z9 = 102 := h9.trans (by decide)
                          refine W.eq (g2 := F0 m 39 ls [.int (q_i 102), .int (q_i y87)]) rfl ?_
                          refine lv_goto (tgt := 43) cx.1 cx.2.1 dX8_isWord_39 (by decide) ?_
                          refine q_iceq (tgt := 48) cx ⟨by omega, by omega⟩ ⟨by decide, by decide⟩ dX8_isWord_43 (by decide) (fun c91 => ?_) (fun c91 => ?_)
                          · refine q_iinc (lv' := [(2, .int (q_i ((((0 + 1) + 1) + 1) + 1))), (0, .ref so), (1, .ref (ad 6))]) cx dX8_isWord_48 hl (k := 0) rfl (by decide) rfl (fun ls hl => ?_)
                            refine lv_goto (tgt := 12) cx.1 cx.2.1 dX8_isWord_51 (by decide) ?_
                            refine q_ild_n cx dX8_isWord_12 rfl (lv_at hl 0 rfl) ?_
                            refine q_bipush cx dX8_isWord_13 rfl ?_
                            refine q_icge (tgt := 54) cx ⟨by decide, by decide⟩ ⟨by decide, by decide⟩ dX8_isWord_15 (by decide) (fun c92 => ?_) (fun c92 => ?_)
                            · exact absurd c92 (by omega)
                            · refine q_ald_n cx dX8_isWord_18 rfl (lv_at hl 1 rfl) ?_
                              refine q_gX8_56 cx hB hso kso (tk_tc_w htc hf1 hk9) dX8_isWord_19 ?_
                              refine q_ild_n cx dX8_isWord_22 rfl (lv_at hl 0 rfl) ?_
                              refine q_cSi (As := [.long (tk_cw (tk_w B tn ss)), .int (q_i ((((0 + 1) + 1) + 1) + 1))]) (rest := []) cx hB (fun _ h => h) hN (f_letterOf l g hN hB.2.1 (tk_w B tn ss) (tk_cw (tk_w B tn ss)) ((((0 + 1) + 1) + 1) + 1) (by decide) (by decide) rfl hiw9) q_cX8_63 q_dX8_letterOf (by decide) rfl rfl hl.1 rfl (Nat.le_of_ble_eq_true rfl) dX8_isWord_23 (fun y94 H locs f93 ry94 h95 hF hB => ?_)
                              obtain ⟨rfl, t96⟩ := h95
                              refine q_ild_n cx dX8_isWord_26 rfl (lv_at hl 0 rfl) ?_
                              refine q_ald_n cx dX8_isWord_27 rfl (lv_at hl 2 rfl) ?_
                              refine q_cXT (As := []) (rest := [.int (q_i ((((0 + 1) + 1) + 1) + 1)), .int (q_i y94)]) cx hX hB (fun _ h => h) (fun _ h _ => h) hN (q_srec hX (by decide) hB) (s_length l g ad hN hB.2.1 6 (by decide)) q_cX8_67 q_dJ0_length_8abf5 (by decide) rfl rfl hl.1 rfl (Nat.le_of_ble_eq_true rfl) dX8_isWord_28 (fun E9 ce9 q9 H locs fx hex hF hB hcell hcv hcl => ?_) (fun v9 H locs f1 h1 hF hB => ?_)
                              · exact hex.elim
                              obtain ⟨z9, rfl, -, rfl, h9⟩ := h1
                              obtain rfl : z9 = 5 := h9.trans (by decide)
                              refine W.eq (g2 := F0 m 31 ls [.int (q_i 5), .int (q_i ((((0 + 1) + 1) + 1) + 1)), .int (q_i y94)]) rfl ?_
                              refine q_icge (tgt := 42) cx ⟨by decide, by decide⟩ ⟨by decide, by decide⟩ dX8_isWord_31 (by decide) (fun c97 => ?_) (fun c97 => ?_)
                              · exact absurd c97 (by omega)
                              · refine q_ald_n cx dX8_isWord_34 rfl (lv_at hl 2 rfl) ?_
                                refine q_ild_n cx dX8_isWord_35 rfl (lv_at hl 0 rfl) ?_
                                refine q_cXT (As := [.int (q_i ((((0 + 1) + 1) + 1) + 1))]) (rest := [.int (q_i y94)]) cx hX hB (fun _ h => h) (fun _ h _ => h) hN (q_srec hX (by decide) hB) (s_charAt l g ad hN hB.2.1 6 (by decide) 4 (by decide) (by decide)) q_cX8_72 q_dJ0_charAt_5068e (by decide) rfl rfl hl.1 rfl (Nat.le_of_ble_eq_true rfl) dX8_isWord_36 (fun E9 ce9 q9 H locs fx hex hF hB hcell hcv hcl => ?_) (fun v9 H locs f1 h1 hF hB => ?_)
                                · exact hex.elim
                                obtain ⟨z9, rfl, -, rfl, h9⟩ := h1
                                obtain rfl : z9 = 116 := h9.trans (by decide)
                                refine W.eq (g2 := F0 m 39 ls [.int (q_i 116), .int (q_i y94)]) rfl ?_
                                refine lv_goto (tgt := 43) cx.1 cx.2.1 dX8_isWord_39 (by decide) ?_
                                refine q_iceq (tgt := 48) cx ⟨by omega, by omega⟩ ⟨by decide, by decide⟩ dX8_isWord_43 (by decide) (fun c98 => ?_) (fun c98 => ?_)
                                · refine q_iinc (lv' := [(2, .int (q_i (((((0 + 1) + 1) + 1) + 1) + 1))), (0, .ref so), (1, .ref (ad 6))]) cx dX8_isWord_48 hl (k := 0) rfl (by decide) rfl (fun ls hl => ?_)
                                  refine lv_goto (tgt := 12) cx.1 cx.2.1 dX8_isWord_51 (by decide) ?_
                                  refine q_ild_n cx dX8_isWord_12 rfl (lv_at hl 0 rfl) ?_
                                  refine q_bipush cx dX8_isWord_13 rfl ?_
                                  refine q_icge (tgt := 54) cx ⟨by decide, by decide⟩ ⟨by decide, by decide⟩ dX8_isWord_15 (by decide) (fun c99 => ?_) (fun c99 => ?_)
                                  · exact absurd c99 (by omega)
                                  · refine q_ald_n cx dX8_isWord_18 rfl (lv_at hl 1 rfl) ?_
                                    refine q_gX8_56 cx hB hso kso (tk_tc_w htc hf1 hk9) dX8_isWord_19 ?_
                                    refine q_ild_n cx dX8_isWord_22 rfl (lv_at hl 0 rfl) ?_
                                    refine q_cSi (As := [.long (tk_cw (tk_w B tn ss)), .int (q_i (((((0 + 1) + 1) + 1) + 1) + 1))]) (rest := []) cx hB (fun _ h => h) hN (f_letterOf l g hN hB.2.1 (tk_w B tn ss) (tk_cw (tk_w B tn ss)) (((((0 + 1) + 1) + 1) + 1) + 1) (by decide) (by decide) rfl hiw9) q_cX8_63 q_dX8_letterOf (by decide) rfl rfl hl.1 rfl (Nat.le_of_ble_eq_true rfl) dX8_isWord_23 (fun y101 H locs f100 ry101 h102 hF hB => ?_)
                                    obtain ⟨rfl, t103⟩ := h102
                                    refine q_ild_n cx dX8_isWord_26 rfl (lv_at hl 0 rfl) ?_
                                    refine q_ald_n cx dX8_isWord_27 rfl (lv_at hl 2 rfl) ?_
                                    refine q_cXT (As := []) (rest := [.int (q_i (((((0 + 1) + 1) + 1) + 1) + 1)), .int (q_i y101)]) cx hX hB (fun _ h => h) (fun _ h _ => h) hN (q_srec hX (by decide) hB) (s_length l g ad hN hB.2.1 6 (by decide)) q_cX8_67 q_dJ0_length_8abf5 (by decide) rfl rfl hl.1 rfl (Nat.le_of_ble_eq_true rfl) dX8_isWord_28 (fun E9 ce9 q9 H locs fx hex hF hB hcell hcv hcl => ?_) (fun v9 H locs f1 h1 hF hB => ?_)
                                    · exact hex.elim
                                    obtain ⟨z9, rfl, -, rfl, h9⟩ := h1
                                    obtain rfl : z9 = 5 := h9.trans (by decide)
                                    refine W.eq (g2 := F0 m 31 ls [.int (q_i 5), .int (q_i (((((0 + 1) + 1) + 1) + 1) + 1)), .int (q_i y101)]) rfl ?_
                                    refine q_icge (tgt := 42) cx ⟨by decide, by decide⟩ ⟨by decide, by decide⟩ dX8_isWord_31 (by decide) (fun c104 => ?_) (fun c104 => ?_)
                                    · refine q_iconst cx dX8_isWord_42 ?_
                                      refine q_iceq (tgt := 48) cx ⟨by omega, by omega⟩ ⟨by decide, by decide⟩ dX8_isWord_43 (by decide) (fun c105 => ?_) (fun c105 => ?_)
                                      · refine q_iinc (lv' := [(2, .int (q_i ((((((0 + 1) + 1) + 1) + 1) + 1) + 1))), (0, .ref so), (1, .ref (ad 6))]) cx dX8_isWord_48 hl (k := 0) rfl (by decide) rfl (fun ls hl => ?_)
                                        refine lv_goto (tgt := 12) cx.1 cx.2.1 dX8_isWord_51 (by decide) ?_
                                        refine q_ild_n cx dX8_isWord_12 rfl (lv_at hl 0 rfl) ?_
                                        refine q_bipush cx dX8_isWord_13 rfl ?_
                                        refine q_icge (tgt := 54) cx ⟨by decide, by decide⟩ ⟨by decide, by decide⟩ dX8_isWord_15 (by decide) (fun c106 => ?_) (fun c106 => ?_)
                                        · exact absurd c106 (by omega)
                                        · refine q_ald_n cx dX8_isWord_18 rfl (lv_at hl 1 rfl) ?_
                                          refine q_gX8_56 cx hB hso kso (tk_tc_w htc hf1 hk9) dX8_isWord_19 ?_
                                          refine q_ild_n cx dX8_isWord_22 rfl (lv_at hl 0 rfl) ?_
                                          refine q_cSi (As := [.long (tk_cw (tk_w B tn ss)), .int (q_i ((((((0 + 1) + 1) + 1) + 1) + 1) + 1))]) (rest := []) cx hB (fun _ h => h) hN (f_letterOf l g hN hB.2.1 (tk_w B tn ss) (tk_cw (tk_w B tn ss)) ((((((0 + 1) + 1) + 1) + 1) + 1) + 1) (by decide) (by decide) rfl hiw9) q_cX8_63 q_dX8_letterOf (by decide) rfl rfl hl.1 rfl (Nat.le_of_ble_eq_true rfl) dX8_isWord_23 (fun y108 H locs f107 ry108 h109 hF hB => ?_)
                                          obtain ⟨rfl, t110⟩ := h109
                                          refine q_ild_n cx dX8_isWord_26 rfl (lv_at hl 0 rfl) ?_
                                          refine q_ald_n cx dX8_isWord_27 rfl (lv_at hl 2 rfl) ?_
                                          refine q_cXT (As := []) (rest := [.int (q_i ((((((0 + 1) + 1) + 1) + 1) + 1) + 1)), .int (q_i y108)]) cx hX hB (fun _ h => h) (fun _ h _ => h) hN (q_srec hX (by decide) hB) (s_length l g ad hN hB.2.1 6 (by decide)) q_cX8_67 q_dJ0_length_8abf5 (by decide) rfl rfl hl.1 rfl (Nat.le_of_ble_eq_true rfl) dX8_isWord_28 (fun E9 ce9 q9 H locs fx hex hF hB hcell hcv hcl => ?_) (fun v9 H locs f1 h1 hF hB => ?_)
                                          · exact hex.elim
                                          obtain ⟨z9, rfl, -, rfl, h9⟩ := h1
                                          obtain rfl : z9 = 5 := h9.trans (by decide)
                                          refine W.eq (g2 := F0 m 31 ls [.int (q_i 5), .int (q_i ((((((0 + 1) + 1) + 1) + 1) + 1) + 1)), .int (q_i y108)]) rfl ?_
                                          refine q_icge (tgt := 42) cx ⟨by decide, by decide⟩ ⟨by decide, by decide⟩ dX8_isWord_31 (by decide) (fun c111 => ?_) (fun c111 => ?_)
                                          · refine q_iconst cx dX8_isWord_42 ?_
                                            refine q_iceq (tgt := 48) cx ⟨by omega, by omega⟩ ⟨by decide, by decide⟩ dX8_isWord_43 (by decide) (fun c112 => ?_) (fun c112 => ?_)
                                            · refine q_iinc (lv' := [(2, .int (q_i (((((((0 + 1) + 1) + 1) + 1) + 1) + 1) + 1))), (0, .ref so), (1, .ref (ad 6))]) cx dX8_isWord_48 hl (k := 0) rfl (by decide) rfl (fun ls hl => ?_)
                                              refine lv_goto (tgt := 12) cx.1 cx.2.1 dX8_isWord_51 (by decide) ?_
                                              refine q_ild_n cx dX8_isWord_12 rfl (lv_at hl 0 rfl) ?_
                                              refine q_bipush cx dX8_isWord_13 rfl ?_
                                              refine q_icge (tgt := 54) cx ⟨by decide, by decide⟩ ⟨by decide, by decide⟩ dX8_isWord_15 (by decide) (fun c113 => ?_) (fun c113 => ?_)
                                              · exact absurd c113 (by omega)
                                              · refine q_ald_n cx dX8_isWord_18 rfl (lv_at hl 1 rfl) ?_
                                                refine q_gX8_56 cx hB hso kso (tk_tc_w htc hf1 hk9) dX8_isWord_19 ?_
                                                refine q_ild_n cx dX8_isWord_22 rfl (lv_at hl 0 rfl) ?_
                                                refine q_cSi (As := [.long (tk_cw (tk_w B tn ss)), .int (q_i (((((((0 + 1) + 1) + 1) + 1) + 1) + 1) + 1))]) (rest := []) cx hB (fun _ h => h) hN (f_letterOf l g hN hB.2.1 (tk_w B tn ss) (tk_cw (tk_w B tn ss)) (((((((0 + 1) + 1) + 1) + 1) + 1) + 1) + 1) (by decide) (by decide) rfl hiw9) q_cX8_63 q_dX8_letterOf (by decide) rfl rfl hl.1 rfl (Nat.le_of_ble_eq_true rfl) dX8_isWord_23 (fun y115 H locs f114 ry115 h116 hF hB => ?_)
                                                obtain ⟨rfl, t117⟩ := h116
                                                refine q_ild_n cx dX8_isWord_26 rfl (lv_at hl 0 rfl) ?_
                                                refine q_ald_n cx dX8_isWord_27 rfl (lv_at hl 2 rfl) ?_
                                                refine q_cXT (As := []) (rest := [.int (q_i (((((((0 + 1) + 1) + 1) + 1) + 1) + 1) + 1)), .int (q_i y115)]) cx hX hB (fun _ h => h) (fun _ h _ => h) hN (q_srec hX (by decide) hB) (s_length l g ad hN hB.2.1 6 (by decide)) q_cX8_67 q_dJ0_length_8abf5 (by decide) rfl rfl hl.1 rfl (Nat.le_of_ble_eq_true rfl) dX8_isWord_28 (fun E9 ce9 q9 H locs fx hex hF hB hcell hcv hcl => ?_) (fun v9 H locs f1 h1 hF hB => ?_)
                                                · exact hex.elim
                                                obtain ⟨z9, rfl, -, rfl, h9⟩ := h1
                                                obtain rfl : z9 = 5 := h9.trans (by decide)
                                                refine W.eq (g2 := F0 m 31 ls [.int (q_i 5), .int (q_i (((((((0 + 1) + 1) + 1) + 1) + 1) + 1) + 1)), .int (q_i y115)]) rfl ?_
                                                refine q_icge (tgt := 42) cx ⟨by decide, by decide⟩ ⟨by decide, by decide⟩ dX8_isWord_31 (by decide) (fun c118 => ?_) (fun c118 => ?_)
                                                · refine q_iconst cx dX8_isWord_42 ?_
                                                  refine q_iceq (tgt := 48) cx ⟨by omega, by omega⟩ ⟨by decide, by decide⟩ dX8_isWord_43 (by decide) (fun c119 => ?_) (fun c119 => ?_)
                                                  · refine q_iinc (lv' := [(2, .int (q_i ((((((((0 + 1) + 1) + 1) + 1) + 1) + 1) + 1) + 1))), (0, .ref so), (1, .ref (ad 6))]) cx dX8_isWord_48 hl (k := 0) rfl (by decide) rfl (fun ls hl => ?_)
                                                    refine lv_goto (tgt := 12) cx.1 cx.2.1 dX8_isWord_51 (by decide) ?_
                                                    refine q_ild_n cx dX8_isWord_12 rfl (lv_at hl 0 rfl) ?_
                                                    refine q_bipush cx dX8_isWord_13 rfl ?_
                                                    refine q_icge (tgt := 54) cx ⟨by decide, by decide⟩ ⟨by decide, by decide⟩ dX8_isWord_15 (by decide) (fun c120 => ?_) (fun c120 => ?_)
                                                    · refine q_iconst cx dX8_isWord_54 ?_
                                                      refine W.widen (k := 0) (n := 0) (by decide) (by decide) ?_
                                                      refine vx_ret ?_
                                                      refine q_zret cx hr hlk hB dX8_isWord_55 (by decide) (by decide) ?_
                                                      exact (Or.inl ⟨rfl, rfl, ⟨hk9, tk_is8 hiw9 (by unfold tk_isw tk_wShift; decide) ((t68).symm.trans ((by omega : y66 = 115).trans (rfl : (115 : Int) = tk_wShift.getD 0 0))) ((t75).symm.trans ((by omega : y73 = 104).trans (rfl : (104 : Int) = tk_wShift.getD 1 0))) ((t82).symm.trans ((by omega : y80 = 105).trans (rfl : (105 : Int) = tk_wShift.getD 2 0))) ((t89).symm.trans ((by omega : y87 = 102).trans (rfl : (102 : Int) = tk_wShift.getD 3 0))) ((t96).symm.trans ((by omega : y94 = 116).trans (rfl : (116 : Int) = tk_wShift.getD 4 0))) ((t103).symm.trans ((by omega : y101 = 0).trans (rfl : (0 : Int) = tk_wShift.getD 5 0))) ((t110).symm.trans ((by omega : y108 = 0).trans (rfl : (0 : Int) = tk_wShift.getD 6 0))) ((t117).symm.trans ((by omega : y115 = 0).trans (rfl : (0 : Int) = tk_wShift.getD 7 0)))⟩⟩)
                                                    · exact absurd c120 (by omega)
                                                  · refine q_iconst cx dX8_isWord_46 ?_
                                                    refine W.widen (k := 0) (n := 0) (by decide) (by decide) ?_
                                                    refine vx_ret ?_
                                                    refine q_zret cx hr hlk hB dX8_isWord_47 (by decide) (by decide) ?_
                                                    exact (Or.inr ⟨rfl, rfl, (fun h9 => absurd ((t117).trans ((congrArg (fun l9 => List.getD l9 7 0) h9.2).trans (show tk_wShift.getD 7 0 = (0 : Int) from rfl))) (by omega))⟩)
                                                · exact absurd c118 (by omega)
                                            · refine q_iconst cx dX8_isWord_46 ?_
                                              refine W.widen (k := 0) (n := 0) (by decide) (by decide) ?_
                                              refine vx_ret ?_
                                              refine q_zret cx hr hlk hB dX8_isWord_47 (by decide) (by decide) ?_
                                              exact (Or.inr ⟨rfl, rfl, (fun h9 => absurd ((t110).trans ((congrArg (fun l9 => List.getD l9 6 0) h9.2).trans (show tk_wShift.getD 6 0 = (0 : Int) from rfl))) (by omega))⟩)
                                          · exact absurd c111 (by omega)
                                      · refine q_iconst cx dX8_isWord_46 ?_
                                        refine W.widen (k := 0) (n := 0) (by decide) (by decide) ?_
                                        refine vx_ret ?_
                                        refine q_zret cx hr hlk hB dX8_isWord_47 (by decide) (by decide) ?_
                                        exact (Or.inr ⟨rfl, rfl, (fun h9 => absurd ((t103).trans ((congrArg (fun l9 => List.getD l9 5 0) h9.2).trans (show tk_wShift.getD 5 0 = (0 : Int) from rfl))) (by omega))⟩)
                                    · exact absurd c104 (by omega)
                                · refine q_iconst cx dX8_isWord_46 ?_
                                  refine W.widen (k := 0) (n := 0) (by decide) (by decide) ?_
                                  refine vx_ret ?_
                                  refine q_zret cx hr hlk hB dX8_isWord_47 (by decide) (by decide) ?_
                                  exact (Or.inr ⟨rfl, rfl, (fun h9 => absurd ((t96).trans ((congrArg (fun l9 => List.getD l9 4 0) h9.2).trans (show tk_wShift.getD 4 0 = (116 : Int) from rfl))) (by omega))⟩)
                          · refine q_iconst cx dX8_isWord_46 ?_
                            refine W.widen (k := 0) (n := 0) (by decide) (by decide) ?_
                            refine vx_ret ?_
                            refine q_zret cx hr hlk hB dX8_isWord_47 (by decide) (by decide) ?_
                            exact (Or.inr ⟨rfl, rfl, (fun h9 => absurd ((t89).trans ((congrArg (fun l9 => List.getD l9 3 0) h9.2).trans (show tk_wShift.getD 3 0 = (102 : Int) from rfl))) (by omega))⟩)
                    · refine q_iconst cx dX8_isWord_46 ?_
                      refine W.widen (k := 0) (n := 0) (by decide) (by decide) ?_
                      refine vx_ret ?_
                      refine q_zret cx hr hlk hB dX8_isWord_47 (by decide) (by decide) ?_
                      exact (Or.inr ⟨rfl, rfl, (fun h9 => absurd ((t82).trans ((congrArg (fun l9 => List.getD l9 2 0) h9.2).trans (show tk_wShift.getD 2 0 = (105 : Int) from rfl))) (by omega))⟩)
              · refine q_iconst cx dX8_isWord_46 ?_
                refine W.widen (k := 0) (n := 0) (by decide) (by decide) ?_
                refine vx_ret ?_
                refine q_zret cx hr hlk hB dX8_isWord_47 (by decide) (by decide) ?_
                exact (Or.inr ⟨rfl, rfl, (fun h9 => absurd ((t75).trans ((congrArg (fun l9 => List.getD l9 1 0) h9.2).trans (show tk_wShift.getD 1 0 = (104 : Int) from rfl))) (by omega))⟩)
        · refine q_iconst cx dX8_isWord_46 ?_
          refine W.widen (k := 0) (n := 0) (by decide) (by decide) ?_
          refine vx_ret ?_
          refine q_zret cx hr hlk hB dX8_isWord_47 (by decide) (by decide) ?_
          exact (Or.inr ⟨rfl, rfl, (fun h9 => absurd ((t68).trans ((congrArg (fun l9 => List.getD l9 0 0) h9.2).trans (show tk_wShift.getD 0 0 = (115 : Int) from rfl))) (by omega))⟩)
  · refine q_iconst cx dX8_isWord_8 ?_
    refine W.widen (k := 0) (n := 0) (by decide) (by decide) ?_
    refine vx_ret ?_
    refine q_zret cx hr hlk hB dX8_isWord_9 (by decide) (by decide) ?_
    exact (Or.inr ⟨rfl, rfl, (fun h9 => absurd ((tk_tc_k htc hf1 ex61).trans h9.1) (by omega))⟩)
