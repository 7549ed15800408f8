set_option maxHeartbeats 4000000 in
set_option maxRecDepth 100000 in
theorem g_isWord_7 (l : Launch) (g : q_G) (ad : Nat → Nat) {K : Nat → Nat} {L : List Nat} (hN : L.Nodup) {f : Nat → va_E} (hT : q_Ty g K L f) (hfl : l.stackTraces = false) (v : Nat) (hv : v ∈ L) (kv : K v = 8) : q_Xt l g ad K L yX8_isWord cX8_isWord 3 (some .boolean) 4 85 0 0 [.ref v, .ref (ad 7)] f [] (q_Pi (fun (z : Int) (f1 : Nat → va_E) => f = f1 ∧ 0 ≤ z ∧ z ≤ 1)) (fun (_ : String) (_ : Nat → va_E) => False) := by
  refine q_xofb (by decide +kernel) hN hT (Nat.le_of_ble_eq_true rfl) ?_
  intro p e s m below meth c ls cx hr hlk htab hX hB hl
  have hl : lv_has ls 3 [(0, .ref v), (1, .ref (ad 7))] := hl
  obtain ⟨H, hH⟩ : ∃ H : Heap, H = s.heap := ⟨_, rfl⟩
  obtain ⟨locs, hlocs⟩ : ∃ z : List Loc, z = [] := ⟨_, rfl⟩
  rw [← hH, ← hlocs] at hB
  rw [← hH, ← hlocs]
  refine q_ald_n cx dX8_isWord_0 rfl (lv_at hl 0 rfl) ?_
  obtain ⟨x61, ex61⟩ : ∃ zz, q_is (q_z f v 6) zz := ⟨_, q_isr _⟩
  refine q_gX8_40 cx hB hv kv ex61 dX8_isWord_1 (fun lb62 ub62 => ?_)
  refine q_iconst cx dX8_isWord_4 ?_
  refine q_iceq (tgt := 10) cx ⟨by omega, by omega⟩ ⟨by decide, by decide⟩ dX8_isWord_5 (by decide) (fun c63 => ?_) (fun c63 => ?_)
  · refine q_iconst cx dX8_isWord_10 ?_
    refine lv_istore_n (lv' := [(2, .int (q_i 0)), (0, .ref v), (1, .ref (ad 7))]) cx.1 cx.2.1 dX8_isWord_11 rfl hl (by decide) rfl (fun ls hl => ?_)
    refine q_ild_n cx dX8_isWord_12 rfl (lv_at hl 0 rfl) ?_
    refine q_bipush cx dX8_isWord_13 rfl ?_
    refine q_icge (tgt := 54) cx ⟨by decide, by decide⟩ ⟨by decide, by decide⟩ dX8_isWord_15 (by decide) (fun c64 => ?_) (fun c64 => ?_)
    · exact absurd c64 (by omega)
    · refine q_ald_n cx dX8_isWord_18 rfl (lv_at hl 1 rfl) ?_
      obtain ⟨j65, ej65⟩ : ∃ zz, q_j f v 4 = zz := ⟨_, rfl⟩
      refine q_gX8_56 cx hB hv kv ej65 dX8_isWord_19 ?_
      refine q_ild_n cx dX8_isWord_22 rfl (lv_at hl 0 rfl) ?_
      refine q_cSi (As := [.long j65, .int (q_i 0)]) (rest := []) cx hB (fun _ h => h) hN (g_X8_letterOf l g hN hB.2.1 j65 0 (by decide) (by decide)) q_cX8_63 q_dX8_letterOf (by decide) rfl rfl hl.1 rfl (Nat.le_of_ble_eq_true rfl) dX8_isWord_23 (fun y67 H locs f66 ry67 h68 hF hB => ?_)
      obtain rfl := h68
      refine q_ild_n cx dX8_isWord_26 rfl (lv_at hl 0 rfl) ?_
      refine q_ald_n cx dX8_isWord_27 rfl (lv_at hl 2 rfl) ?_
      refine q_cXT (As := []) (rest := [.int (q_i 0), .int (q_i y67)]) cx hX hB (fun _ h => h) (fun _ h _ => h) hN (q_srec hX (by decide) hB) (s_length l g ad hN hB.2.1 7 (by decide)) q_cX8_67 q_dJ0_length_8abf5 (by decide) rfl rfl hl.1 rfl (Nat.le_of_ble_eq_true rfl) dX8_isWord_28 (fun E9 ce9 q9 H locs fx hex hF hB hcell hcv hcl => ?_) (fun v9 H locs f1 h1 hF hB => ?_)
      · exact hex.elim
      obtain ⟨z9, rfl, -, rfl, h9⟩ := h1
      obtain rfl : z9 = 6 := h9.trans (by decide)
      refine W.eq (g2 := F0 m 31 ls [.int (q_i 6), .int (q_i 0), .int (q_i y67)]) rfl ?_
      refine q_icge (tgt := 42) cx ⟨by decide, by decide⟩ ⟨by decide, by decide⟩ dX8_isWord_31 (by decide) (fun c69 => ?_) (fun c69 => ?_)
      · exact absurd c69 (by omega)
      · refine q_ald_n cx dX8_isWord_34 rfl (lv_at hl 2 rfl) ?_
        refine q_ild_n cx dX8_isWord_35 rfl (lv_at hl 0 rfl) ?_
        refine q_cXT (As := [.int (q_i 0)]) (rest := [.int (q_i y67)]) cx hX hB (fun _ h => h) (fun _ h _ => h) hN (q_srec hX (by decide) hB) (s_charAt l g ad hN hB.2.1 7 (by decide) 0 (by decide) (by decide)) q_cX8_72 q_dJ0_charAt_5068e (by decide) rfl rfl hl.1 rfl (Nat.le_of_ble_eq_true rfl) dX8_isWord_36 (fun E9 ce9 q9 H locs fx hex hF hB hcell hcv hcl => ?_) (fun v9 H locs f1 h1 hF hB => ?_)
        · exact hex.elim
        obtain ⟨z9, rfl, -, rfl, h9⟩ := h1
        obtain rfl : z9 = 101 := h9.trans (by decide)
        refine W.eq (g2 := F0 m 39 ls [.int (q_i 101), .int (q_i y67)]) rfl ?_
        refine lv_goto (tgt := 43) cx.1 cx.2.1 dX8_isWord_39 (by decide) ?_
        refine q_iceq (tgt := 48) cx ⟨by omega, by omega⟩ ⟨by decide, by decide⟩ dX8_isWord_43 (by decide) (fun c70 => ?_) (fun c70 => ?_)
        · refine q_iinc (lv' := [(2, .int (q_i (0 + 1))), (0, .ref v), (1, .ref (ad 7))]) cx dX8_isWord_48 hl (k := 0) rfl (by decide) rfl (fun ls hl => ?_)
          refine lv_goto (tgt := 12) cx.1 cx.2.1 dX8_isWord_51 (by decide) ?_
          refine q_ild_n cx dX8_isWord_12 rfl (lv_at hl 0 rfl) ?_
          refine q_bipush cx dX8_isWord_13 rfl ?_
          refine q_icge (tgt := 54) cx ⟨by decide, by decide⟩ ⟨by decide, by decide⟩ dX8_isWord_15 (by decide) (fun c71 => ?_) (fun c71 => ?_)
          · exact absurd c71 (by omega)
          · refine q_ald_n cx dX8_isWord_18 rfl (lv_at hl 1 rfl) ?_
            obtain ⟨j72, ej72⟩ : ∃ zz, q_j f v 4 = zz := ⟨_, rfl⟩
            refine q_gX8_56 cx hB hv kv ej72 dX8_isWord_19 ?_
            refine q_ild_n cx dX8_isWord_22 rfl (lv_at hl 0 rfl) ?_
            refine q_cSi (As := [.long j72, .int (q_i (0 + 1))]) (rest := []) cx hB (fun _ h => h) hN (g_X8_letterOf l g hN hB.2.1 j72 (0 + 1) (by decide) (by decide)) q_cX8_63 q_dX8_letterOf (by decide) rfl rfl hl.1 rfl (Nat.le_of_ble_eq_true rfl) dX8_isWord_23 (fun y74 H locs f73 ry74 h75 hF hB => ?_)
            obtain rfl := h75
            refine q_ild_n cx dX8_isWord_26 rfl (lv_at hl 0 rfl) ?_
            refine q_ald_n cx dX8_isWord_27 rfl (lv_at hl 2 rfl) ?_
            refine q_cXT (As := []) (rest := [.int (q_i (0 + 1)), .int (q_i y74)]) cx hX hB (fun _ h => h) (fun _ h _ => h) hN (q_srec hX (by decide) hB) (s_length l g ad hN hB.2.1 7 (by decide)) q_cX8_67 q_dJ0_length_8abf5 (by decide) rfl rfl hl.1 rfl (Nat.le_of_ble_eq_true rfl) dX8_isWord_28 (fun E9 ce9 q9 H locs fx hex hF hB hcell hcv hcl => ?_) (fun v9 H locs f1 h1 hF hB => ?_)
            · exact hex.elim
            obtain ⟨z9, rfl, -, rfl, h9⟩ := h1
            obtain rfl : z9 = 6 := h9.trans (by decide)
            refine W.eq (g2 := F0 m 31 ls [.int (q_i 6), .int (q_i (0 + 1)), .int (q_i y74)]) rfl ?_
            refine q_icge (tgt := 42) cx ⟨by decide, by decide⟩ ⟨by decide, by decide⟩ dX8_isWord_31 (by decide) (fun c76 => ?_) (fun c76 => ?_)
            · exact absurd c76 (by omega)
            · refine q_ald_n cx dX8_isWord_34 rfl (lv_at hl 2 rfl) ?_
              refine q_ild_n cx dX8_isWord_35 rfl (lv_at hl 0 rfl) ?_
              refine q_cXT (As := [.int (q_i (0 + 1))]) (rest := [.int (q_i y74)]) cx hX hB (fun _ h => h) (fun _ h _ => h) hN (q_srec hX (by decide) hB) (s_charAt l g ad hN hB.2.1 7 (by decide) 1 (by decide) (by decide)) q_cX8_72 q_dJ0_charAt_5068e (by decide) rfl rfl hl.1 rfl (Nat.le_of_ble_eq_true rfl) dX8_isWord_36 (fun E9 ce9 q9 H locs fx hex hF hB hcell hcv hcl => ?_) (fun v9 H locs f1 h1 hF hB => ?_)
              · exact hex.elim
              obtain ⟨z9, rfl, -, rfl, h9⟩ := h1
              obtain rfl : z9 = 110 := h9.trans (by decide)
              refine W.eq (g2 := F0 m 39 ls [.int (q_i 110), .int (q_i y74)]) rfl ?_
              refine lv_goto (tgt := 43) cx.1 cx.2.1 dX8_isWord_39 (by decide) ?_
              refine q_iceq (tgt := 48) cx ⟨by omega, by omega⟩ ⟨by decide, by decide⟩ dX8_isWord_43 (by decide) (fun c77 => ?_) (fun c77 => ?_)
              · refine q_iinc (lv' := [(2, .int (q_i ((0 + 1) + 1))), (0, .ref v), (1, .ref (ad 7))]) cx dX8_isWord_48 hl (k := 0) rfl (by decide) rfl (fun ls hl => ?_)
                refine lv_goto (tgt := 12) cx.1 cx.2.1 dX8_isWord_51 (by decide) ?_
                refine q_ild_n cx dX8_isWord_12 rfl (lv_at hl 0 rfl) ?_
                refine q_bipush cx dX8_isWord_13 rfl ?_
                refine q_icge (tgt := 54) cx ⟨by decide, by decide⟩ ⟨by decide, by decide⟩ dX8_isWord_15 (by decide) (fun c78 => ?_) (fun c78 => ?_)
                · exact absurd c78 (by omega)
                · refine q_ald_n cx dX8_isWord_18 rfl (lv_at hl 1 rfl) ?_
                  obtain ⟨j79, ej79⟩ : ∃ zz, q_j f v 4 = zz := ⟨_, rfl⟩
                  refine q_gX8_56 cx hB hv kv ej79 dX8_isWord_19 ?_
                  refine q_ild_n cx dX8_isWord_22 rfl (lv_at hl 0 rfl) ?_
                  refine q_cSi (As := [.long j79, .int (q_i ((0 + 1) + 1))]) (rest := []) cx hB (fun _ h => h) hN (g_X8_letterOf l g hN hB.2.1 j79 ((0 + 1) + 1) (by decide) (by decide)) q_cX8_63 q_dX8_letterOf (by decide) rfl rfl hl.1 rfl (Nat.le_of_ble_eq_true rfl) dX8_isWord_23 (fun y81 H locs f80 ry81 h82 hF hB => ?_)
                  obtain rfl := h82
                  refine q_ild_n cx dX8_isWord_26 rfl (lv_at hl 0 rfl) ?_
                  refine q_ald_n cx dX8_isWord_27 rfl (lv_at hl 2 rfl) ?_
                  refine q_cXT (As := []) (rest := [.int (q_i ((0 + 1) + 1)), .int (q_i y81)]) cx hX hB (fun _ h => h) (fun _ h _ => h) hN (q_srec hX (by decide) hB) (s_length l g ad hN hB.2.1 7 (by decide)) q_cX8_67 q_dJ0_length_8abf5 (by decide) rfl rfl hl.1 rfl (Nat.le_of_ble_eq_true rfl) dX8_isWord_28 (fun E9 ce9 q9 H locs fx hex hF hB hcell hcv hcl => ?_) (fun v9 H locs f1 h1 hF hB => ?_)
                  · exact hex.elim
                  obtain ⟨z9, rfl, -, rfl, h9⟩ := h1
                  obtain rfl : z9 = 6 := h9.trans (by decide)
                  refine W.eq (g2 := F0 m 31 ls [.int (q_i 6), .int (q_i ((0 + 1) + 1)), .int (q_i y81)]) rfl ?_
                  refine q_icge (tgt := 42) cx ⟨by decide, by decide⟩ ⟨by decide, by decide⟩ dX8_isWord_31 (by decide) (fun c83 => ?_) (fun c83 => ?_)
                  · exact absurd c83 (by omega)
                  · refine q_ald_n cx dX8_isWord_34 rfl (lv_at hl 2 rfl) ?_
                    refine q_ild_n cx dX8_isWord_35 rfl (lv_at hl 0 rfl) ?_
                    refine q_cXT (As := [.int (q_i ((0 + 1) + 1))]) (rest := [.int (q_i y81)]) cx hX hB (fun _ h => h) (fun _ h _ => h) hN (q_srec hX (by decide) hB) (s_charAt l g ad hN hB.2.1 7 (by decide) 2 (by decide) (by decide)) q_cX8_72 q_dJ0_charAt_5068e (by decide) rfl rfl hl.1 rfl (Nat.le_of_ble_eq_true rfl) dX8_isWord_36 (fun E9 ce9 q9 H locs fx hex hF hB hcell hcv hcl => ?_) (fun v9 H locs f1 h1 hF hB => ?_)
                    · exact hex.elim
                    obtain ⟨z9, rfl, -, rfl, h9⟩ := h1
                    obtain rfl : z9 = 101 := h9.trans (by decide)
                    refine W.eq (g2 := F0 m 39 ls [.int (q_i 101), .int (q_i y81)]) rfl ?_
                    refine lv_goto (tgt := 43) cx.1 cx.2.1 dX8_isWord_39 (by decide) ?_
                    refine q_iceq (tgt := 48) cx ⟨by omega, by omega⟩ ⟨by decide, by decide⟩ dX8_isWord_43 (by decide) (fun c84 => ?_) (fun c84 => ?_)
                    · refine q_iinc (lv' := [(2, .int (q_i (((0 + 1) + 1) + 1))), (0, .ref v), (1, .ref (ad 7))]) cx dX8_isWord_48 hl (k := 0) rfl (by decide) rfl (fun ls hl => ?_)
                      refine lv_goto (tgt := 12) cx.1 cx.2.1 dX8_isWord_51 (by decide) ?_
                      refine q_ild_n cx dX8_isWord_12 rfl (lv_at hl 0 rfl) ?_
                      refine q_bipush cx dX8_isWord_13 rfl ?_
                      refine q_icge (tgt := 54) cx ⟨by decide, by decide⟩ ⟨by decide, by decide⟩ dX8_isWord_15 (by decide) (fun c85 => ?_) (fun c85 => ?_)
                      · exact absurd c85 (by omega)
                      · refine q_ald_n cx dX8_isWord_18 rfl (lv_at hl 1 rfl) ?_
                        obtain ⟨j86, ej86⟩ : ∃ zz, q_j f v 4 = zz := ⟨_, rfl⟩
                        refine q_gX8_56 cx hB hv kv ej86 dX8_isWord_19 ?_
                        refine q_ild_n cx dX8_isWord_22 rfl (lv_at hl 0 rfl) ?_
                        refine q_cSi (As := [.long j86, .int (q_i (((0 + 1) + 1) + 1))]) (rest := []) cx hB (fun _ h => h) hN (g_X8_letterOf l g hN hB.2.1 j86 (((0 + 1) + 1) + 1) (by decide) (by decide)) q_cX8_63 q_dX8_letterOf (by decide) rfl rfl hl.1 rfl (Nat.le_of_ble_eq_true rfl) dX8_isWord_23 (fun y88 H locs f87 ry88 h89 hF hB => ?_)
                        obtain rfl := h89
                        refine q_ild_n cx dX8_isWord_26 rfl (lv_at hl 0 rfl) ?_
                        refine q_ald_n cx dX8_isWord_27 rfl (lv_at hl 2 rfl) ?_
                        refine q_cXT (As := []) (rest := [.int (q_i (((0 + 1) + 1) + 1)), .int (q_i y88)]) cx hX hB (fun _ h => h) (fun _ h _ => h) hN (q_srec hX (by decide) hB) (s_length l g ad hN hB.2.1 7 (by decide)) q_cX8_67 q_dJ0_length_8abf5 (by decide) rfl rfl hl.1 rfl (Nat.le_of_ble_eq_true rfl) dX8_isWord_28 (fun E9 ce9 q9 H locs fx hex hF hB hcell hcv hcl => ?_) (fun v9 H locs f1 h1 hF hB => ?_)
                        · exact hex.elim
                        obtain ⟨z9, rfl, -, rfl, h9⟩ := h1
                        obtain rfl : z9 = 6 := h9.trans (by decide)
                        refine W.eq (g2 := F0 m 31 ls [.int (q_i 6), .int (q_i (((0 + 1) + 1) + 1)), .int (q_i y88)]) rfl ?_
                        refine q_icge (tgt := 42) cx ⟨by decide, by decide⟩ ⟨by decide, by decide⟩ dX8_isWord_31 (by decide) (fun c90 => ?_) (fun c90 => ?_)
                        · exact absurd c90 (by omega)
                        · refine q_ald_n cx dX8_isWord_34 rfl (lv_at hl 2 rfl) ?_
                          refine q_ild_n cx dX8_isWord_35 rfl (lv_at hl 0 rfl) ?_
                          refine q_cXT (As := [.int (q_i (((0 + 1) + 1) + 1))]) (rest := [.int (q_i y88)]) cx hX hB (fun _ h => h) (fun _ h _ => h) hN (q_srec hX (by decide) hB) (s_charAt l g ad hN hB.2.1 7 (by decide) 3 (by decide) (by decide)) q_cX8_72 q_dJ0_charAt_5068e (by decide) rfl rfl hl.1 rfl (Nat.le_of_ble_eq_true rfl) dX8_isWord_36 (fun E9 ce9 q9 H locs fx hex hF hB hcell hcv hcl => ?_) (fun v9 H locs f1 h1 hF hB => ?_)
                          · exact hex.elim
                          obtain ⟨z9, rfl, -, rfl, h9⟩ := h1
                          obtain rfl : z9 = 114 := h9.trans (by decide)
                          refine W.eq (g2 := F0 m 39 ls [.int (q_i 114), .int (q_i y88)]) rfl ?_
                          refine lv_goto (tgt := 43) cx.1 cx.2.1 dX8_isWord_39 (by decide) ?_
                          refine q_iceq (tgt := 48) cx ⟨by omega, by omega⟩ ⟨by decide, by decide⟩ dX8_isWord_43 (by decide) (fun c91 => ?_) (fun c91 => ?_)
                          · refine q_iinc (lv' := [(2, .int (q_i ((((0 + 1) + 1) + 1) + 1))), (0, .ref v), (1, .ref (ad 7))]) cx dX8_isWord_48 hl (k := 0) rfl (by decide) rfl (fun ls hl => ?_)
                            refine lv_goto (tgt := 12) cx.1 cx.2.1 dX8_isWord_51 (by decide) ?_
                            refine q_ild_n cx dX8_isWord_12 rfl (lv_at hl 0 rfl) ?_
                            refine q_bipush cx dX8_isWord_13 rfl ?_
                            refine q_icge (tgt := 54) cx ⟨by decide, by decide⟩ ⟨by decide, by decide⟩ dX8_isWord_15 (by decide) (fun c92 => ?_) (fun c92 => ?_)
                            · exact absurd c92 (by omega)
                            · refine q_ald_n cx dX8_isWord_18 rfl (lv_at hl 1 rfl) ?_
                              obtain ⟨j93, ej93⟩ : ∃ zz, q_j f v 4 = zz := ⟨_, rfl⟩
                              refine q_gX8_56 cx hB hv kv ej93 dX8_isWord_19 ?_
                              refine q_ild_n cx dX8_isWord_22 rfl (lv_at hl 0 rfl) ?_
                              refine q_cSi (As := [.long j93, .int (q_i ((((0 + 1) + 1) + 1) + 1))]) (rest := []) cx hB (fun _ h => h) hN (g_X8_letterOf l g hN hB.2.1 j93 ((((0 + 1) + 1) + 1) + 1) (by decide) (by decide)) q_cX8_63 q_dX8_letterOf (by decide) rfl rfl hl.1 rfl (Nat.le_of_ble_eq_true rfl) dX8_isWord_23 (fun y95 H locs f94 ry95 h96 hF hB => ?_)
                              obtain rfl := h96
                              refine q_ild_n cx dX8_isWord_26 rfl (lv_at hl 0 rfl) ?_
                              refine q_ald_n cx dX8_isWord_27 rfl (lv_at hl 2 rfl) ?_
                              refine q_cXT (As := []) (rest := [.int (q_i ((((0 + 1) + 1) + 1) + 1)), .int (q_i y95)]) cx hX hB (fun _ h => h) (fun _ h _ => h) hN (q_srec hX (by decide) hB) (s_length l g ad hN hB.2.1 7 (by decide)) q_cX8_67 q_dJ0_length_8abf5 (by decide) rfl rfl hl.1 rfl (Nat.le_of_ble_eq_true rfl) dX8_isWord_28 (fun E9 ce9 q9 H locs fx hex hF hB hcell hcv hcl => ?_) (fun v9 H locs f1 h1 hF hB => ?_)
                              · exact hex.elim
                              obtain ⟨z9, rfl, -, rfl, h9⟩ := h1
                              obtain rfl : z9 = 6 := h9.trans (by decide)
                              refine W.eq (g2 := F0 m 31 ls [.int (q_i 6), .int (q_i ((((0 + 1) + 1) + 1) + 1)), .int (q_i y95)]) rfl ?_
                              refine q_icge (tgt := 42) cx ⟨by decide, by decide⟩ ⟨by decide, by decide⟩ dX8_isWord_31 (by decide) (fun c97 => ?_) (fun c97 => ?_)
                              · exact absurd c97 (by omega)
                              · refine q_ald_n cx dX8_isWord_34 rfl (lv_at hl 2 rfl) ?_
                                refine q_ild_n cx dX8_isWord_35 rfl (lv_at hl 0 rfl) ?_
                                refine q_cXT (As := [.int (q_i ((((0 + 1) + 1) + 1) + 1))]) (rest := [.int (q_i y95)]) cx hX hB (fun _ h => h) (fun _ h _ => h) hN (q_srec hX (by decide) hB) (s_charAt l g ad hN hB.2.1 7 (by decide) 4 (by decide) (by decide)) q_cX8_72 q_dJ0_charAt_5068e (by decide) rfl rfl hl.1 rfl (Nat.le_of_ble_eq_true rfl) dX8_isWord_36 (fun E9 ce9 q9 H locs fx hex hF hB hcell hcv hcl => ?_) (fun v9 H locs f1 h1 hF hB => ?_)
                                · exact hex.elim
                                obtain ⟨z9, rfl, -, rfl, h9⟩ := h1
                                obtain rfl : z9 = 103 := h9.trans (by decide)
                                refine W.eq (g2 := F0 m 39 ls [.int (q_i 103), .int (q_i y95)]) rfl ?_
                                refine lv_goto (tgt := 43) cx.1 cx.2.1 dX8_isWord_39 (by decide) ?_
                                refine q_iceq (tgt := 48) cx ⟨by omega, by omega⟩ ⟨by decide, by decide⟩ dX8_isWord_43 (by decide) (fun c98 => ?_) (fun c98 => ?_)
                                · refine q_iinc (lv' := [(2, .int (q_i (((((0 + 1) + 1) + 1) + 1) + 1))), (0, .ref v), (1, .ref (ad 7))]) cx dX8_isWord_48 hl (k := 0) rfl (by decide) rfl (fun ls hl => ?_)
                                  refine lv_goto (tgt := 12) cx.1 cx.2.1 dX8_isWord_51 (by decide) ?_
                                  refine q_ild_n cx dX8_isWord_12 rfl (lv_at hl 0 rfl) ?_
                                  refine q_bipush cx dX8_isWord_13 rfl ?_
                                  refine q_icge (tgt := 54) cx ⟨by decide, by decide⟩ ⟨by decide, by decide⟩ dX8_isWord_15 (by decide) (fun c99 => ?_) (fun c99 => ?_)
                                  · exact absurd c99 (by omega)
                                  · refine q_ald_n cx dX8_isWord_18 rfl (lv_at hl 1 rfl) ?_
                                    obtain ⟨j100, ej100⟩ : ∃ zz, q_j f v 4 = zz := ⟨_, rfl⟩
                                    refine q_gX8_56 cx hB hv kv ej100 dX8_isWord_19 ?_
                                    refine q_ild_n cx dX8_isWord_22 rfl (lv_at hl 0 rfl) ?_
                                    refine q_cSi (As := [.long j100, .int (q_i (((((0 + 1) + 1) + 1) + 1) + 1))]) (rest := []) cx hB (fun _ h => h) hN (g_X8_letterOf l g hN hB.2.1 j100 (((((0 + 1) + 1) + 1) + 1) + 1) (by decide) (by decide)) q_cX8_63 q_dX8_letterOf (by decide) rfl rfl hl.1 rfl (Nat.le_of_ble_eq_true rfl) dX8_isWord_23 (fun y102 H locs f101 ry102 h103 hF hB => ?_)
                                    obtain rfl := h103
                                    refine q_ild_n cx dX8_isWord_26 rfl (lv_at hl 0 rfl) ?_
                                    refine q_ald_n cx dX8_isWord_27 rfl (lv_at hl 2 rfl) ?_
                                    refine q_cXT (As := []) (rest := [.int (q_i (((((0 + 1) + 1) + 1) + 1) + 1)), .int (q_i y102)]) cx hX hB (fun _ h => h) (fun _ h _ => h) hN (q_srec hX (by decide) hB) (s_length l g ad hN hB.2.1 7 (by decide)) q_cX8_67 q_dJ0_length_8abf5 (by decide) rfl rfl hl.1 rfl (Nat.le_of_ble_eq_true rfl) dX8_isWord_28 (fun E9 ce9 q9 H locs fx hex hF hB hcell hcv hcl => ?_) (fun v9 H locs f1 h1 hF hB => ?_)
                                    · exact hex.elim
                                    obtain ⟨z9, rfl, -, rfl, h9⟩ := h1
                                    obtain rfl : z9 = 6 := h9.trans (by decide)
                                    refine W.eq (g2 := F0 m 31 ls [.int (q_i 6), .int (q_i (((((0 + 1) + 1) + 1) + 1) + 1)), .int (q_i y102)]) rfl ?_
                                    refine q_icge (tgt := 42) cx ⟨by decide, by decide⟩ ⟨by decide, by decide⟩ dX8_isWord_31 (by decide) (fun c104 => ?_) (fun c104 => ?_)
                                    · exact absurd c104 (by omega)
                                    · refine q_ald_n cx dX8_isWord_34 rfl (lv_at hl 2 rfl) ?_
                                      refine q_ild_n cx dX8_isWord_35 rfl (lv_at hl 0 rfl) ?_
                                      refine q_cXT (As := [.int (q_i (((((0 + 1) + 1) + 1) + 1) + 1))]) (rest := [.int (q_i y102)]) cx hX hB (fun _ h => h) (fun _ h _ => h) hN (q_srec hX (by decide) hB) (s_charAt l g ad hN hB.2.1 7 (by decide) 5 (by decide) (by decide)) q_cX8_72 q_dJ0_charAt_5068e (by decide) rfl rfl hl.1 rfl (Nat.le_of_ble_eq_true rfl) dX8_isWord_36 (fun E9 ce9 q9 H locs fx hex hF hB hcell hcv hcl => ?_) (fun v9 H locs f1 h1 hF hB => ?_)
                                      · exact hex.elim
                                      obtain ⟨z9, rfl, -, rfl, h9⟩ := h1
                                      obtain rfl : z9 = 121 := h9.trans (by decide)
                                      refine W.eq (g2 := F0 m 39 ls [.int (q_i 121), .int (q_i y102)]) rfl ?_
                                      refine lv_goto (tgt := 43) cx.1 cx.2.1 dX8_isWord_39 (by decide) ?_
                                      refine q_iceq (tgt := 48) cx ⟨by omega, by omega⟩ ⟨by decide, by decide⟩ dX8_isWord_43 (by decide) (fun c105 => ?_) (fun c105 => ?_)
                                      · refine q_iinc (lv' := [(2, .int (q_i ((((((0 + 1) + 1) + 1) + 1) + 1) + 1))), (0, .ref v), (1, .ref (ad 7))]) cx dX8_isWord_48 hl (k := 0) rfl (by decide) rfl (fun ls hl => ?_)
                                        refine lv_goto (tgt := 12) cx.1 cx.2.1 dX8_isWord_51 (by decide) ?_
                                        refine q_ild_n cx dX8_isWord_12 rfl (lv_at hl 0 rfl) ?_
                                        refine q_bipush cx dX8_isWord_13 rfl ?_
                                        refine q_icge (tgt := 54) cx ⟨by decide, by decide⟩ ⟨by decide, by decide⟩ dX8_isWord_15 (by decide) (fun c106 => ?_) (fun c106 => ?_)
                                        · exact absurd c106 (by omega)
                                        · refine q_ald_n cx dX8_isWord_18 rfl (lv_at hl 1 rfl) ?_
                                          obtain ⟨j107, ej107⟩ : ∃ zz, q_j f v 4 = zz := ⟨_, rfl⟩
                                          refine q_gX8_56 cx hB hv kv ej107 dX8_isWord_19 ?_
                                          refine q_ild_n cx dX8_isWord_22 rfl (lv_at hl 0 rfl) ?_
                                          refine q_cSi (As := [.long j107, .int (q_i ((((((0 + 1) + 1) + 1) + 1) + 1) + 1))]) (rest := []) cx hB (fun _ h => h) hN (g_X8_letterOf l g hN hB.2.1 j107 ((((((0 + 1) + 1) + 1) + 1) + 1) + 1) (by decide) (by decide)) q_cX8_63 q_dX8_letterOf (by decide) rfl rfl hl.1 rfl (Nat.le_of_ble_eq_true rfl) dX8_isWord_23 (fun y109 H locs f108 ry109 h110 hF hB => ?_)
                                          obtain rfl := h110
                                          refine q_ild_n cx dX8_isWord_26 rfl (lv_at hl 0 rfl) ?_
                                          refine q_ald_n cx dX8_isWord_27 rfl (lv_at hl 2 rfl) ?_
                                          refine q_cXT (As := []) (rest := [.int (q_i ((((((0 + 1) + 1) + 1) + 1) + 1) + 1)), .int (q_i y109)]) cx hX hB (fun _ h => h) (fun _ h _ => h) hN (q_srec hX (by decide) hB) (s_length l g ad hN hB.2.1 7 (by decide)) q_cX8_67 q_dJ0_length_8abf5 (by decide) rfl rfl hl.1 rfl (Nat.le_of_ble_eq_true rfl) dX8_isWord_28 (fun E9 ce9 q9 H locs fx hex hF hB hcell hcv hcl => ?_) (fun v9 H locs f1 h1 hF hB => ?_)
                                          · exact hex.elim
                                          obtain ⟨z9, rfl, -, rfl, h9⟩ := h1
                                          obtain rfl : z9 = 6 := h9.trans (by decide)
                                          refine W.eq (g2 := F0 m 31 ls [.int (q_i 6), .int (q_i ((((((0 + 1) + 1) + 1) + 1) + 1) + 1)), .int (q_i y109)]) rfl ?_
                                          refine q_icge (tgt := 42) cx ⟨by decide, by decide⟩ ⟨by decide, by decide⟩ dX8_isWord_31 (by decide) (fun c111 => ?_) (fun c111 => ?_)
                                          · refine q_iconst cx dX8_isWord_42 ?_
                                            refine q_iceq (tgt := 48) cx ⟨by omega, by omega⟩ ⟨by decide, by decide⟩ dX8_isWord_43 (by decide) (fun c112 => ?_) (fun c112 => ?_)
                                            · refine q_iinc (lv' := [(2, .int (q_i (((((((0 + 1) + 1) + 1) + 1) + 1) + 1) + 1))), (0, .ref v), (1, .ref (ad 7))]) cx dX8_isWord_48 hl (k := 0) rfl (by decide) rfl (fun ls hl => ?_)
                                              refine lv_goto (tgt := 12) cx.1 cx.2.1 dX8_isWord_51 (by decide) ?_
                                              refine q_ild_n cx dX8_isWord_12 rfl (lv_at hl 0 rfl) ?_
                                              refine q_bipush cx dX8_isWord_13 rfl ?_
                                              refine q_icge (tgt := 54) cx ⟨by decide, by decide⟩ ⟨by decide, by decide⟩ dX8_isWord_15 (by decide) (fun c113 => ?_) (fun c113 => ?_)
                                              · exact absurd c113 (by omega)
                                              · refine q_ald_n cx dX8_isWord_18 rfl (lv_at hl 1 rfl) ?_
                                                obtain ⟨j114, ej114⟩ : ∃ zz, q_j f v 4 = zz := ⟨_, rfl⟩
                                                refine q_gX8_56 cx hB hv kv ej114 dX8_isWord_19 ?_
                                                refine q_ild_n cx dX8_isWord_22 rfl (lv_at hl 0 rfl) ?_
                                                refine q_cSi (As := [.long j114, .int (q_i (((((((0 + 1) + 1) + 1) + 1) + 1) + 1) + 1))]) (rest := []) cx hB (fun _ h => h) hN (g_X8_letterOf l g hN hB.2.1 j114 (((((((0 + 1) + 1) + 1) + 1) + 1) + 1) + 1) (by decide) (by decide)) q_cX8_63 q_dX8_letterOf (by decide) rfl rfl hl.1 rfl (Nat.le_of_ble_eq_true rfl) dX8_isWord_23 (fun y116 H locs f115 ry116 h117 hF hB => ?_)
                                                obtain rfl := h117
                                                refine q_ild_n cx dX8_isWord_26 rfl (lv_at hl 0 rfl) ?_
                                                refine q_ald_n cx dX8_isWord_27 rfl (lv_at hl 2 rfl) ?_
                                                refine q_cXT (As := []) (rest := [.int (q_i (((((((0 + 1) + 1) + 1) + 1) + 1) + 1) + 1)), .int (q_i y116)]) cx hX hB (fun _ h => h) (fun _ h _ => h) hN (q_srec hX (by decide) hB) (s_length l g ad hN hB.2.1 7 (by decide)) q_cX8_67 q_dJ0_length_8abf5 (by decide) rfl rfl hl.1 rfl (Nat.le_of_ble_eq_true rfl) dX8_isWord_28 (fun E9 ce9 q9 H locs fx hex hF hB hcell hcv hcl => ?_) (fun v9 H locs f1 h1 hF hB => ?_)
                                                · exact hex.elim
                                                obtain ⟨z9, rfl, -, rfl, h9⟩ := h1
                                                obtain rfl : z9 = 6 := h9.trans (by decide)
                                                refine W.eq (g2 := F0 m 31 ls [.int (q_i 6), .int (q_i (((((((0 + 1) + 1) + 1) + 1) + 1) + 1) + 1)), .int (q_i y116)]) rfl ?_
                                                refine q_icge (tgt := 42) cx ⟨by decide, by decide⟩ ⟨by decide, by decide⟩ dX8_isWord_31 (by decide) (fun c118 => ?_) (fun c118 => ?_)
                                                · refine q_iconst cx dX8_isWord_42 ?_
                                                  refine q_iceq (tgt := 48) cx ⟨by omega, by omega⟩ ⟨by decide, by decide⟩ dX8_isWord_43 (by decide) (fun c119 => ?_) (fun c119 => ?_)
                                                  · refine q_iinc (lv' := [(2, .int (q_i ((((((((0 + 1) + 1) + 1) + 1) + 1) + 1) + 1) + 1))), (0, .ref v), (1, .ref (ad 7))]) cx dX8_isWord_48 hl (k := 0) rfl (by decide) rfl (fun ls hl => ?_)
                                                    refine lv_goto (tgt := 12) cx.1 cx.2.1 dX8_isWord_51 (by decide) ?_
                                                    refine q_ild_n cx dX8_isWord_12 rfl (lv_at hl 0 rfl) ?_
                                                    refine q_bipush cx dX8_isWord_13 rfl ?_
                                                    refine q_icge (tgt := 54) cx ⟨by decide, by decide⟩ ⟨by decide, by decide⟩ dX8_isWord_15 (by decide) (fun c120 => ?_) (fun c120 => ?_)
                                                    · refine q_iconst cx dX8_isWord_54 ?_
                                                      refine W.widen (k := 0) (n := 0) (by decide) (by decide) ?_
                                                      refine vx_ret ?_
                                                      refine q_zret cx hr hlk hB dX8_isWord_55 (by decide) (by decide) ?_
                                                      exact ⟨rfl, (by decide), (by decide)⟩
                                                    · exact absurd c120 (by omega)
                                                  · refine q_iconst cx dX8_isWord_46 ?_
                                                    refine W.widen (k := 0) (n := 0) (by decide) (by decide) ?_
                                                    refine vx_ret ?_
                                                    refine q_zret cx hr hlk hB dX8_isWord_47 (by decide) (by decide) ?_
                                                    exact ⟨rfl, (by decide), (by decide)⟩
                                                · exact absurd c118 (by omega)
                                            · refine q_iconst cx dX8_isWord_46 ?_
                                              refine W.widen (k := 0) (n := 0) (by decide) (by decide) ?_
                                              refine vx_ret ?_
                                              refine q_zret cx hr hlk hB dX8_isWord_47 (by decide) (by decide) ?_
                                              exact ⟨rfl, (by decide), (by decide)⟩
                                          · exact absurd c111 (by omega)
                                      · refine q_iconst cx dX8_isWord_46 ?_
                                        refine W.widen (k := 0) (n := 0) (by decide) (by decide) ?_
                                        refine vx_ret ?_
                                        refine q_zret cx hr hlk hB dX8_isWord_47 (by decide) (by decide) ?_
                                        exact ⟨rfl, (by decide), (by decide)⟩
                                · refine q_iconst cx dX8_isWord_46 ?_
                                  refine W.widen (k := 0) (n := 0) (by decide) (by decide) ?_
                                  refine vx_ret ?_
                                  refine q_zret cx hr hlk hB dX8_isWord_47 (by decide) (by decide) ?_
                                  exact ⟨rfl, (by decide), (by decide)⟩
                          · refine q_iconst cx dX8_isWord_46 ?_
                            refine W.widen (k := 0) (n := 0) (by decide) (by decide) ?_
                            refine vx_ret ?_
                            refine q_zret cx hr hlk hB dX8_isWord_47 (by decide) (by decide) ?_
                            exact ⟨rfl, (by decide), (by decide)⟩
                    · refine q_iconst cx dX8_isWord_46 ?_
                      refine W.widen (k := 0) (n := 0) (by decide) (by decide) ?_
                      refine vx_ret ?_
                      refine q_zret cx hr hlk hB dX8_isWord_47 (by decide) (by decide) ?_
                      exact ⟨rfl, (by decide), (by decide)⟩
              · refine q_iconst cx dX8_isWord_46 ?_
                refine W.widen (k := 0) (n := 0) (by decide) (by decide) ?_
                refine vx_ret ?_
                refine q_zret cx hr hlk hB dX8_isWord_47 (by decide) (by decide) ?_
                exact ⟨rfl, (by decide), (by decide)⟩
        · refine q_iconst cx dX8_isWord_46 ?_
          refine W.widen (k := 0) (n := 0) (by decide) (by decide) ?_
          refine vx_ret ?_
          refine q_zret cx hr hlk hB dX8_isWord_47 (by decide) (by decide) ?_
          exact ⟨rfl, (by decide), (by decide)⟩
  · refine q_iconst cx dX8_isWord_8 ?_
    refine W.widen (k := 0) (n := 0) (by decide) (by decide) ?_
    refine vx_ret ?_
    refine q_zret cx hr hlk hB dX8_isWord_9 (by decide) (by decide) ?_
    exact ⟨rfl, (by decide), (by decide)⟩
set_option maxHeartbeats 4000000 in
set_option maxRecDepth 100000 in
theorem g_isWord_8 (l : Launch) (g : q_G) (ad : Nat → Nat) {K : Nat → Nat} {L : List Nat} (hN : L.Nodup) {f : Nat → va_E} (hT : q_Ty g K L f) (hfl : l.stackTraces = false) (v : Nat) (hv : v ∈ L) (kv : K v = 8) : q_Xt l g ad K L yX8_isWord cX8_isWord 3 (some .boolean) 4 85 0 0 [.ref v, .ref (ad 8)] f [] (q_Pi (fun (z : Int) (f1 : Nat → va_E) => f = f1 ∧ 0 ≤ z ∧ z ≤ 1)) (fun (_ : String) (_ : Nat → va_E) => False) := by
  refine q_xofb (by decide +kernel) hN hT (Nat.le_of_ble_eq_true rfl) ?_
  intro p e s m below meth c ls cx hr hlk htab hX hB hl
  have hl : lv_has ls 3 [(0, .ref v), (1, .ref (ad 8))] := hl
  obtain ⟨H, hH⟩ : ∃ H : Heap, H = s.heap := ⟨_, rfl⟩
  obtain ⟨locs, hlocs⟩ : ∃ z : List Loc, z = [] := ⟨_, rfl⟩
  rw [← hH, ← hlocs] at hB
  rw [← hH, ← hlocs]
  refine q_ald_n cx dX8_isWord_0 rfl (lv_at hl 0 rfl) ?_
  obtain ⟨x61, ex61⟩ : ∃ zz, q_is (q_z f v 6) zz := ⟨_, q_isr _⟩
  refine q_gX8_40 cx hB hv kv ex61 dX8_isWord_1 (fun lb62 ub62 => ?_)
  refine q_iconst cx dX8_isWord_4 ?_
  refine q_iceq (tgt := 10) cx ⟨by omega, by omega⟩ ⟨by decide, by decide⟩ dX8_isWord_5 (by decide) (fun c63 => ?_) (fun c63 => ?_)
  · refine q_iconst cx dX8_isWord_10 ?_
    refine lv_istore_n (lv' := [(2, .int (q_i 0)), (0, .ref v), (1, .ref (ad 8))]) cx.1 cx.2.1 dX8_isWord_11 rfl hl (by decide) rfl (fun ls hl => ?_)
    refine q_ild_n cx dX8_isWord_12 rfl (lv_at hl 0 rfl) ?_
    refine q_bipush cx dX8_isWord_13 rfl ?_
    refine q_icge (tgt := 54) cx ⟨by decide, by decide⟩ ⟨by decide, by decide⟩ dX8_isWord_15 (by decide) (fun c64 => ?_) (fun c64 => ?_)
    · exact absurd c64 (by omega)
    · refine q_ald_n cx dX8_isWord_18 rfl (lv_at hl 1 rfl) ?_
      obtain ⟨j65, ej65⟩ : ∃ zz, q_j f v 4 = zz := ⟨_, rfl⟩
      refine q_gX8_56 cx hB hv kv ej65 dX8_isWord_19 ?_
      refine q_ild_n cx dX8_isWord_22 rfl (lv_at hl 0 rfl) ?_
      refine q_cSi (As := [.long j65, .int (q_i 0)]) (rest := []) cx hB (fun _ h => h) hN (g_X8_letterOf l g hN hB.2.1 j65 0 (by decide) (by decide)) q_cX8_63 q_dX8_letterOf (by decide) rfl rfl hl.1 rfl (Nat.le_of_ble_eq_true rfl) dX8_isWord_23 (fun y67 H locs f66 ry67 h68 hF hB => ?_)
      obtain rfl := h68
      refine q_ild_n cx dX8_isWord_26 rfl (lv_at hl 0 rfl) ?_
      refine q_ald_n cx dX8_isWord_27 rfl (lv_at hl 2 rfl) ?_
      refine q_cXT (As := []) (rest := [.int (q_i 0), .int (q_i y67)]) cx hX hB (fun _ h => h) (fun _ h _ => h) hN (q_srec hX (by decide) hB) (s_length l g ad hN hB.2.1 8 (by decide)) q_cX8_67 q_dJ0_length_8abf5 (by decide) rfl rfl hl.1 rfl (Nat.le_of_ble_eq_true rfl) dX8_isWord_28 (fun E9 ce9 q9 H locs fx hex hF hB hcell hcv hcl => ?_) (fun v9 H locs f1 h1 hF hB => ?_)
      · exact hex.elim
      obtain ⟨z9, rfl, -, rfl, h9⟩ := h1
      obtain rfl : z9 = 4 := h9.trans (by decide)
      refine W.eq (g2 := F0 m 31 ls [.int (q_i 4), .int (q_i 0), .int (q_i y67)]) rfl ?_
      refine q_icge (tgt := 42) cx ⟨by decide, by decide⟩ ⟨by decide, by decide⟩ dX8_isWord_31 (by decide) (fun c69 => ?_) (fun c69 => ?_)
      · exact absurd c69 (by omega)
      · refine q_ald_n cx dX8_isWord_34 rfl (lv_at hl 2 rfl) ?_
        refine q_ild_n cx dX8_isWord_35 rfl (lv_at hl 0 rfl) ?_
        refine q_cXT (As := [.int (q_i 0)]) (rest := [.int (q_i y67)]) cx hX hB (fun _ h => h) (fun _ h _ => h) hN (q_srec hX (by decide) hB) (s_charAt l g ad hN hB.2.1 8 (by decide) 0 (by decide) (by decide)) q_cX8_72 q_dJ0_charAt_5068e (by decide) rfl rfl hl.1 rfl (Nat.le_of_ble_eq_true rfl) dX8_isWord_36 (fun E9 ce9 q9 H locs fx hex hF hB hcell hcv hcl => ?_) (fun v9 H locs f1 h1 hF hB => ?_)
        · exact hex.elim
        obtain ⟨z9, rfl, -, rfl, h9⟩ := h1
        obtain rfl : z9 = 116 := h9.trans (by decide)
        refine W.eq (g2 := F0 m 39 ls [.int (q_i 116), .int (q_i y67)]) rfl ?_
        refine lv_goto (tgt := 43) cx.1 cx.2.1 dX8_isWord_39 (by decide) ?_
        refine q_iceq (tgt := 48) cx ⟨by omega, by omega⟩ ⟨by decide, by decide⟩ dX8_isWord_43 (by decide) (fun c70 => ?_) (fun c70 => ?_)
        · refine q_iinc (lv' := [(2, .int (q_i (0 + 1))), (0, .ref v), (1, .ref (ad 8))]) cx dX8_isWord_48 hl (k := 0) rfl (by decide) rfl (fun ls hl => ?_)
          refine lv_goto (tgt := 12) cx.1 cx.2.1 dX8_isWord_51 (by decide) ?_
          refine q_ild_n cx dX8_isWord_12 rfl (lv_at hl 0 rfl) ?_
          refine q_bipush cx dX8_isWord_13 rfl ?_
          refine q_icge (tgt := 54) cx ⟨by decide, by decide⟩ ⟨by decide, by decide⟩ dX8_isWord_15 (by decide) (fun c71 => ?_) (fun c71 => ?_)
          · exact absurd c71 (by omega)
          · refine q_ald_n cx dX8_isWord_18 rfl (lv_at hl 1 rfl) ?_
            obtain ⟨j72, ej72⟩ : ∃ zz, q_j f v 4 = zz := ⟨_, rfl⟩
            refine q_gX8_56 cx hB hv kv ej72 dX8_isWord_19 ?_
            refine q_ild_n cx dX8_isWord_22 rfl (lv_at hl 0 rfl) ?_
            refine q_cSi (As := [.long j72, .int (q_i (0 + 1))]) (rest := []) cx hB (fun _ h => h) hN (g_X8_letterOf l g hN hB.2.1 j72 (0 + 1) (by decide) (by decide)) q_cX8_63 q_dX8_letterOf (by decide) rfl rfl hl.1 rfl (Nat.le_of_ble_eq_true rfl) dX8_isWord_23 (fun y74 H locs f73 ry74 h75 hF hB => ?_)
            obtain rfl := h75
            refine q_ild_n cx dX8_isWord_26 rfl (lv_at hl 0 rfl) ?_
            refine q_ald_n cx dX8_isWord_27 rfl (lv_at hl 2 rfl) ?_
            refine q_cXT (As := []) (rest := [.int (q_i (0 + 1)), .int (q_i y74)]) cx hX hB (fun _ h => h) (fun _ h _ => h) hN (q_srec hX (by decide) hB) (s_length l g ad hN hB.2.1 8 (by decide)) q_cX8_67 q_dJ0_length_8abf5 (by decide) rfl rfl hl.1 rfl (Nat.le_of_ble_eq_true rfl) dX8_isWord_28 (fun E9 ce9 q9 H locs fx hex hF hB hcell hcv hcl => ?_) (fun v9 H locs f1 h1 hF hB => ?_)
            · exact hex.elim
            obtain ⟨z9, rfl, -, rfl, h9⟩ := h1
            obtain rfl : z9 = 4 := h9.trans (by decide)
            refine W.eq (g2 := F0 m 31 ls [.int (q_i 4), .int (q_i (0 + 1)), .int (q_i y74)]) rfl ?_
            refine q_icge (tgt := 42) cx ⟨by decide, by decide⟩ ⟨by decide, by decide⟩ dX8_isWord_31 (by decide) (fun c76 => ?_) (fun c76 => ?_)
            · exact absurd c76 (by omega)
            · refine q_ald_n cx dX8_isWord_34 rfl (lv_at hl 2 rfl) ?_
              refine q_ild_n cx dX8_isWord_35 rfl (lv_at hl 0 rfl) ?_
              refine q_cXT (As := [.int (q_i (0 + 1))]) (rest := [.int (q_i y74)]) cx hX hB (fun _ h => h) (fun _ h _ => h) hN (q_srec hX (by decide) hB) (s_charAt l g ad hN hB.2.1 8 (by decide) 1 (by decide) (by decide)) q_cX8_72 q_dJ0_charAt_5068e (by decide) rfl rfl hl.1 rfl (Nat.le_of_ble_eq_true rfl) dX8_isWord_36 (fun E9 ce9 q9 H locs fx hex hF hB hcell hcv hcl => ?_) (fun v9 H locs f1 h1 hF hB => ?_)
              · exact hex.elim
              obtain ⟨z9, rfl, -, rfl, h9⟩ := h1
              obtain rfl : z9 = 105 := h9.trans (by decide)
              refine W.eq (g2 := F0 m 39 ls [.int (q_i 105), .int (q_i y74)]) rfl ?_
              refine lv_goto (tgt := 43) cx.1 cx.2.1 dX8_isWord_39 (by decide) ?_
              refine q_iceq (tgt := 48) cx ⟨by omega, by omega⟩ ⟨by decide, by decide⟩ dX8_isWord_43 (by decide) (fun c77 => ?_) (fun c77 => ?_)
              · refine q_iinc (lv' := [(2, .int (q_i ((0 + 1) + 1))), (0, .ref v), (1, .ref (ad 8))]) cx dX8_isWord_48 hl (k := 0) rfl (by decide) rfl (fun ls hl => ?_)
                refine lv_goto (tgt := 12) cx.1 cx.2.1 dX8_isWord_51 (by decide) ?_
                refine q_ild_n cx dX8_isWord_12 rfl (lv_at hl 0 rfl) ?_
                refine q_bipush cx dX8_isWord_13 rfl ?_
                refine q_icge (tgt := 54) cx ⟨by decide, by decide⟩ ⟨by decide, by decide⟩ dX8_isWord_15 (by decide) (fun c78 => ?_) (fun c78 => ?_)
                · exact absurd c78 (by omega)
                · refine q_ald_n cx dX8_isWord_18 rfl (lv_at hl 1 rfl) ?_
                  obtain ⟨j79, ej79⟩ : ∃ zz, q_j f v 4 = zz := ⟨_, rfl⟩
                  refine q_gX8_56 cx hB hv kv ej79 dX8_isWord_19 ?_
                  refine q_ild_n cx dX8_isWord_22 rfl (lv_at hl 0 rfl) ?_
                  refine q_cSi (As := [.long j79, .int (q_i ((0 + 1) + 1))]) (rest := []) cx hB (fun _ h => h) hN (g_X8_letterOf l g hN hB.2.1 j79 ((0 + 1) + 1) (by decide) (by decide)) q_cX8_63 q_dX8_letterOf (by decide) rfl rfl hl.1 rfl (Nat.le_of_ble_eq_true rfl) dX8_isWord_23 (fun y81 H locs f80 ry81 h82 hF hB => ?_)
                  obtain rfl := h82
                  refine q_ild_n cx dX8_isWord_26 rfl (lv_at hl 0 rfl) ?_
                  refine q_ald_n cx dX8_isWord_27 rfl (lv_at hl 2 rfl) ?_
                  refine q_cXT (As := []) (rest := [.int (q_i ((0 + 1) + 1)), .int (q_i y81)]) cx hX hB (fun _ h => h) (fun _ h _ => h) hN (q_srec hX (by decide) hB) (s_length l g ad hN hB.2.1 8 (by decide)) q_cX8_67 q_dJ0_length_8abf5 (by decide) rfl rfl hl.1 rfl (Nat.le_of_ble_eq_true rfl) dX8_isWord_28 (fun E9 ce9 q9 H locs fx hex hF hB hcell hcv hcl => ?_) (fun v9 H locs f1 h1 hF hB => ?_)
                  · exact hex.elim
                  obtain ⟨z9, rfl, -, rfl, h9⟩ := h1
                  obtain rfl : z9 = 4 := h9.trans (by decide)
                  refine W.eq (g2 := F0 m 31 ls [.int (q_i 4), .int (q_i ((0 + 1) + 1)), .int (q_i y81)]) rfl ?_
                  refine q_icge (tgt := 42) cx ⟨by decide, by decide⟩ ⟨by decide, by decide⟩ dX8_isWord_31 (by decide) (fun c83 => ?_) (fun c83 => ?_)
                  · exact absurd c83 (by omega)
                  · refine q_ald_n cx dX8_isWord_34 rfl (lv_at hl 2 rfl) ?_
                    refine q_ild_n cx dX8_isWord_35 rfl (lv_at hl 0 rfl) ?_
                    refine q_cXT (As := [.int (q_i ((0 + 1) + 1))]) (rest := [.int (q_i y81)]) cx hX hB (fun _ h => h) (fun _ h _ => h) hN (q_srec hX (by decide) hB) (s_charAt l g ad hN hB.2.1 8 (by decide) 2 (by decide) (by decide)) q_cX8_72 q_dJ0_charAt_5068e (by decide) rfl rfl hl.1 rfl (Nat.le_of_ble_eq_true rfl) dX8_isWord_36 (fun E9 ce9 q9 H locs fx hex hF hB hcell hcv hcl => ?_) (fun v9 H locs f1 h1 hF hB => ?_)
                    · exact hex.elim
                    obtain ⟨z9, rfl, -, rfl, h9⟩ := h1
                    obtain rfl : z9 = 99 := h9.trans (by decide)
                    refine W.eq (g2 := F0 m 39 ls [.int (q_i 99), .int (q_i y81)]) rfl ?_
                    refine lv_goto (tgt := 43) cx.1 cx.2.1 dX8_isWord_39 (by decide) ?_
                    refine q_iceq (tgt := 48) cx ⟨by omega, by omega⟩ ⟨by decide, by decide⟩ dX8_isWord_43 (by decide) (fun c84 => ?_) (fun c84 => ?_)
                    · refine q_iinc (lv' := [(2, .int (q_i (((0 + 1) + 1) + 1))), (0, .ref v), (1, .ref (ad 8))]) cx dX8_isWord_48 hl (k := 0) rfl (by decide) rfl (fun ls hl => ?_)
                      refine lv_goto (tgt := 12) cx.1 cx.2.1 dX8_isWord_51 (by decide) ?_
                      refine q_ild_n cx dX8_isWord_12 rfl (lv_at hl 0 rfl) ?_
                      refine q_bipush cx dX8_isWord_13 rfl ?_
                      refine q_icge (tgt := 54) cx ⟨by decide, by decide⟩ ⟨by decide, by decide⟩ dX8_isWord_15 (by decide) (fun c85 => ?_) (fun c85 => ?_)
                      · exact absurd c85 (by omega)
                      · refine q_ald_n cx dX8_isWord_18 rfl (lv_at hl 1 rfl) ?_
                        obtain ⟨j86, ej86⟩ : ∃ zz, q_j f v 4 = zz := ⟨_, rfl⟩
                        refine q_gX8_56 cx hB hv kv ej86 dX8_isWord_19 ?_
                        refine q_ild_n cx dX8_isWord_22 rfl (lv_at hl 0 rfl) ?_
                        refine q_cSi (As := [.long j86, .int (q_i (((0 + 1) + 1) + 1))]) (rest := []) cx hB (fun _ h => h) hN (g_X8_letterOf l g hN hB.2.1 j86 (((0 + 1) + 1) + 1) (by decide) (by decide)) q_cX8_63 q_dX8_letterOf (by decide) rfl rfl hl.1 rfl (Nat.le_of_ble_eq_true rfl) dX8_isWord_23 (fun y88 H locs f87 ry88 h89 hF hB => ?_)
                        obtain rfl := h89
                        refine q_ild_n cx dX8_isWord_26 rfl (lv_at hl 0 rfl) ?_
                        refine q_ald_n cx dX8_isWord_27 rfl (lv_at hl 2 rfl) ?_
                        refine q_cXT (As := []) (rest := [.int (q_i (((0 + 1) + 1) + 1)), .int (q_i y88)]) cx hX hB (fun _ h => h) (fun _ h _ => h) hN (q_srec hX (by decide) hB) (s_length l g ad hN hB.2.1 8 (by decide)) q_cX8_67 q_dJ0_length_8abf5 (by decide) rfl rfl hl.1 rfl (Nat.le_of_ble_eq_true rfl) dX8_isWord_28 (fun E9 ce9 q9 H locs fx hex hF hB hcell hcv hcl => ?_) (fun v9 H locs f1 h1 hF hB => ?_)
                        · exact hex.elim
                        obtain ⟨z9, rfl, -, rfl, h9⟩ := h1
                        obtain rfl : z9 = 4 := h9.trans (by decide)
                        refine W.eq (g2 := F0 m 31 ls [.int (q_i 4), .int (q_i (((0 + 1) + 1) + 1)), .int (q_i y88)]) rfl ?_
                        refine q_icge (tgt := 42) cx ⟨by decide, by decide⟩ ⟨by decide, by decide⟩ dX8_isWord_31 (by decide) (fun c90 => ?_) (fun c90 => ?_)
                        · exact absurd c90 (by omega)
                        · refine q_ald_n cx dX8_isWord_34 rfl (lv_at hl 2 rfl) ?_
                          refine q_ild_n cx dX8_isWord_35 rfl (lv_at hl 0 rfl) ?_
                          refine q_cXT (As := [.int (q_i (((0 + 1) + 1) + 1))]) (rest := [.int (q_i y88)]) cx hX hB (fun _ h => h) (fun _ h _ => h) hN (q_srec hX (by decide) hB) (s_charAt l g ad hN hB.2.1 8 (by decide) 3 (by decide) (by decide)) q_cX8_72 q_dJ0_charAt_5068e (by decide) rfl rfl hl.1 rfl (Nat.le_of_ble_eq_true rfl) dX8_isWord_36 (fun E9 ce9 q9 H locs fx hex hF hB hcell hcv hcl => ?_) (fun v9 H locs f1 h1 hF hB => ?_)
                          · exact hex.elim
                          obtain ⟨z9, rfl, -, rfl, h9⟩ := h1
                          obtain rfl : z9 = 107 := h9.trans (by decide)
                          refine W.eq (g2 := F0 m 39 ls [.int (q_i 107), .int (q_i y88)]) rfl ?_
                          refine lv_goto (tgt := 43) cx.1 cx.2.1 dX8_isWord_39 (by decide) ?_
                          refine q_iceq (tgt := 48) cx ⟨by omega, by omega⟩ ⟨by decide, by decide⟩ dX8_isWord_43 (by decide) (fun c91 => ?_) (fun c91 => ?_)
                          · refine q_iinc (lv' := [(2, .int (q_i ((((0 + 1) + 1) + 1) + 1))), (0, .ref v), (1, .ref (ad 8))]) cx dX8_isWord_48 hl (k := 0) rfl (by decide) rfl (fun ls hl => ?_)
                            refine lv_goto (tgt := 12) cx.1 cx.2.1 dX8_isWord_51 (by decide) ?_
                            refine q_ild_n cx dX8_isWord_12 rfl (lv_at hl 0 rfl) ?_
                            refine q_bipush cx dX8_isWord_13 rfl ?_
                            refine q_icge (tgt := 54) cx ⟨by decide, by decide⟩ ⟨by decide, by decide⟩ dX8_isWord_15 (by decide) (fun c92 => ?_) (fun c92 => ?_)
                            · exact absurd c92 (by omega)
                            · refine q_ald_n cx dX8_isWord_18 rfl (lv_at hl 1 rfl) ?_
                              obtain ⟨j93, ej93⟩ : ∃ zz, q_j f v 4 = zz := ⟨_, rfl⟩
                              refine q_gX8_56 cx hB hv kv ej93 dX8_isWord_19 ?_
                              refine q_ild_n cx dX8_isWord_22 rfl (lv_at hl 0 rfl) ?_
                              refine q_cSi (As := [.long j93, .int (q_i ((((0 + 1) + 1) + 1) + 1))]) (rest := []) cx hB (fun _ h => h) hN (g_X8_letterOf l g hN hB.2.1 j93 ((((0 + 1) + 1) + 1) + 1) (by decide) (by decide)) q_cX8_63 q_dX8_letterOf (by decide) rfl rfl hl.1 rfl (Nat.le_of_ble_eq_true rfl) dX8_isWord_23 (fun y95 H locs f94 ry95 h96 hF hB => ?_)
                              obtain rfl := h96
                              refine q_ild_n cx dX8_isWord_26 rfl (lv_at hl 0 rfl) ?_
                              refine q_ald_n cx dX8_isWord_27 rfl (lv_at hl 2 rfl) ?_
                              refine q_cXT (As := []) (rest := [.int (q_i ((((0 + 1) + 1) + 1) + 1)), .int (q_i y95)]) cx hX hB (fun _ h => h) (fun _ h _ => h) hN (q_srec hX (by decide) hB) (s_length l g ad hN hB.2.1 8 (by decide)) q_cX8_67 q_dJ0_length_8abf5 (by decide) rfl rfl hl.1 rfl (Nat.le_of_ble_eq_true rfl) dX8_isWord_28 (fun E9 ce9 q9 H locs fx hex hF hB hcell hcv hcl => ?_) (fun v9 H locs f1 h1 hF hB => ?_)
                              · exact hex.elim
                              obtain ⟨z9, rfl, -, rfl, h9⟩ := h1
                              obtain rfl : z9 = 4 := h9.trans (by decide)
                              refine W.eq (g2 := F0 m 31 ls [.int (q_i 4), .int (q_i ((((0 + 1) + 1) + 1) + 1)), .int (q_i y95)]) rfl ?_
                              refine q_icge (tgt := 42) cx ⟨by decide, by decide⟩ ⟨by decide, by decide⟩ dX8_isWord_31 (by decide) (fun c97 => ?_) (fun c97 => ?_)
                              · refine q_iconst cx dX8_isWord_42 ?_
                                refine q_iceq (tgt := 48) cx ⟨by omega, by omega⟩ ⟨by decide, by decide⟩ dX8_isWord_43 (by decide) (fun c98 => ?_) (fun c98 => ?_)
                                · refine q_iinc (lv' := [(2, .int (q_i (((((0 + 1) + 1) + 1) + 1) + 1))), (0, .ref v), (1, .ref (ad 8))]) cx dX8_isWord_48 hl (k := 0) rfl (by decide) rfl (fun ls hl => ?_)
                                  refine lv_goto (tgt := 12) cx.1 cx.2.1 dX8_isWord_51 (by decide) ?_
                                  refine q_ild_n cx dX8_isWord_12 rfl (lv_at hl 0 rfl) ?_
                                  refine q_bipush cx dX8_isWord_13 rfl ?_
                                  refine q_icge (tgt := 54) cx ⟨by decide, by decide⟩ ⟨by decide, by decide⟩ dX8_isWord_15 (by decide) (fun c99 => ?_) (fun c99 => ?_)
                                  · exact absurd c99 (by omega)
                                  · refine q_ald_n cx dX8_isWord_18 rfl (lv_at hl 1 rfl) ?_
                                    obtain ⟨j100, ej100⟩ : ∃ zz, q_j f v 4 = zz := ⟨_, rfl⟩
                                    refine q_gX8_56 cx hB hv kv ej100 dX8_isWord_19 ?_
                                    refine q_ild_n cx dX8_isWord_22 rfl (lv_at hl 0 rfl) ?_
                                    refine q_cSi (As := [.long j100, .int (q_i (((((0 + 1) + 1) + 1) + 1) + 1))]) (rest := []) cx hB (fun _ h => h) hN (g_X8_letterOf l g hN hB.2.1 j100 (((((0 + 1) + 1) + 1) + 1) + 1) (by decide) (by decide)) q_cX8_63 q_dX8_letterOf (by decide) rfl rfl hl.1 rfl (Nat.le_of_ble_eq_true rfl) dX8_isWord_23 (fun y102 H locs f101 ry102 h103 hF hB => ?_)
                                    obtain rfl := h103
                                    refine q_ild_n cx dX8_isWord_26 rfl (lv_at hl 0 rfl) ?_
                                    refine q_ald_n cx dX8_isWord_27 rfl (lv_at hl 2 rfl) ?_
                                    refine q_cXT (As := []) (rest := [.int (q_i (((((0 + 1) + 1) + 1) + 1) + 1)), .int (q_i y102)]) cx hX hB (fun _ h => h) (fun _ h _ => h) hN (q_srec hX (by decide) hB) (s_length l g ad hN hB.2.1 8 (by decide)) q_cX8_67 q_dJ0_length_8abf5 (by decide) rfl rfl hl.1 rfl (Nat.le_of_ble_eq_true rfl) dX8_isWord_28 (fun E9 ce9 q9 H locs fx hex hF hB hcell hcv hcl => ?_) (fun v9 H locs f1 h1 hF hB => ?_)
                                    · exact hex.elim
                                    obtain ⟨z9, rfl, -, rfl, h9⟩ := h1
                                    obtain rfl : z9 = 4 := h9.trans (by decide)
                                    refine W.eq (g2 := F0 m 31 ls [.int (q_i 4), .int (q_i (((((0 + 1) + 1) + 1) + 1) + 1)), .int (q_i y102)]) rfl ?_
                                    refine q_icge (tgt := 42) cx ⟨by decide, by decide⟩ ⟨by decide, by decide⟩ dX8_isWord_31 (by decide) (fun c104 => ?_) (fun c104 => ?_)
                                    · refine q_iconst cx dX8_isWord_42 ?_
                                      refine q_iceq (tgt := 48) cx ⟨by omega, by omega⟩ ⟨by decide, by decide⟩ dX8_isWord_43 (by decide) (fun c105 => ?_) (fun c105 => ?_)
                                      · refine q_iinc (lv' := [(2, .int (q_i ((((((0 + 1) + 1) + 1) + 1) + 1) + 1))), (0, .ref v), (1, .ref (ad 8))]) cx dX8_isWord_48 hl (k := 0) rfl (by decide) rfl (fun ls hl => ?_)
                                        refine lv_goto (tgt := 12) cx.1 cx.2.1 dX8_isWord_51 (by decide) ?_
                                        refine q_ild_n cx dX8_isWord_12 rfl (lv_at hl 0 rfl) ?_
                                        refine q_bipush cx dX8_isWord_13 rfl ?_
                                        refine q_icge (tgt := 54) cx ⟨by decide, by decide⟩ ⟨by decide, by decide⟩ dX8_isWord_15 (by decide) (fun c106 => ?_) (fun c106 => ?_)
                                        · exact absurd c106 (by omega)
                                        · refine q_ald_n cx dX8_isWord_18 rfl (lv_at hl 1 rfl) ?_
                                          obtain ⟨j107, ej107⟩ : ∃ zz, q_j f v 4 = zz := ⟨_, rfl⟩
                                          refine q_gX8_56 cx hB hv kv ej107 dX8_isWord_19 ?_
                                          refine q_ild_n cx dX8_isWord_22 rfl (lv_at hl 0 rfl) ?_
                                          refine q_cSi (As := [.long j107, .int (q_i ((((((0 + 1) + 1) + 1) + 1) + 1) + 1))]) (rest := []) cx hB (fun _ h => h) hN (g_X8_letterOf l g hN hB.2.1 j107 ((((((0 + 1) + 1) + 1) + 1) + 1) + 1) (by decide) (by decide)) q_cX8_63 q_dX8_letterOf (by decide) rfl rfl hl.1 rfl (Nat.le_of_ble_eq_true rfl) dX8_isWord_23 (fun y109 H locs f108 ry109 h110 hF hB => ?_)
                                          obtain rfl := h110
                                          refine q_ild_n cx dX8_isWord_26 rfl (lv_at hl 0 rfl) ?_
                                          refine q_ald_n cx dX8_isWord_27 rfl (lv_at hl 2 rfl) ?_
                                          refine q_cXT (As := []) (rest := [.int (q_i ((((((0 + 1) + 1) + 1) + 1) + 1) + 1)), .int (q_i y109)]) cx hX hB (fun _ h => h) (fun _ h _ => h) hN (q_srec hX (by decide) hB) (s_length l g ad hN hB.2.1 8 (by decide)) q_cX8_67 q_dJ0_length_8abf5 (by decide) rfl rfl hl.1 rfl (Nat.le_of_ble_eq_true rfl) dX8_isWord_28 (fun E9 ce9 q9 H locs fx hex hF hB hcell hcv hcl => ?_) (fun v9 H locs f1 h1 hF hB => ?_)
                                          · exact hex.elim
                                          obtain ⟨z9, rfl, -, rfl, h9⟩ := h1
                                          obtain rfl : z9 = 4 := h9.trans (by decide)
                                          refine W.eq (g2 := F0 m 31 ls [.int (q_i 4), .int (q_i ((((((0 + 1) + 1) + 1) + 1) + 1) + 1)), .int (q_i y109)]) rfl ?_
                                          refine q_icge (tgt := 42) cx ⟨by decide, by decide⟩ ⟨by decide, by decide⟩ dX8_isWord_31 (by decide) (fun c111 => ?_) (fun c111 => ?_)
                                          · refine q_iconst cx dX8_isWord_42 ?_
                                            refine q_iceq (tgt := 48) cx ⟨by omega, by omega⟩ ⟨by decide, by decide⟩ dX8_isWord_43 (by decide) (fun c112 => ?_) (fun c112 => ?_)
                                            · refine q_iinc (lv' := [(2, .int (q_i (((((((0 + 1) + 1) + 1) + 1) + 1) + 1) + 1))), (0, .ref v), (1, .ref (ad 8))]) cx dX8_isWord_48 hl (k := 0) rfl (by decide) rfl (fun ls hl => ?_)
                                              refine lv_goto (tgt := 12) cx.1 cx.2.1 dX8_isWord_51 (by decide) ?_
                                              refine q_ild_n cx dX8_isWord_12 rfl (lv_at hl 0 rfl) ?_
                                              refine q_bipush cx dX8_isWord_13 rfl ?_
                                              refine q_icge (tgt := 54) cx ⟨by decide, by decide⟩ ⟨by decide, by decide⟩ dX8_isWord_15 (by decide) (fun c113 => ?_) (fun c113 => ?_)
                                              · exact absurd c113 (by omega)
                                              · refine q_ald_n cx dX8_isWord_18 rfl (lv_at hl 1 rfl) ?_
                                                obtain ⟨j114, ej114⟩ : ∃ zz, q_j f v 4 = zz := ⟨_, rfl⟩
                                                refine q_gX8_56 cx hB hv kv ej114 dX8_isWord_19 ?_
                                                refine q_ild_n cx dX8_isWord_22 rfl (lv_at hl 0 rfl) ?_
                                                refine q_cSi (As := [.long j114, .int (q_i (((((((0 + 1) + 1) + 1) + 1) + 1) + 1) + 1))]) (rest := []) cx hB (fun _ h => h) hN (g_X8_letterOf l g hN hB.2.1 j114 (((((((0 + 1) + 1) + 1) + 1) + 1) + 1) + 1) (by decide) (by decide)) q_cX8_63 q_dX8_letterOf (by decide) rfl rfl hl.1 rfl (Nat.le_of_ble_eq_true rfl) dX8_isWord_23 (fun y116 H locs f115 ry116 h117 hF hB => ?_)
                                                obtain rfl := h117
                                                refine q_ild_n cx dX8_isWord_26 rfl (lv_at hl 0 rfl) ?_
                                                refine q_ald_n cx dX8_isWord_27 rfl (lv_at hl 2 rfl) ?_
                                                refine q_cXT (As := []) (rest := [.int (q_i (((((((0 + 1) + 1) + 1) + 1) + 1) + 1) + 1)), .int (q_i y116)]) cx hX hB (fun _ h => h) (fun _ h _ => h) hN (q_srec hX (by decide) hB) (s_length l g ad hN hB.2.1 8 (by decide)) q_cX8_67 q_dJ0_length_8abf5 (by decide) rfl rfl hl.1 rfl (Nat.le_of_ble_eq_true rfl) dX8_isWord_28 (fun E9 ce9 q9 H locs fx hex hF hB hcell hcv hcl => ?_) (fun v9 H locs f1 h1 hF hB => ?_)
                                                · exact hex.elim
                                                obtain ⟨z9, rfl, -, rfl, h9⟩ := h1
                                                obtain rfl : z9 = 4 := h9.trans (by decide)
                                                refine W.eq (g2 := F0 m 31 ls [.int (q_i 4), .int (q_i (((((((0 + 1) + 1) + 1) + 1) + 1) + 1) + 1)), .int (q_i y116)]) rfl ?_
                                                refine q_icge (tgt := 42) cx ⟨by decide, by decide⟩ ⟨by decide, by decide⟩ dX8_isWord_31 (by decide) (fun c118 => ?_) (fun c118 => ?_)
                                                · refine q_iconst cx dX8_isWord_42 ?_
                                                  refine q_iceq (tgt := 48) cx ⟨by omega, by omega⟩ ⟨by decide, by decide⟩ dX8_isWord_43 (by decide) (fun c119 => ?_) (fun c119 => ?_)
                                                  · refine q_iinc (lv' := [(2, .int (q_i ((((((((0 + 1) + 1) + 1) + 1) + 1) + 1) + 1) + 1))), (0, .ref v), (1, .ref (ad 8))]) cx dX8_isWord_48 hl (k := 0) rfl (by decide) rfl (fun ls hl => ?_)
                                                    refine lv_goto (tgt := 12) cx.1 cx.2.1 dX8_isWord_51 (by decide) ?_
                                                    refine q_ild_n cx dX8_isWord_12 rfl (lv_at hl 0 rfl) ?_
                                                    refine q_bipush cx dX8_isWord_13 rfl ?_
                                                    refine q_icge (tgt := 54) cx ⟨by decide, by decide⟩ ⟨by decide, by decide⟩ dX8_isWord_15 (by decide) (fun c120 => ?_) (fun c120 => ?_)
                                                    · refine q_iconst cx dX8_isWord_54 ?_
                                                      refine W.widen (k := 0) (n := 0) (by decide) (by decide) ?_
                                                      refine vx_ret ?_
                                                      refine q_zret cx hr hlk hB dX8_isWord_55 (by decide) (by decide) ?_
                                                      exact ⟨rfl, (by decide), (by decide)⟩
                                                    · exact absurd c120 (by omega)
                                                  · refine q_iconst cx dX8_isWord_46 ?_
                                                    refine W.widen (k := 0) (n := 0) (by decide) (by decide) ?_
                                                    refine vx_ret ?_
                                                    refine q_zret cx hr hlk hB dX8_isWord_47 (by decide) (by decide) ?_
                                                    exact ⟨rfl, (by decide), (by decide)⟩
                                                · exact absurd c118 (by omega)
                                            · refine q_iconst cx dX8_isWord_46 ?_
                                              refine W.widen (k := 0) (n := 0) (by decide) (by decide) ?_
                                              refine vx_ret ?_
                                              refine q_zret cx hr hlk hB dX8_isWord_47 (by decide) (by decide) ?_
                                              exact ⟨rfl, (by decide), (by decide)⟩
                                          · exact absurd c111 (by omega)
                                      · refine q_iconst cx dX8_isWord_46 ?_
                                        refine W.widen (k := 0) (n := 0) (by decide) (by decide) ?_
                                        refine vx_ret ?_
                                        refine q_zret cx hr hlk hB dX8_isWord_47 (by decide) (by decide) ?_
                                        exact ⟨rfl, (by decide), (by decide)⟩
                                    · exact absurd c104 (by omega)
                                · refine q_iconst cx dX8_isWord_46 ?_
                                  refine W.widen (k := 0) (n := 0) (by decide) (by decide) ?_
                                  refine vx_ret ?_
                                  refine q_zret cx hr hlk hB dX8_isWord_47 (by decide) (by decide) ?_
                                  exact ⟨rfl, (by decide), (by decide)⟩
                              · exact absurd c97 (by omega)
                          · refine q_iconst cx dX8_isWord_46 ?_
                            refine W.widen (k := 0) (n := 0) (by decide) (by decide) ?_
                            refine vx_ret ?_
                            refine q_zret cx hr hlk hB dX8_isWord_47 (by decide) (by decide) ?_
                            exact ⟨rfl, (by decide), (by decide)⟩
                    · refine q_iconst cx dX8_isWord_46 ?_
                      refine W.widen (k := 0) (n := 0) (by decide) (by decide) ?_
                      refine vx_ret ?_
                      refine q_zret cx hr hlk hB dX8_isWord_47 (by decide) (by decide) ?_
                      exact ⟨rfl, (by decide), (by decide)⟩
              · refine q_iconst cx dX8_isWord_46 ?_
                refine W.widen (k := 0) (n := 0) (by decide) (by decide) ?_
                refine vx_ret ?_
                refine q_zret cx hr hlk hB dX8_isWord_47 (by decide) (by decide) ?_
                exact ⟨rfl, (by decide), (by decide)⟩
        · refine q_iconst cx dX8_isWord_46 ?_
          refine W.widen (k := 0) (n := 0) (by decide) (by decide) ?_
          refine vx_ret ?_
          refine q_zret cx hr hlk hB dX8_isWord_47 (by decide) (by decide) ?_
          exact ⟨rfl, (by decide), (by decide)⟩
  · refine q_iconst cx dX8_isWord_8 ?_
    refine W.widen (k := 0) (n := 0) (by decide) (by decide) ?_
    refine vx_ret ?_
    refine q_zret cx hr hlk hB dX8_isWord_9 (by decide) (by decide) ?_
    exact ⟨rfl, (by decide), (by decide)⟩
