set_option maxHeartbeats 4000000 in
set_option maxRecDepth 100000 in
theorem g_X8_scanNumber (l : Launch) (g : q_G) {K : Nat → Nat} {L : List Nat} (hN : L.Nodup) {f : Nat → va_E} (hT : q_Ty g K L f) (v : Nat) (hv : v ∈ L) (kv : K v = 8) : q_Ct l g K L yX8_scanNumber cX8_scanNumber 1 none 1 21 [.ref v] f [(8, 6, 7), (8, 9, 9)] (q_Pv (fun (f1 : Nat → va_E) => True)) := by
  refine q_ofb (by decide +kernel) hN hT (Nat.le_of_ble_eq_true rfl) ?_
  intro p e s m below meth c ls cx hr hlk hB hl
  have hl : lv_has ls 1 [(0, .ref v)] := hl
  obtain ⟨k_v_1, ek_v_1⟩ : ∃ zz, q_is (q_z f v 1) zz := ⟨_, q_isr _⟩
  obtain ⟨_, _, _, _, l0k_v_1, u0k_v_1⟩ := q_fi (j := 1) hB.2.1 hv kv (by decide) rfl
  obtain ⟨lk_v_1, uk_v_1⟩ := q_isb ek_v_1 ⟨l0k_v_1, u0k_v_1⟩
  clear l0k_v_1 u0k_v_1
  obtain ⟨k_v_9, ek_v_9⟩ : ∃ zz, q_is (q_z f v 9) zz := ⟨_, q_isr _⟩
  obtain ⟨_, _, _, _, l0k_v_9, u0k_v_9⟩ := q_fi (j := 9) hB.2.1 hv kv (by decide) rfl
  obtain ⟨lk_v_9, uk_v_9⟩ := q_isb ek_v_9 ⟨l0k_v_9, u0k_v_9⟩
  clear l0k_v_9 u0k_v_9
  have J5 : ∀ (n : Nat) (f5 : Nat → va_E) (w5_v_1 : Int) (lw5_v_1 : 0 ≤ w5_v_1) (uw5_v_1 : w5_v_1 ≤ 600) (w5_v_9 : Int) (lw5_v_9 : (-2147483648) ≤ w5_v_9) (uw5_v_9 : w5_v_9 ≤ 2147483647) (hj_v_1 : q_is (q_z f5 v 1) w5_v_1) (hj_v_9 : q_is (q_z f5 v 9) w5_v_9) (hmu : (Int.toNat (w5_v_1 - w5_v_9)) < n) (H : Heap) (locs : List Loc) (hB : q_B g K L (fun q => q ∈ L) [(8, 6, 7), (8, 9, 9)] f f5 s H locs) (ls : Array Slot) (hl : lv_has ls 1 [(0, .ref v)]), W p l e { frames := 1, cells := 0, slots := 0, locals := 21 } s m ([.ref v] : List Value).toArray below meth c H locs 0 0 (MQ below (q_Q g K L [(8, 6, 7), (8, 9, 9)] f (q_Pv (fun (f1 : Nat → va_E) => True))) ([.ref v] : List Value).toArray s 0 0 (fun q => q ∈ L)) (F0 m 5 ls []) := by
    intro n
    induction n with
    | zero =>
      intro f5 w5_v_1 lw5_v_1 uw5_v_1 w5_v_9 lw5_v_9 uw5_v_9 hj_v_1 hj_v_9 hmu
      exact absurd hmu (Nat.not_lt_zero _)
    | succ n ih5 =>
      intro f5 w5_v_1 lw5_v_1 uw5_v_1 w5_v_9 lw5_v_9 uw5_v_9 hj_v_1 hj_v_9 hmu H locs hB ls hl
      refine q_ald_n cx dX8_scanNumber_5 rfl (lv_at hl 0 rfl) ?_
      refine q_gX8_27 cx hB hv kv hj_v_9 dX8_scanNumber_6 (fun lb68 ub68 => ?_)
      refine q_ald_n cx dX8_scanNumber_9 rfl (lv_at hl 0 rfl) ?_
      refine q_gX8_19 cx hB hv kv hj_v_1 dX8_scanNumber_10 (fun lb69 ub69 => ?_)
      refine q_icge (tgt := 79) cx ⟨by omega, by omega⟩ ⟨by omega, by omega⟩ dX8_scanNumber_13 (by decide) (fun c70 => ?_) (fun c70 => ?_)
      · refine q_ald_n cx dX8_scanNumber_79 rfl (lv_at hl 0 rfl) ?_
        refine q_ald_n cx dX8_scanNumber_80 rfl (lv_at hl 0 rfl) ?_
        refine q_gX8_27 cx hB hv kv hj_v_9 dX8_scanNumber_81 (fun lb71 ub71 => ?_)
        refine q_ald_n cx dX8_scanNumber_84 rfl (lv_at hl 0 rfl) ?_
        obtain ⟨x72, ex72⟩ : ∃ zz, q_is (q_z f5 v 8) zz := ⟨_, q_isr _⟩
        refine q_gX8_33 cx hB hv kv ex72 dX8_scanNumber_85 (fun lb73 ub73 => ?_)
        refine q_isub cx dX8_scanNumber_88 ?_
        refine q_any (fun y74 ry74 ey74 => ?_)
        refine q_iconst cx dX8_scanNumber_89 ?_
        refine q_icgt (tgt := 97) cx ⟨by omega, by omega⟩ ⟨by decide, by decide⟩ dX8_scanNumber_90 (by decide) (fun c75 => ?_) (fun c75 => ?_)
        · refine q_iconst cx dX8_scanNumber_97 ?_
          refine q_pX8_40 cx hB hv kv ⟨by decide, by decide⟩ (by decide) (by decide) rfl dX8_scanNumber_98 (fun H locs f76 ef76 z77 hB => ?_)
          have z78 : q_is (q_z f76 v 1) w5_v_1 := by rw [ef76, q_setz (Or.inr (by decide))]; exact hj_v_1
          have z79 : q_is (q_z f76 v 9) w5_v_9 := by rw [ef76, q_setz (Or.inr (by decide))]; exact hj_v_9
          refine q_vret cx hr hlk hB dX8_scanNumber_101 ?_
          trivial
        · refine q_iconst cx dX8_scanNumber_93 ?_
          refine lv_goto (tgt := 98) cx.1 cx.2.1 dX8_scanNumber_94 (by decide) ?_
          refine q_pX8_40 cx hB hv kv ⟨by decide, by decide⟩ (by decide) (by decide) rfl dX8_scanNumber_98 (fun H locs f80 ef80 z81 hB => ?_)
          have z82 : q_is (q_z f80 v 1) w5_v_1 := by rw [ef80, q_setz (Or.inr (by decide))]; exact hj_v_1
          have z83 : q_is (q_z f80 v 9) w5_v_9 := by rw [ef80, q_setz (Or.inr (by decide))]; exact hj_v_9
          refine q_vret cx hr hlk hB dX8_scanNumber_101 ?_
          trivial
      · refine q_ald_n cx dX8_scanNumber_16 rfl (lv_at hl 0 rfl) ?_
        refine q_ald_n cx dX8_scanNumber_17 rfl (lv_at hl 0 rfl) ?_
        refine q_gX8_27 cx hB hv kv hj_v_9 dX8_scanNumber_18 (fun lb84 ub84 => ?_)
        refine q_cVi (As := [.int (q_i w5_v_9)]) (rest := []) cx hB (fun _ h => h) hN hv kv (by decide) rfl (g_X8_byteAt l g hN hB.2.1 v hv kv w5_v_9 (by omega) (by omega)) q_cX8_36 q_dX8_byteAt (by decide) rfl rfl hl.1 rfl (Nat.le_of_ble_eq_true rfl) dX8_scanNumber_21 (fun y86 H locs f85 ry86 h87 hF hB => ?_)
        obtain ⟨rfl, ly86, uy86⟩ := h87
        refine q_cSi (As := [.int (q_i y86)]) (rest := []) cx hB (fun _ h => h) hN (g_X8_isDigit l g hN hB.2.1 y86 (by omega) (by omega)) q_cX8_50 q_dX8_isDigit (by decide) rfl rfl hl.1 rfl (Nat.le_of_ble_eq_true rfl) dX8_scanNumber_24 (fun y89 H locs f88 ry89 h90 hF hB => ?_)
        obtain ⟨rfl, ly89, uy89⟩ := h90
        refine q_ifeq (tgt := 79) cx ⟨by omega, by omega⟩ dX8_scanNumber_27 (by decide) (fun c91 => ?_) (fun c91 => ?_)
        · refine q_ald_n cx dX8_scanNumber_79 rfl (lv_at hl 0 rfl) ?_
          refine q_ald_n cx dX8_scanNumber_80 rfl (lv_at hl 0 rfl) ?_
          refine q_gX8_27 cx hB hv kv hj_v_9 dX8_scanNumber_81 (fun lb92 ub92 => ?_)
          refine q_ald_n cx dX8_scanNumber_84 rfl (lv_at hl 0 rfl) ?_
          obtain ⟨x93, ex93⟩ : ∃ zz, q_is (q_z f5 v 8) zz := ⟨_, q_isr _⟩
          refine q_gX8_33 cx hB hv kv ex93 dX8_scanNumber_85 (fun lb94 ub94 => ?_)
          refine q_isub cx dX8_scanNumber_88 ?_
          refine q_any (fun y95 ry95 ey95 => ?_)
          refine q_iconst cx dX8_scanNumber_89 ?_
          refine q_icgt (tgt := 97) cx ⟨by omega, by omega⟩ ⟨by decide, by decide⟩ dX8_scanNumber_90 (by decide) (fun c96 => ?_) (fun c96 => ?_)
          · refine q_iconst cx dX8_scanNumber_97 ?_
            refine q_pX8_40 cx hB hv kv ⟨by decide, by decide⟩ (by decide) (by decide) rfl dX8_scanNumber_98 (fun H locs f97 ef97 z98 hB => ?_)
            have z99 : q_is (q_z f97 v 1) w5_v_1 := by rw [ef97, q_setz (Or.inr (by decide))]; exact hj_v_1
            have z100 : q_is (q_z f97 v 9) w5_v_9 := by rw [ef97, q_setz (Or.inr (by decide))]; exact hj_v_9
            refine q_vret cx hr hlk hB dX8_scanNumber_101 ?_
            trivial
          · refine q_iconst cx dX8_scanNumber_93 ?_
            refine lv_goto (tgt := 98) cx.1 cx.2.1 dX8_scanNumber_94 (by decide) ?_
            refine q_pX8_40 cx hB hv kv ⟨by decide, by decide⟩ (by decide) (by decide) rfl dX8_scanNumber_98 (fun H locs f101 ef101 z102 hB => ?_)
            have z103 : q_is (q_z f101 v 1) w5_v_1 := by rw [ef101, q_setz (Or.inr (by decide))]; exact hj_v_1
            have z104 : q_is (q_z f101 v 9) w5_v_9 := by rw [ef101, q_setz (Or.inr (by decide))]; exact hj_v_9
            refine q_vret cx hr hlk hB dX8_scanNumber_101 ?_
            trivial
        · refine q_ald_n cx dX8_scanNumber_30 rfl (lv_at hl 0 rfl) ?_
          refine q_gX8_27 cx hB hv kv hj_v_9 dX8_scanNumber_31 (fun lb105 ub105 => ?_)
          refine q_ald_n cx dX8_scanNumber_34 rfl (lv_at hl 0 rfl) ?_
          obtain ⟨x106, ex106⟩ : ∃ zz, q_is (q_z f5 v 8) zz := ⟨_, q_isr _⟩
          refine q_gX8_33 cx hB hv kv ex106 dX8_scanNumber_35 (fun lb107 ub107 => ?_)
          refine q_isub cx dX8_scanNumber_38 ?_
          refine q_any (fun y108 ry108 ey108 => ?_)
          refine q_iconst cx dX8_scanNumber_39 ?_
          refine q_icge (tgt := 66) cx ⟨by omega, by omega⟩ ⟨by decide, by decide⟩ dX8_scanNumber_40 (by decide) (fun c109 => ?_) (fun c109 => ?_)
          · refine q_ald_n cx dX8_scanNumber_66 rfl (lv_at hl 0 rfl) ?_
            refine lv_dup cx.1 cx.2.1 dX8_scanNumber_67 rfl ?_
            refine q_gX8_27 cx hB hv kv hj_v_9 dX8_scanNumber_68 (fun lb110 ub110 => ?_)
            refine q_iconst cx dX8_scanNumber_71 ?_
            refine q_iadd cx dX8_scanNumber_72 ?_
            refine q_pX8_27 cx hB hv kv ⟨by omega, by omega⟩ (by omega) (by omega) rfl dX8_scanNumber_73 (fun H locs f111 ef111 z112 hB => ?_)
            have z113 : q_is (q_z f111 v 1) w5_v_1 := by rw [ef111, q_setz (Or.inr (by decide))]; exact hj_v_1
            refine lv_goto (tgt := 5) cx.1 cx.2.1 dX8_scanNumber_76 (by decide) ?_
            exact ih5 f111 w5_v_1 (by omega) (by omega) (w5_v_9 + 1) (by omega) (by omega) z113 z112 (by omega) H locs hB ls (lv_sub hl [0] rfl)
          · refine q_ald_n cx dX8_scanNumber_43 rfl (lv_at hl 0 rfl) ?_
            refine q_ald_n cx dX8_scanNumber_44 rfl (lv_at hl 0 rfl) ?_
            obtain ⟨x114, ex114⟩ : ∃ zz, q_is (q_z f5 v 7) zz := ⟨_, q_isr _⟩
            refine q_gX8_60 cx hB hv kv ex114 dX8_scanNumber_45 (fun lb115 ub115 => ?_)
            refine q_bipush cx dX8_scanNumber_48 rfl ?_
            refine q_imul cx dX8_scanNumber_50 ?_
            refine q_any (fun y116 ry116 ey116 => ?_)
            refine q_ald_n cx dX8_scanNumber_51 rfl (lv_at hl 0 rfl) ?_
            refine q_ald_n cx dX8_scanNumber_52 rfl (lv_at hl 0 rfl) ?_
            refine q_gX8_27 cx hB hv kv hj_v_9 dX8_scanNumber_53 (fun lb117 ub117 => ?_)
            refine q_cVi (As := [.int (q_i w5_v_9)]) (rest := [.int (q_i y116), .ref v]) cx hB (fun _ h => h) hN hv kv (by decide) rfl (g_X8_byteAt l g hN hB.2.1 v hv kv w5_v_9 (by omega) (by omega)) q_cX8_36 q_dX8_byteAt (by decide) rfl rfl hl.1 rfl (Nat.le_of_ble_eq_true rfl) dX8_scanNumber_56 (fun y119 H locs f118 ry119 h120 hF hB => ?_)
            obtain ⟨rfl, ly119, uy119⟩ := h120
            refine q_iadd cx dX8_scanNumber_59 ?_
            refine q_any (fun y121 ry121 ey121 => ?_)
            refine q_bipush cx dX8_scanNumber_60 rfl ?_
            refine q_isub cx dX8_scanNumber_62 ?_
            refine q_any (fun y122 ry122 ey122 => ?_)
            refine q_pX8_60 cx hB hv kv ⟨by omega, by omega⟩ (by omega) (by omega) rfl dX8_scanNumber_63 (fun H locs f123 ef123 z124 hB => ?_)
            have z125 : q_is (q_z f123 v 1) w5_v_1 := by rw [ef123, q_setz (Or.inr (by decide))]; exact hj_v_1
            have z126 : q_is (q_z f123 v 9) w5_v_9 := by rw [ef123, q_setz (Or.inr (by decide))]; exact hj_v_9
            refine q_ald_n cx dX8_scanNumber_66 rfl (lv_at hl 0 rfl) ?_
            refine lv_dup cx.1 cx.2.1 dX8_scanNumber_67 rfl ?_
            refine q_gX8_27 cx hB hv kv z126 dX8_scanNumber_68 (fun lb127 ub127 => ?_)
            refine q_iconst cx dX8_scanNumber_71 ?_
            refine q_iadd cx dX8_scanNumber_72 ?_
            refine q_pX8_27 cx hB hv kv ⟨by omega, by omega⟩ (by omega) (by omega) rfl dX8_scanNumber_73 (fun H locs f128 ef128 z129 hB => ?_)
            have z130 : q_is (q_z f128 v 1) w5_v_1 := by rw [ef128, q_setz (Or.inr (by decide))]; exact z125
            refine lv_goto (tgt := 5) cx.1 cx.2.1 dX8_scanNumber_76 (by decide) ?_
            exact ih5 f128 w5_v_1 (by omega) (by omega) (w5_v_9 + 1) (by omega) (by omega) z130 z129 (by omega) H locs hB ls (lv_sub hl [0] rfl)
  obtain ⟨H, hH⟩ : ∃ H : Heap, H = s.heap := ⟨_, rfl⟩
  obtain ⟨locs, hlocs⟩ : ∃ z : List Loc, z = [] := ⟨_, rfl⟩
  rw [← hH, ← hlocs] at hB
  rw [← hH, ← hlocs]
  refine q_ald_n cx dX8_scanNumber_0 rfl (lv_at hl 0 rfl) ?_
  refine q_iconst cx dX8_scanNumber_1 ?_
  refine q_pX8_60 cx hB hv kv ⟨by decide, by decide⟩ (by decide) (by decide) rfl dX8_scanNumber_2 (fun H locs f131 ef131 z132 hB => ?_)
  have z133 : q_is (q_z f131 v 1) k_v_1 := by rw [ef131, q_setz (Or.inr (by decide))]; exact ek_v_1
  have z134 : q_is (q_z f131 v 9) k_v_9 := by rw [ef131, q_setz (Or.inr (by decide))]; exact ek_v_9
  exact J5 ((Int.toNat (k_v_1 - k_v_9)) + 1) f131 k_v_1 (by omega) (by omega) k_v_9 (by omega) (by omega) z133 z134 (Nat.lt_succ_self _) H locs hB ls (lv_sub hl [0] rfl)
set_option maxHeartbeats 4000000 in
set_option maxRecDepth 100000 in
theorem g_X8_advance (l : Launch) (g : q_G) {K : Nat → Nat} {L : List Nat} (hN : L.Nodup) {f : Nat → va_E} (hT : q_Ty g K L f) (v : Nat) (hv : v ∈ L) (kv : K v = 8) : q_Ct l g K L yX8_advance cX8_advance 2 none 2 41 [.ref v] f [(8, 4, 4), (8, 6, 9)] (q_Pv (fun (f1 : Nat → va_E) => True)) := by
  refine q_ofb (by decide +kernel) hN hT (Nat.le_of_ble_eq_true rfl) ?_
  intro p e s m below meth c ls cx hr hlk hB hl
  have hl : lv_has ls 2 [(0, .ref v)] := hl
  obtain ⟨k_v_1, ek_v_1⟩ : ∃ zz, q_is (q_z f v 1) zz := ⟨_, q_isr _⟩
  obtain ⟨_, _, _, _, l0k_v_1, u0k_v_1⟩ := q_fi (j := 1) hB.2.1 hv kv (by decide) rfl
  obtain ⟨lk_v_1, uk_v_1⟩ := q_isb ek_v_1 ⟨l0k_v_1, u0k_v_1⟩
  clear l0k_v_1 u0k_v_1
  obtain ⟨k_v_9, ek_v_9⟩ : ∃ zz, q_is (q_z f v 9) zz := ⟨_, q_isr _⟩
  obtain ⟨_, _, _, _, l0k_v_9, u0k_v_9⟩ := q_fi (j := 9) hB.2.1 hv kv (by decide) rfl
  obtain ⟨lk_v_9, uk_v_9⟩ := q_isb ek_v_9 ⟨l0k_v_9, u0k_v_9⟩
  clear l0k_v_9 u0k_v_9
  have J0 : ∀ (n : Nat) (f0 : Nat → va_E) (w0_v_1 : Int) (lw0_v_1 : 0 ≤ w0_v_1) (uw0_v_1 : w0_v_1 ≤ 600) (w0_v_9 : Int) (lw0_v_9 : (-2147483648) ≤ w0_v_9) (uw0_v_9 : w0_v_9 ≤ 2147483647) (hj_v_1 : q_is (q_z f0 v 1) w0_v_1) (hj_v_9 : q_is (q_z f0 v 9) w0_v_9) (hmu : (Int.toNat (w0_v_1 - w0_v_9)) < n) (H : Heap) (locs : List Loc) (hB : q_B g K L (fun q => q ∈ L) [(8, 4, 4), (8, 6, 9)] f f0 s H locs) (ls : Array Slot) (hl : lv_has ls 2 [(0, .ref v)]), W p l e { frames := 2, cells := 0, slots := 0, locals := 41 } s m ([.ref v] : List Value).toArray below meth c H locs 0 0 (MQ below (q_Q g K L [(8, 4, 4), (8, 6, 9)] f (q_Pv (fun (f1 : Nat → va_E) => True))) ([.ref v] : List Value).toArray s 0 0 (fun q => q ∈ L)) (F0 m 0 ls []) := by
    intro n
    induction n with
    | zero =>
      intro f0 w0_v_1 lw0_v_1 uw0_v_1 w0_v_9 lw0_v_9 uw0_v_9 hj_v_1 hj_v_9 hmu
      exact absurd hmu (Nat.not_lt_zero _)
    | succ n ih0 =>
      intro f0 w0_v_1 lw0_v_1 uw0_v_1 w0_v_9 lw0_v_9 uw0_v_9 hj_v_1 hj_v_9 hmu H locs hB ls hl
      refine q_ald_n cx dX8_advance_0 rfl (lv_at hl 0 rfl) ?_
      refine q_gX8_27 cx hB hv kv hj_v_9 dX8_advance_1 (fun lb101 ub101 => ?_)
      refine q_ald_n cx dX8_advance_4 rfl (lv_at hl 0 rfl) ?_
      refine q_gX8_19 cx hB hv kv hj_v_1 dX8_advance_5 (fun lb102 ub102 => ?_)
      refine q_icge (tgt := 50) cx ⟨by omega, by omega⟩ ⟨by omega, by omega⟩ dX8_advance_8 (by decide) (fun c103 => ?_) (fun c103 => ?_)
      · refine q_ald_n cx dX8_advance_50 rfl (lv_at hl 0 rfl) ?_
        refine q_ald_n cx dX8_advance_51 rfl (lv_at hl 0 rfl) ?_
        refine q_gX8_27 cx hB hv kv hj_v_9 dX8_advance_52 (fun lb104 ub104 => ?_)
        refine q_pX8_33 cx hB hv kv ⟨by omega, by omega⟩ (by omega) (by omega) rfl dX8_advance_55 (fun H locs f105 ef105 z106 hB => ?_)
        have z107 : q_is (q_z f105 v 1) w0_v_1 := by rw [ef105, q_setz (Or.inr (by decide))]; exact hj_v_1
        have z108 : q_is (q_z f105 v 9) w0_v_9 := by rw [ef105, q_setz (Or.inr (by decide))]; exact hj_v_9
        refine q_ald_n cx dX8_advance_58 rfl (lv_at hl 0 rfl) ?_
        refine q_ald_n cx dX8_advance_59 rfl (lv_at hl 0 rfl) ?_
        refine q_gX8_27 cx hB hv kv z108 dX8_advance_60 (fun lb109 ub109 => ?_)
        refine q_cVi (As := [.int (q_i w0_v_9)]) (rest := []) cx hB (fun _ h => h) hN hv kv (by decide) rfl (g_X8_byteAt l g hN hB.2.1 v hv kv w0_v_9 (by omega) (by omega)) q_cX8_36 q_dX8_byteAt (by decide) rfl rfl hl.1 rfl (Nat.le_of_ble_eq_true rfl) dX8_advance_63 (fun y111 H locs f110 ry111 h112 hF hB => ?_)
        obtain ⟨rfl, ly111, uy111⟩ := h112
        refine lv_istore_n (lv' := [(1, .int (q_i y111)), (0, .ref v)]) cx.1 cx.2.1 dX8_advance_66 rfl hl (by decide) rfl (fun ls hl => ?_)
        refine q_ald_n cx dX8_advance_67 rfl (lv_at hl 1 rfl) ?_
        refine q_gX8_27 cx hB hv kv z108 dX8_advance_68 (fun lb113 ub113 => ?_)
        refine q_ald_n cx dX8_advance_71 rfl (lv_at hl 1 rfl) ?_
        refine q_gX8_19 cx hB hv kv z107 dX8_advance_72 (fun lb114 ub114 => ?_)
        refine q_iclt (tgt := 86) cx ⟨by omega, by omega⟩ ⟨by omega, by omega⟩ dX8_advance_75 (by decide) (fun c115 => ?_) (fun c115 => ?_)
        · exact absurd c115 (by omega)
        · refine q_ald_n cx dX8_advance_78 rfl (lv_at hl 1 rfl) ?_
          refine q_iconst cx dX8_advance_79 ?_
          refine q_pX8_40 cx hB hv kv ⟨by decide, by decide⟩ (by decide) (by decide) rfl dX8_advance_80 (fun H locs f116 ef116 z117 hB => ?_)
          have z118 : q_is (q_z f116 v 1) w0_v_1 := by rw [ef116, q_setz (Or.inr (by decide))]; exact z107
          have z119 : q_is (q_z f116 v 9) w0_v_9 := by rw [ef116, q_setz (Or.inr (by decide))]; exact z108
          refine lv_goto (tgt := 151) cx.1 cx.2.1 dX8_advance_83 (by decide) ?_
          refine q_vret cx hr hlk hB dX8_advance_151 ?_
          trivial
      · refine q_ald_n cx dX8_advance_11 rfl (lv_at hl 0 rfl) ?_
        refine q_ald_n cx dX8_advance_12 rfl (lv_at hl 0 rfl) ?_
        refine q_gX8_27 cx hB hv kv hj_v_9 dX8_advance_13 (fun lb120 ub120 => ?_)
        refine q_cVi (As := [.int (q_i w0_v_9)]) (rest := []) cx hB (fun _ h => h) hN hv kv (by decide) rfl (g_X8_byteAt l g hN hB.2.1 v hv kv w0_v_9 (by omega) (by omega)) q_cX8_36 q_dX8_byteAt (by decide) rfl rfl hl.1 rfl (Nat.le_of_ble_eq_true rfl) dX8_advance_16 (fun y122 H locs f121 ry122 h123 hF hB => ?_)
        obtain ⟨rfl, ly122, uy122⟩ := h123
        refine q_bipush cx dX8_advance_19 rfl ?_
        refine q_iceq (tgt := 37) cx ⟨by omega, by omega⟩ ⟨by decide, by decide⟩ dX8_advance_21 (by decide) (fun c124 => ?_) (fun c124 => ?_)
        · refine q_ald_n cx dX8_advance_37 rfl (lv_at hl 0 rfl) ?_
          refine lv_dup cx.1 cx.2.1 dX8_advance_38 rfl ?_
          refine q_gX8_27 cx hB hv kv hj_v_9 dX8_advance_39 (fun lb125 ub125 => ?_)
          refine q_iconst cx dX8_advance_42 ?_
          refine q_iadd cx dX8_advance_43 ?_
          refine q_pX8_27 cx hB hv kv ⟨by omega, by omega⟩ (by omega) (by omega) rfl dX8_advance_44 (fun H locs f126 ef126 z127 hB => ?_)
          have z128 : q_is (q_z f126 v 1) w0_v_1 := by rw [ef126, q_setz (Or.inr (by decide))]; exact hj_v_1
          refine lv_goto (tgt := 0) cx.1 cx.2.1 dX8_advance_47 (by decide) ?_
          exact ih0 f126 w0_v_1 (by omega) (by omega) (w0_v_9 + 1) (by omega) (by omega) z128 z127 (by omega) H locs hB ls (lv_sub hl [0] rfl)
        · refine q_ald_n cx dX8_advance_24 rfl (lv_at hl 0 rfl) ?_
          refine q_ald_n cx dX8_advance_25 rfl (lv_at hl 0 rfl) ?_
          refine q_gX8_27 cx hB hv kv hj_v_9 dX8_advance_26 (fun lb129 ub129 => ?_)
          refine q_cVi (As := [.int (q_i w0_v_9)]) (rest := []) cx hB (fun _ h => h) hN hv kv (by decide) rfl (g_X8_byteAt l g hN hB.2.1 v hv kv w0_v_9 (by omega) (by omega)) q_cX8_36 q_dX8_byteAt (by decide) rfl rfl hl.1 rfl (Nat.le_of_ble_eq_true rfl) dX8_advance_29 (fun y131 H locs f130 ry131 h132 hF hB => ?_)
          obtain ⟨rfl, ly131, uy131⟩ := h132
          refine q_bipush cx dX8_advance_32 rfl ?_
          refine q_icne (tgt := 50) cx ⟨by omega, by omega⟩ ⟨by decide, by decide⟩ dX8_advance_34 (by decide) (fun c133 => ?_) (fun c133 => ?_)
          · refine q_ald_n cx dX8_advance_50 rfl (lv_at hl 0 rfl) ?_
            refine q_ald_n cx dX8_advance_51 rfl (lv_at hl 0 rfl) ?_
            refine q_gX8_27 cx hB hv kv hj_v_9 dX8_advance_52 (fun lb134 ub134 => ?_)
            refine q_pX8_33 cx hB hv kv ⟨by omega, by omega⟩ (by omega) (by omega) rfl dX8_advance_55 (fun H locs f135 ef135 z136 hB => ?_)
            have z137 : q_is (q_z f135 v 1) w0_v_1 := by rw [ef135, q_setz (Or.inr (by decide))]; exact hj_v_1
            have z138 : q_is (q_z f135 v 9) w0_v_9 := by rw [ef135, q_setz (Or.inr (by decide))]; exact hj_v_9
            refine q_ald_n cx dX8_advance_58 rfl (lv_at hl 0 rfl) ?_
            refine q_ald_n cx dX8_advance_59 rfl (lv_at hl 0 rfl) ?_
            refine q_gX8_27 cx hB hv kv z138 dX8_advance_60 (fun lb139 ub139 => ?_)
            refine q_cVi (As := [.int (q_i w0_v_9)]) (rest := []) cx hB (fun _ h => h) hN hv kv (by decide) rfl (g_X8_byteAt l g hN hB.2.1 v hv kv w0_v_9 (by omega) (by omega)) q_cX8_36 q_dX8_byteAt (by decide) rfl rfl hl.1 rfl (Nat.le_of_ble_eq_true rfl) dX8_advance_63 (fun y141 H locs f140 ry141 h142 hF hB => ?_)
            obtain ⟨rfl, ly141, uy141⟩ := h142
            refine lv_istore_n (lv' := [(1, .int (q_i y141)), (0, .ref v)]) cx.1 cx.2.1 dX8_advance_66 rfl hl (by decide) rfl (fun ls hl => ?_)
            refine q_ald_n cx dX8_advance_67 rfl (lv_at hl 1 rfl) ?_
            refine q_gX8_27 cx hB hv kv z138 dX8_advance_68 (fun lb143 ub143 => ?_)
            refine q_ald_n cx dX8_advance_71 rfl (lv_at hl 1 rfl) ?_
            refine q_gX8_19 cx hB hv kv z137 dX8_advance_72 (fun lb144 ub144 => ?_)
            refine q_iclt (tgt := 86) cx ⟨by omega, by omega⟩ ⟨by omega, by omega⟩ dX8_advance_75 (by decide) (fun c145 => ?_) (fun c145 => ?_)
            · refine q_ild_n cx dX8_advance_86 rfl (lv_at hl 0 rfl) ?_
              refine q_cSi (As := [.int (q_i y141)]) (rest := []) cx hB (fun _ h => h) hN (g_X8_isLetter l g hN hB.2.1 y141 (by omega) (by omega)) q_cX8_43 q_dX8_isLetter (by decide) rfl rfl hl.1 rfl (Nat.le_of_ble_eq_true rfl) dX8_advance_87 (fun y147 H locs f146 ry147 h148 hF hB => ?_)
              obtain ⟨rfl, ly147, uy147⟩ := h148
              refine q_ifeq (tgt := 100) cx ⟨by omega, by omega⟩ dX8_advance_90 (by decide) (fun c149 => ?_) (fun c149 => ?_)
              · refine q_ild_n cx dX8_advance_100 rfl (lv_at hl 0 rfl) ?_
                refine q_cSi (As := [.int (q_i y141)]) (rest := []) cx hB (fun _ h => h) hN (g_X8_isDigit l g hN hB.2.1 y141 (by omega) (by omega)) q_cX8_50 q_dX8_isDigit (by decide) rfl rfl hl.1 rfl (Nat.le_of_ble_eq_true rfl) dX8_advance_101 (fun y151 H locs f150 ry151 h152 hF hB => ?_)
                obtain ⟨rfl, ly151, uy151⟩ := h152
                refine q_ifeq (tgt := 114) cx ⟨by omega, by omega⟩ dX8_advance_104 (by decide) (fun c153 => ?_) (fun c153 => ?_)
                · refine q_ald_n cx dX8_advance_114 rfl (lv_at hl 1 rfl) ?_
                  refine q_ild_n cx dX8_advance_115 rfl (lv_at hl 0 rfl) ?_
                  refine q_bipush cx dX8_advance_116 rfl ?_
                  refine q_iceq (tgt := 133) cx ⟨by omega, by omega⟩ ⟨by decide, by decide⟩ dX8_advance_118 (by decide) (fun c154 => ?_) (fun c154 => ?_)
                  · refine q_ild_n cx dX8_advance_133 rfl (lv_at hl 0 rfl) ?_
                    refine lv_goto (tgt := 138) cx.1 cx.2.1 dX8_advance_134 (by decide) ?_
                    refine q_pX8_40 cx hB hv kv ⟨by omega, by omega⟩ (by omega) (by omega) rfl dX8_advance_138 (fun H locs f155 ef155 z156 hB => ?_)
                    have z157 : q_is (q_z f155 v 1) w0_v_1 := by rw [ef155, q_setz (Or.inr (by decide))]; exact z137
                    have z158 : q_is (q_z f155 v 9) w0_v_9 := by rw [ef155, q_setz (Or.inr (by decide))]; exact z138
                    refine q_ald_n cx dX8_advance_141 rfl (lv_at hl 1 rfl) ?_
                    refine lv_dup cx.1 cx.2.1 dX8_advance_142 rfl ?_
                    refine q_gX8_27 cx hB hv kv z158 dX8_advance_143 (fun lb159 ub159 => ?_)
                    refine q_iconst cx dX8_advance_146 ?_
                    refine q_iadd cx dX8_advance_147 ?_
                    refine q_pX8_27 cx hB hv kv ⟨by omega, by omega⟩ (by omega) (by omega) rfl dX8_advance_148 (fun H locs f160 ef160 z161 hB => ?_)
                    have z162 : q_is (q_z f160 v 1) w0_v_1 := by rw [ef160, q_setz (Or.inr (by decide))]; exact z157
                    refine q_vret cx hr hlk hB dX8_advance_151 ?_
                    trivial
                  · refine q_ild_n cx dX8_advance_121 rfl (lv_at hl 0 rfl) ?_
                    refine q_bipush cx dX8_advance_122 rfl ?_
                    refine q_iceq (tgt := 133) cx ⟨by omega, by omega⟩ ⟨by decide, by decide⟩ dX8_advance_124 (by decide) (fun c163 => ?_) (fun c163 => ?_)
                    · refine q_ild_n cx dX8_advance_133 rfl (lv_at hl 0 rfl) ?_
                      refine lv_goto (tgt := 138) cx.1 cx.2.1 dX8_advance_134 (by decide) ?_
                      refine q_pX8_40 cx hB hv kv ⟨by omega, by omega⟩ (by omega) (by omega) rfl dX8_advance_138 (fun H locs f164 ef164 z165 hB => ?_)
                      have z166 : q_is (q_z f164 v 1) w0_v_1 := by rw [ef164, q_setz (Or.inr (by decide))]; exact z137
                      have z167 : q_is (q_z f164 v 9) w0_v_9 := by rw [ef164, q_setz (Or.inr (by decide))]; exact z138
                      refine q_ald_n cx dX8_advance_141 rfl (lv_at hl 1 rfl) ?_
                      refine lv_dup cx.1 cx.2.1 dX8_advance_142 rfl ?_
                      refine q_gX8_27 cx hB hv kv z167 dX8_advance_143 (fun lb168 ub168 => ?_)
                      refine q_iconst cx dX8_advance_146 ?_
                      refine q_iadd cx dX8_advance_147 ?_
                      refine q_pX8_27 cx hB hv kv ⟨by omega, by omega⟩ (by omega) (by omega) rfl dX8_advance_148 (fun H locs f169 ef169 z170 hB => ?_)
                      have z171 : q_is (q_z f169 v 1) w0_v_1 := by rw [ef169, q_setz (Or.inr (by decide))]; exact z166
                      refine q_vret cx hr hlk hB dX8_advance_151 ?_
                      trivial
                    · refine q_ild_n cx dX8_advance_127 rfl (lv_at hl 0 rfl) ?_
                      refine q_bipush cx dX8_advance_128 rfl ?_
                      refine q_icne (tgt := 137) cx ⟨by omega, by omega⟩ ⟨by decide, by decide⟩ dX8_advance_130 (by decide) (fun c172 => ?_) (fun c172 => ?_)
                      · refine q_iconst cx dX8_advance_137 ?_
                        refine q_pX8_40 cx hB hv kv ⟨by decide, by decide⟩ (by decide) (by decide) rfl dX8_advance_138 (fun H locs f173 ef173 z174 hB => ?_)
                        have z175 : q_is (q_z f173 v 1) w0_v_1 := by rw [ef173, q_setz (Or.inr (by decide))]; exact z137
                        have z176 : q_is (q_z f173 v 9) w0_v_9 := by rw [ef173, q_setz (Or.inr (by decide))]; exact z138
                        refine q_ald_n cx dX8_advance_141 rfl (lv_at hl 1 rfl) ?_
                        refine lv_dup cx.1 cx.2.1 dX8_advance_142 rfl ?_
                        refine q_gX8_27 cx hB hv kv z176 dX8_advance_143 (fun lb177 ub177 => ?_)
                        refine q_iconst cx dX8_advance_146 ?_
                        refine q_iadd cx dX8_advance_147 ?_
                        refine q_pX8_27 cx hB hv kv ⟨by omega, by omega⟩ (by omega) (by omega) rfl dX8_advance_148 (fun H locs f178 ef178 z179 hB => ?_)
                        have z180 : q_is (q_z f178 v 1) w0_v_1 := by rw [ef178, q_setz (Or.inr (by decide))]; exact z175
                        refine q_vret cx hr hlk hB dX8_advance_151 ?_
                        trivial
                      · refine q_ild_n cx dX8_advance_133 rfl (lv_at hl 0 rfl) ?_
                        refine lv_goto (tgt := 138) cx.1 cx.2.1 dX8_advance_134 (by decide) ?_
                        refine q_pX8_40 cx hB hv kv ⟨by omega, by omega⟩ (by omega) (by omega) rfl dX8_advance_138 (fun H locs f181 ef181 z182 hB => ?_)
                        have z183 : q_is (q_z f181 v 1) w0_v_1 := by rw [ef181, q_setz (Or.inr (by decide))]; exact z137
                        have z184 : q_is (q_z f181 v 9) w0_v_9 := by rw [ef181, q_setz (Or.inr (by decide))]; exact z138
                        refine q_ald_n cx dX8_advance_141 rfl (lv_at hl 1 rfl) ?_
                        refine lv_dup cx.1 cx.2.1 dX8_advance_142 rfl ?_
                        refine q_gX8_27 cx hB hv kv z184 dX8_advance_143 (fun lb185 ub185 => ?_)
                        refine q_iconst cx dX8_advance_146 ?_
                        refine q_iadd cx dX8_advance_147 ?_
                        refine q_pX8_27 cx hB hv kv ⟨by omega, by omega⟩ (by omega) (by omega) rfl dX8_advance_148 (fun H locs f186 ef186 z187 hB => ?_)
                        have z188 : q_is (q_z f186 v 1) w0_v_1 := by rw [ef186, q_setz (Or.inr (by decide))]; exact z183
                        refine q_vret cx hr hlk hB dX8_advance_151 ?_
                        trivial
                · refine q_ald_n cx dX8_advance_107 rfl (lv_at hl 1 rfl) ?_
                  refine q_cVv (As := []) (rest := []) cx hB (fun _ h => h) hN hv kv (by decide) rfl (g_X8_scanNumber l g hN hB.2.1 v hv kv) q_cX8_53 q_dX8_scanNumber (by decide) rfl rfl hl.1 rfl (Nat.le_of_ble_eq_true rfl) dX8_advance_108 (fun H locs f189 h191 hF hB => ?_)
                  have z192 : q_is (q_z f189 v 1) w0_v_1 := Eq.trans (hF.z hv (by rw [kv]; rfl)) z137
                  refine lv_goto (tgt := 151) cx.1 cx.2.1 dX8_advance_111 (by decide) ?_
                  refine q_vret cx hr hlk hB dX8_advance_151 ?_
                  trivial
              · refine q_ald_n cx dX8_advance_93 rfl (lv_at hl 1 rfl) ?_
                refine q_cVv (As := []) (rest := []) cx hB (fun _ h => h) hN hv kv (by decide) rfl (g_X8_scanWord l g hN hB.2.1 v hv kv) q_cX8_47 q_dX8_scanWord (by decide) rfl rfl hl.1 rfl (Nat.le_of_ble_eq_true rfl) dX8_advance_94 (fun H locs f193 h195 hF hB => ?_)
                have z196 : q_is (q_z f193 v 1) w0_v_1 := Eq.trans (hF.z hv (by rw [kv]; rfl)) z137
                refine lv_goto (tgt := 151) cx.1 cx.2.1 dX8_advance_97 (by decide) ?_
                refine q_vret cx hr hlk hB dX8_advance_151 ?_
                trivial
            · exact absurd c145 (by omega)
          · refine q_ald_n cx dX8_advance_37 rfl (lv_at hl 0 rfl) ?_
            refine lv_dup cx.1 cx.2.1 dX8_advance_38 rfl ?_
            refine q_gX8_27 cx hB hv kv hj_v_9 dX8_advance_39 (fun lb197 ub197 => ?_)
            refine q_iconst cx dX8_advance_42 ?_
            refine q_iadd cx dX8_advance_43 ?_
            refine q_pX8_27 cx hB hv kv ⟨by omega, by omega⟩ (by omega) (by omega) rfl dX8_advance_44 (fun H locs f198 ef198 z199 hB => ?_)
            have z200 : q_is (q_z f198 v 1) w0_v_1 := by rw [ef198, q_setz (Or.inr (by decide))]; exact hj_v_1
            refine lv_goto (tgt := 0) cx.1 cx.2.1 dX8_advance_47 (by decide) ?_
            exact ih0 f198 w0_v_1 (by omega) (by omega) (w0_v_9 + 1) (by omega) (by omega) z200 z199 (by omega) H locs hB ls (lv_sub hl [0] rfl)
  obtain ⟨H, hH⟩ : ∃ H : Heap, H = s.heap := ⟨_, rfl⟩
  obtain ⟨locs, hlocs⟩ : ∃ z : List Loc, z = [] := ⟨_, rfl⟩
  rw [← hH, ← hlocs] at hB
  rw [← hH, ← hlocs]
  exact J0 ((Int.toNat (k_v_1 - k_v_9)) + 1) f k_v_1 (by omega) (by omega) k_v_9 (by omega) (by omega) ek_v_1 ek_v_9 (Nat.lt_succ_self _) H locs hB ls (lv_sub hl [0] rfl)
set_option maxHeartbeats 4000000 in
set_option maxRecDepth 100000 in
theorem g_X8_begin (l : Launch) (g : q_G) {K : Nat → Nat} {L : List Nat} (hN : L.Nodup) {f : Nat → va_E} (hT : q_Ty g K L f) (v : Nat) (hv : v ∈ L) (kv : K v = 8) : q_Ct l g K L yX8_begin cX8_begin 1 none 3 62 [.ref v] f [(8, 2, 4), (8, 6, 9)] (q_Pv (fun (f1 : Nat → va_E) => True)) := by
  refine q_ofb (by decide +kernel) hN hT (Nat.le_of_ble_eq_true rfl) ?_
  intro p e s m below meth c ls cx hr hlk hB hl
  have hl : lv_has ls 1 [(0, .ref v)] := hl
  obtain ⟨H, hH⟩ : ∃ H : Heap, H = s.heap := ⟨_, rfl⟩
  obtain ⟨locs, hlocs⟩ : ∃ z : List Loc, z = [] := ⟨_, rfl⟩
  rw [← hH, ← hlocs] at hB
  rw [← hH, ← hlocs]
  refine q_ald_n cx dX8_begin_0 rfl (lv_at hl 0 rfl) ?_
  refine q_iconst cx dX8_begin_1 ?_
  refine q_pX8_24 cx hB hv kv ⟨by decide, by decide⟩ (by decide) (by decide) rfl dX8_begin_2 (fun H locs f15 ef15 z16 hB => ?_)
  refine q_ald_n cx dX8_begin_5 rfl (lv_at hl 0 rfl) ?_
  refine q_iconst cx dX8_begin_6 ?_
  refine q_pX8_15 cx hB hv kv ⟨by decide, by decide⟩ (by decide) (by decide) rfl dX8_begin_7 (fun H locs f17 ef17 z18 hB => ?_)
  have z19 : q_is (q_z f17 v 2) 0 := by rw [ef17, q_setz (Or.inr (by decide))]; exact z16
  refine q_ald_n cx dX8_begin_10 rfl (lv_at hl 0 rfl) ?_
  refine q_iconst cx dX8_begin_11 ?_
  refine q_pX8_27 cx hB hv kv ⟨by decide, by decide⟩ (by decide) (by decide) rfl dX8_begin_12 (fun H locs f20 ef20 z21 hB => ?_)
  have z22 : q_is (q_z f20 v 2) 0 := by rw [ef20, q_setz (Or.inr (by decide))]; exact z19
  have z23 : q_is (q_z f20 v 3) (-1) := by rw [ef20, q_setz (Or.inr (by decide))]; exact z18
  refine q_ald_n cx dX8_begin_15 rfl (lv_at hl 0 rfl) ?_
  refine q_cVv (As := []) (rest := []) cx hB (fun _ h => h) hN hv kv (by decide) rfl (g_X8_advance l g hN hB.2.1 v hv kv) q_cX8_30 q_dX8_advance (by decide) rfl rfl hl.1 rfl (Nat.le_of_ble_eq_true rfl) dX8_begin_16 (fun H locs f24 h26 hF hB => ?_)
  have z27 : q_is (q_z f24 v 2) 0 := Eq.trans (hF.z hv (by rw [kv]; rfl)) z22
  have z28 : q_is (q_z f24 v 3) (-1) := Eq.trans (hF.z hv (by rw [kv]; rfl)) z23
  refine q_vret cx hr hlk hB dX8_begin_19 ?_
  trivial
set_option maxHeartbeats 4000000 in
set_option maxRecDepth 100000 in
theorem g_X8_isAtEnd (l : Launch) (g : q_G) {K : Nat → Nat} {L : List Nat} (hN : L.Nodup) {f : Nat → va_E} (hT : q_Ty g K L f) (v : Nat) (hv : v ∈ L) (kv : K v = 8) : q_Ct l g K L yX8_isAtEnd cX8_isAtEnd 1 (some .boolean) 0 0 [.ref v] f [] (q_Pi (fun (z : Int) (f1 : Nat → va_E) => f = f1 ∧ 0 ≤ z ∧ z ≤ 1)) := by
  refine q_ofb (by decide +kernel) hN hT (Nat.le_of_ble_eq_true rfl) ?_
  intro p e s m below meth c ls cx hr hlk hB hl
  have hl : lv_has ls 1 [(0, .ref v)] := hl
  have J12 : ∀ (t12_0 : Int) (lt12_0 : 0 ≤ t12_0) (ut12_0 : t12_0 ≤ 1) (H : Heap) (locs : List Loc) (hB : q_B g K L (fun q => q ∈ L) [] f f s H locs) (ls : Array Slot) (hl : lv_has ls 1 []), W p l e { frames := 0, cells := 0, slots := 0, locals := 0 } s m ([.ref v] : List Value).toArray below meth c H locs 0 0 (MQ below (q_Q g K L [] f (q_Pi (fun (z : Int) (f1 : Nat → va_E) => f = f1 ∧ 0 ≤ z ∧ z ≤ 1))) ([.ref v] : List Value).toArray s 0 0 (fun q => q ∈ L)) (F0 m 12 ls [.int (q_i t12_0)]) := by
    intro t12_0 lt12_0 ut12_0 H locs hB ls hl
    refine q_zret cx hr hlk hB dX8_isAtEnd_12 (by omega) (by omega) ?_
    exact ⟨rfl, (by omega), (by omega)⟩
  obtain ⟨H, hH⟩ : ∃ H : Heap, H = s.heap := ⟨_, rfl⟩
  obtain ⟨locs, hlocs⟩ : ∃ z : List Loc, z = [] := ⟨_, rfl⟩
  rw [← hH, ← hlocs] at hB
  rw [← hH, ← hlocs]
  refine q_ald_n cx dX8_isAtEnd_0 rfl (lv_at hl 0 rfl) ?_
  obtain ⟨x4, ex4⟩ : ∃ zz, q_is (q_z f v 6) zz := ⟨_, q_isr _⟩
  refine q_gX8_40 cx hB hv kv ex4 dX8_isAtEnd_1 (fun lb5 ub5 => ?_)
  refine q_ifne (tgt := 11) cx ⟨by omega, by omega⟩ dX8_isAtEnd_4 (by decide) (fun c6 => ?_) (fun c6 => ?_)
  · refine q_iconst cx dX8_isAtEnd_11 ?_
    exact J12 0 (by decide) (by decide) H locs hB ls (lv_sub hl [] rfl)
  · refine q_iconst cx dX8_isAtEnd_7 ?_
    refine lv_goto (tgt := 12) cx.1 cx.2.1 dX8_isAtEnd_8 (by decide) ?_
    exact J12 1 (by decide) (by decide) H locs hB ls (lv_sub hl [] rfl)
set_option maxHeartbeats 4000000 in
set_option maxRecDepth 100000 in
theorem g_X8_isMark (l : Launch) (g : q_G) {K : Nat → Nat} {L : List Nat} (hN : L.Nodup) {f : Nat → va_E} (hT : q_Ty g K L f) (v : Nat) (hv : v ∈ L) (kv : K v = 8) (p0 : Int) (lp0 : (-2147483648) ≤ p0) (up0 : p0 ≤ 2147483647) : q_Ct l g K L yX8_isMark cX8_isMark 2 (some .boolean) 0 0 [.ref v, .int (q_i p0)] f [] (q_Pi (fun (z : Int) (f1 : Nat → va_E) => f = f1 ∧ 0 ≤ z ∧ z ≤ 1)) := by
  refine q_ofb (by decide +kernel) hN hT (Nat.le_of_ble_eq_true rfl) ?_
  intro p e s m below meth c ls cx hr hlk hB hl
  have hl : lv_has ls 2 [(0, .ref v), (1, .int (q_i p0))] := hl
  have J13 : ∀ (t13_0 : Int) (lt13_0 : 0 ≤ t13_0) (ut13_0 : t13_0 ≤ 1) (H : Heap) (locs : List Loc) (hB : q_B g K L (fun q => q ∈ L) [] f f s H locs) (ls : Array Slot) (hl : lv_has ls 2 []), W p l e { frames := 0, cells := 0, slots := 0, locals := 0 } s m ([.ref v, .int (q_i p0)] : List Value).toArray below meth c H locs 0 0 (MQ below (q_Q g K L [] f (q_Pi (fun (z : Int) (f1 : Nat → va_E) => f = f1 ∧ 0 ≤ z ∧ z ≤ 1))) ([.ref v, .int (q_i p0)] : List Value).toArray s 0 0 (fun q => q ∈ L)) (F0 m 13 ls [.int (q_i t13_0)]) := by
    intro t13_0 lt13_0 ut13_0 H locs hB ls hl
    refine q_zret cx hr hlk hB dX8_isMark_13 (by omega) (by omega) ?_
    exact ⟨rfl, (by omega), (by omega)⟩
  obtain ⟨H, hH⟩ : ∃ H : Heap, H = s.heap := ⟨_, rfl⟩
  obtain ⟨locs, hlocs⟩ : ∃ z : List Loc, z = [] := ⟨_, rfl⟩
  rw [← hH, ← hlocs] at hB
  rw [← hH, ← hlocs]
  refine q_ald_n cx dX8_isMark_0 rfl (lv_at hl 0 rfl) ?_
  obtain ⟨x4, ex4⟩ : ∃ zz, q_is (q_z f v 6) zz := ⟨_, q_isr _⟩
  refine q_gX8_40 cx hB hv kv ex4 dX8_isMark_1 (fun lb5 ub5 => ?_)
  refine q_ild_n cx dX8_isMark_4 rfl (lv_at hl 1 rfl) ?_
  refine q_icne (tgt := 12) cx ⟨by omega, by omega⟩ ⟨by omega, by omega⟩ dX8_isMark_5 (by decide) (fun c6 => ?_) (fun c6 => ?_)
  · refine q_iconst cx dX8_isMark_12 ?_
    exact J13 0 (by decide) (by decide) H locs hB ls (lv_sub hl [] rfl)
  · refine q_iconst cx dX8_isMark_8 ?_
    refine lv_goto (tgt := 13) cx.1 cx.2.1 dX8_isMark_9 (by decide) ?_
    exact J13 1 (by decide) (by decide) H locs hB ls (lv_sub hl [] rfl)
set_option maxHeartbeats 4000000 in
set_option maxRecDepth 100000 in
theorem g_X8_fail (l : Launch) (g : q_G) {K : Nat → Nat} {L : List Nat} (hN : L.Nodup) {f : Nat → va_E} (hT : q_Ty g K L f) (v : Nat) (hv : v ∈ L) (kv : K v = 8) (p0 : Int) (lp0 : (-2147483648) ≤ p0) (up0 : p0 ≤ 2147483647) : q_Ct l g K L yX8_fail cX8_fail 2 (some .boolean) 0 0 [.ref v, .int (q_i p0)] f [(8, 2, 3)] (q_Pi (fun (z : Int) (f1 : Nat → va_E) => 0 ≤ z ∧ z ≤ 0)) := by
  refine q_ofb (by decide +kernel) hN hT (Nat.le_of_ble_eq_true rfl) ?_
  intro p e s m below meth c ls cx hr hlk hB hl
  have hl : lv_has ls 2 [(0, .ref v), (1, .int (q_i p0))] := hl
  obtain ⟨H, hH⟩ : ∃ H : Heap, H = s.heap := ⟨_, rfl⟩
  obtain ⟨locs, hlocs⟩ : ∃ z : List Loc, z = [] := ⟨_, rfl⟩
  rw [← hH, ← hlocs] at hB
  rw [← hH, ← hlocs]
  refine q_ald_n cx dX8_fail_0 rfl (lv_at hl 0 rfl) ?_
  refine q_ild_n cx dX8_fail_1 rfl (lv_at hl 1 rfl) ?_
  refine q_pX8_24 cx hB hv kv ⟨by omega, by omega⟩ (by omega) (by omega) rfl dX8_fail_2 (fun H locs f9 ef9 z10 hB => ?_)
  refine q_ald_n cx dX8_fail_5 rfl (lv_at hl 0 rfl) ?_
  refine q_ald_n cx dX8_fail_6 rfl (lv_at hl 0 rfl) ?_
  obtain ⟨x11, ex11⟩ : ∃ zz, q_is (q_z f9 v 8) zz := ⟨_, q_isr _⟩
  refine q_gX8_33 cx hB hv kv ex11 dX8_fail_7 (fun lb12 ub12 => ?_)
  refine q_pX8_15 cx hB hv kv ⟨by omega, by omega⟩ (by omega) (by omega) rfl dX8_fail_10 (fun H locs f13 ef13 z14 hB => ?_)
  have z15 : q_is (q_z f13 v 2) p0 := by rw [ef13, q_setz (Or.inr (by decide))]; exact z10
  have z16 : q_is (q_z f13 v 8) x11 := by rw [ef13, q_setz (Or.inr (by decide))]; exact ex11
  refine q_iconst cx dX8_fail_13 ?_
  refine q_zret cx hr hlk hB dX8_fail_14 (by decide) (by decide) ?_
  exact ⟨(by decide), (by decide)⟩
set_option maxHeartbeats 4000000 in
set_option maxRecDepth 100000 in
theorem g_X8_takeMark (l : Launch) (g : q_G) {K : Nat → Nat} {L : List Nat} (hN : L.Nodup) {f : Nat → va_E} (hT : q_Ty g K L f) (v : Nat) (hv : v ∈ L) (kv : K v = 8) (p0 : Int) (lp0 : (-2147483648) ≤ p0) (up0 : p0 ≤ 2147483647) : q_Ct l g K L yX8_takeMark cX8_takeMark 2 (some .boolean) 3 62 [.ref v, .int (q_i p0)] f [(8, 2, 4), (8, 6, 9)] (q_Pi (fun (z : Int) (f1 : Nat → va_E) => 0 ≤ z ∧ z ≤ 1)) := by
  refine q_ofb (by decide +kernel) hN hT (Nat.le_of_ble_eq_true rfl) ?_
  intro p e s m below meth c ls cx hr hlk hB hl
  have hl : lv_has ls 2 [(0, .ref v), (1, .int (q_i p0))] := hl
  obtain ⟨H, hH⟩ : ∃ H : Heap, H = s.heap := ⟨_, rfl⟩
  obtain ⟨locs, hlocs⟩ : ∃ z : List Loc, z = [] := ⟨_, rfl⟩
  rw [← hH, ← hlocs] at hB
  rw [← hH, ← hlocs]
  refine q_ald_n cx dX8_takeMark_0 rfl (lv_at hl 0 rfl) ?_
  refine q_ild_n cx dX8_takeMark_1 rfl (lv_at hl 1 rfl) ?_
  refine q_cVi (As := [.int (q_i p0)]) (rest := []) cx hB (fun _ h => h) hN hv kv (by decide) rfl (g_X8_isMark l g hN hB.2.1 v hv kv p0 (by omega) (by omega)) q_cX8_76 q_dX8_isMark (by decide) rfl rfl hl.1 rfl (Nat.le_of_ble_eq_true rfl) dX8_takeMark_2 (fun y12 H locs f11 ry12 h13 hF hB => ?_)
  obtain ⟨rfl, ly12, uy12⟩ := h13
  refine q_ifne (tgt := 14) cx ⟨by omega, by omega⟩ dX8_takeMark_5 (by decide) (fun c14 => ?_) (fun c14 => ?_)
  · refine q_ald_n cx dX8_takeMark_14 rfl (lv_at hl 0 rfl) ?_
    refine q_cVv (As := []) (rest := []) cx hB (fun _ h => h) hN hv kv (by decide) rfl (g_X8_advance l g hN hB.2.1 v hv kv) q_cX8_30 q_dX8_advance (by decide) rfl rfl hl.1 rfl (Nat.le_of_ble_eq_true rfl) dX8_takeMark_15 (fun H locs f15 h17 hF hB => ?_)
    refine q_iconst cx dX8_takeMark_18 ?_
    refine q_zret cx hr hlk hB dX8_takeMark_19 (by decide) (by decide) ?_
    exact ⟨(by decide), (by decide)⟩
  · refine q_ald_n cx dX8_takeMark_8 rfl (lv_at hl 0 rfl) ?_
    refine q_iconst cx dX8_takeMark_9 ?_
    refine q_cVi (As := [.int (q_i 1)]) (rest := []) cx hB (fun _ h => h) hN hv kv (by decide) rfl (g_X8_fail l g hN hB.2.1 v hv kv 1 (by decide) (by decide)) q_cX8_79 q_dX8_fail (by decide) rfl rfl hl.1 rfl (Nat.le_of_ble_eq_true rfl) dX8_takeMark_10 (fun y19 H locs f18 ry19 h20 hF hB => ?_)
    obtain ⟨ly19, uy19⟩ := h20
    refine q_zret cx hr hlk hB dX8_takeMark_13 (by omega) (by omega) ?_
    exact ⟨(by omega), (by omega)⟩
set_option maxHeartbeats 4000000 in
set_option maxRecDepth 100000 in
theorem g_X7_closeRepeat (l : Launch) (g : q_G) {K : Nat → Nat} {L : List Nat} (hN : L.Nodup) {f : Nat → va_E} (hT : q_Ty g K L f) (v : Nat) (hv : v ∈ L) (kv : K v = 7) (p0 : Nat) (hp0 : p0 ∈ L) (kp0 : K p0 = 8) : q_Ct l g K L yX7_closeRepeat cX7_closeRepeat 3 (some .boolean) 4 83 [.ref v, .ref p0] f [(0, 4, 4), (7, 3, 4), (8, 2, 4), (8, 6, 9)] (q_Pi (fun (z : Int) (f1 : Nat → va_E) => 0 ≤ z ∧ z ≤ 1)) := by
  refine q_ofb (by decide +kernel) hN hT (Nat.le_of_ble_eq_true rfl) ?_
  intro p e s m below meth c ls cx hr hlk hB hl
  have hl : lv_has ls 3 [(0, .ref v), (1, .ref p0)] := hl
  have J58 : ∀ (f58 : Nat → va_E) (t58_0 : Int) (lt58_0 : 0 ≤ t58_0) (ut58_0 : t58_0 ≤ 1) (H : Heap) (locs : List Loc) (hB : q_B g K L (fun q => q ∈ L) [(0, 4, 4), (7, 3, 4), (8, 2, 4), (8, 6, 9)] f f58 s H locs) (ls : Array Slot) (hl : lv_has ls 3 []), W p l e { frames := 4, cells := 0, slots := 0, locals := 83 } s m ([.ref v, .ref p0] : List Value).toArray below meth c H locs 0 0 (MQ below (q_Q g K L [(0, 4, 4), (7, 3, 4), (8, 2, 4), (8, 6, 9)] f (q_Pi (fun (z : Int) (f1 : Nat → va_E) => 0 ≤ z ∧ z ≤ 1))) ([.ref v, .ref p0] : List Value).toArray s 0 0 (fun q => q ∈ L)) (F0 m 58 ls [.int (q_i t58_0)]) := by
    intro f58 t58_0 lt58_0 ut58_0 H locs hB ls hl
    refine q_zret cx hr hlk hB dX7_closeRepeat_58 (by omega) (by omega) ?_
    exact ⟨(by omega), (by omega)⟩
  have J57 : ∀ (f57 : Nat → va_E) (H : Heap) (locs : List Loc) (hB : q_B g K L (fun q => q ∈ L) [(0, 4, 4), (7, 3, 4), (8, 2, 4), (8, 6, 9)] f f57 s H locs) (ls : Array Slot) (hl : lv_has ls 3 []), W p l e { frames := 4, cells := 0, slots := 0, locals := 83 } s m ([.ref v, .ref p0] : List Value).toArray below meth c H locs 0 0 (MQ below (q_Q g K L [(0, 4, 4), (7, 3, 4), (8, 2, 4), (8, 6, 9)] f (q_Pi (fun (z : Int) (f1 : Nat → va_E) => 0 ≤ z ∧ z ≤ 1))) ([.ref v, .ref p0] : List Value).toArray s 0 0 (fun q => q ∈ L)) (F0 m 57 ls []) := by
    intro f57 H locs hB ls hl
    refine q_iconst cx dX7_closeRepeat_57 ?_
    exact J58 f57 0 (by decide) (by decide) H locs hB ls (lv_sub hl [] rfl)
  obtain ⟨H, hH⟩ : ∃ H : Heap, H = s.heap := ⟨_, rfl⟩
  obtain ⟨locs, hlocs⟩ : ∃ z : List Loc, z = [] := ⟨_, rfl⟩
  rw [← hH, ← hlocs] at hB
  rw [← hH, ← hlocs]
  refine q_ald_n cx dX7_closeRepeat_0 rfl (lv_at hl 0 rfl) ?_
  refine q_ald_n cx dX7_closeRepeat_1 rfl (lv_at hl 0 rfl) ?_
  obtain ⟨x27, ex27⟩ : ∃ zz, q_is (q_z f v 3) zz := ⟨_, q_isr _⟩
  refine q_gX7_22 cx hB hv kv ex27 dX7_closeRepeat_2 (fun lb28 ub28 => ?_)
  refine q_cVr (As := [.int (q_i x27)]) (rest := []) cx hB (fun _ h => h) hN hv kv (by decide) rfl (g_X7_commandAt l g hN hB.2.1 v hv kv x27 (by omega) (by omega)) q_cX7_74 q_dX7_commandAt (by decide) rfl rfl hl.1 rfl (Nat.le_of_ble_eq_true rfl) dX7_closeRepeat_5 (fun y30 H locs f29 h31 hF hB => ?_)
  obtain ⟨rfl, hy30, ky30⟩ := h31
  refine lv_astore_n (lv' := [(2, .ref y30), (0, .ref v), (1, .ref p0)]) cx.1 cx.2.1 dX7_closeRepeat_8 rfl hl (by decide) rfl (fun ls hl => ?_)
  refine q_ald_n cx dX7_closeRepeat_9 rfl (lv_at hl 0 rfl) ?_
  refine q_ald_n cx dX7_closeRepeat_10 rfl (lv_at hl 1 rfl) ?_
  obtain ⟨x32, ex32⟩ : ∃ zz, q_is (q_z f v 1) zz := ⟨_, q_isr _⟩
  refine q_gX7_18 cx hB hv kv ex32 dX7_closeRepeat_11 (fun lb33 ub33 => ?_)
  refine q_pX7_111 cx hB hy30 ky30 ⟨by omega, by omega⟩ (by omega) (by omega) rfl dX7_closeRepeat_14 (fun H locs f34 ef34 z35 hB => ?_)
  refine q_ald_n cx dX7_closeRepeat_17 rfl (lv_at hl 1 rfl) ?_
  refine q_ald_n cx dX7_closeRepeat_18 rfl (lv_at hl 0 rfl) ?_
  obtain ⟨x36, ex36⟩ : ∃ zz, q_is (q_z f34 y30 5) zz := ⟨_, q_isr _⟩
  refine q_gX7_105 cx hB hy30 ky30 ex36 dX7_closeRepeat_19 (fun lb37 ub37 => ?_)
  refine q_pX7_22 cx hB hv kv ⟨by omega, by omega⟩ (by omega) (by omega) rfl dX7_closeRepeat_22 (fun H locs f38 ef38 z39 hB => ?_)
  refine q_ald_n cx dX7_closeRepeat_25 rfl (lv_at hl 1 rfl) ?_
  refine lv_dup cx.1 cx.2.1 dX7_closeRepeat_26 rfl ?_
  obtain ⟨x40, ex40⟩ : ∃ zz, q_is (q_z f38 v 4) zz := ⟨_, q_isr _⟩
  refine q_gX7_25 cx hB hv kv ex40 dX7_closeRepeat_27 (fun lb41 ub41 => ?_)
  refine q_iconst cx dX7_closeRepeat_30 ?_
  refine q_isub cx dX7_closeRepeat_31 ?_
  refine q_any (fun y42 ry42 ey42 => ?_)
  refine q_pX7_25 cx hB hv kv ⟨by omega, by omega⟩ (by omega) (by omega) rfl dX7_closeRepeat_32 (fun H locs f43 ef43 z44 hB => ?_)
  refine q_ald_n cx dX7_closeRepeat_35 rfl (lv_at hl 2 rfl) ?_
  refine q_bipush cx dX7_closeRepeat_36 rfl ?_
  refine q_cVi (As := [.int (q_i 41)]) (rest := []) cx hB (fun _ h => h) hN hp0 kp0 (by decide) rfl (g_X8_takeMark l g hN hB.2.1 p0 hp0 kp0 41 (by decide) (by decide)) q_cX7_108 q_dX8_takeMark (by decide) rfl rfl hl.1 rfl (Nat.le_of_ble_eq_true rfl) dX7_closeRepeat_38 (fun y46 H locs f45 ry46 h47 hF hB => ?_)
  obtain ⟨ly46, uy46⟩ := h47
  refine q_ifeq (tgt := 57) cx ⟨by omega, by omega⟩ dX7_closeRepeat_41 (by decide) (fun c48 => ?_) (fun c48 => ?_)
  · exact J57 f45 H locs hB ls (lv_sub hl [] rfl)
  · refine q_ald_n cx dX7_closeRepeat_44 rfl (lv_at hl 2 rfl) ?_
    refine q_bipush cx dX7_closeRepeat_45 rfl ?_
    refine q_cVi (As := [.int (q_i 59)]) (rest := []) cx hB (fun _ h => h) hN hp0 kp0 (by decide) rfl (g_X8_takeMark l g hN hB.2.1 p0 hp0 kp0 59 (by decide) (by decide)) q_cX7_108 q_dX8_takeMark (by decide) rfl rfl hl.1 rfl (Nat.le_of_ble_eq_true rfl) dX7_closeRepeat_47 (fun y50 H locs f49 ry50 h51 hF hB => ?_)
    obtain ⟨ly50, uy50⟩ := h51
    refine q_ifeq (tgt := 57) cx ⟨by omega, by omega⟩ dX7_closeRepeat_50 (by decide) (fun c52 => ?_) (fun c52 => ?_)
    · exact J57 f49 H locs hB ls (lv_sub hl [] rfl)
    · refine q_iconst cx dX7_closeRepeat_53 ?_
      refine lv_goto (tgt := 58) cx.1 cx.2.1 dX7_closeRepeat_54 (by decide) ?_
      exact J58 f49 1 (by decide) (by decide) H locs hB ls (lv_sub hl [] rfl)
set_option maxHeartbeats 4000000 in
set_option maxRecDepth 100000 in
theorem g_X8_takeNumber (l : Launch) (g : q_G) {K : Nat → Nat} {L : List Nat} (hN : L.Nodup) {f : Nat → va_E} (hT : q_Ty g K L f) (v : Nat) (hv : v ∈ L) (kv : K v = 8) (p0 : Int) (lp0 : (-2147483648) ≤ p0) (up0 : p0 ≤ 2147483647) (p1 : Int) (lp1 : (-2147483648) ≤ p1) (up1 : p1 ≤ 2147483647) : q_Ct l g K L yX8_takeNumber cX8_takeNumber 3 (some .boolean) 3 62 [.ref v, .int (q_i p0), .int (q_i p1)] f [(8, 2, 9)] (q_Pi (fun (z : Int) (f1 : Nat → va_E) => 0 ≤ z ∧ z ≤ 1 ∧ (z = 0 ∨ (p0 ≤ q_z f1 v 5 ∧ q_z f1 v 5 ≤ p1)))) := by
  refine q_ofb (by decide +kernel) hN hT (Nat.le_of_ble_eq_true rfl) ?_
  intro p e s m below meth c ls cx hr hlk hB hl
  have hl : lv_has ls 3 [(0, .ref v), (1, .int (q_i p0)), (2, .int (q_i p1))] := hl
  obtain ⟨H, hH⟩ : ∃ H : Heap, H = s.heap := ⟨_, rfl⟩
  obtain ⟨locs, hlocs⟩ : ∃ z : List Loc, z = [] := ⟨_, rfl⟩
  rw [← hH, ← hlocs] at hB
  rw [← hH, ← hlocs]
  refine q_ald_n cx dX8_takeNumber_0 rfl (lv_at hl 0 rfl) ?_
  obtain ⟨x25, ex25⟩ : ∃ zz, q_is (q_z f v 6) zz := ⟨_, q_isr _⟩
  refine q_gX8_40 cx hB hv kv ex25 dX8_takeNumber_1 (fun lb26 ub26 => ?_)
  refine q_iconst cx dX8_takeNumber_4 ?_
  refine q_iceq (tgt := 14) cx ⟨by omega, by omega⟩ ⟨by decide, by decide⟩ dX8_takeNumber_5 (by decide) (fun c27 => ?_) (fun c27 => ?_)
  · refine q_ald_n cx dX8_takeNumber_14 rfl (lv_at hl 0 rfl) ?_
    obtain ⟨x28, ex28⟩ : ∃ zz, q_is (q_z f v 7) zz := ⟨_, q_isr _⟩
    refine q_gX8_60 cx hB hv kv ex28 dX8_takeNumber_15 (fun lb29 ub29 => ?_)
    refine q_ild_n cx dX8_takeNumber_18 rfl (lv_at hl 1 rfl) ?_
    refine q_iclt (tgt := 30) cx ⟨by omega, by omega⟩ ⟨by omega, by omega⟩ dX8_takeNumber_19 (by decide) (fun c30 => ?_) (fun c30 => ?_)
    · refine q_ald_n cx dX8_takeNumber_30 rfl (lv_at hl 0 rfl) ?_
      refine q_iconst cx dX8_takeNumber_31 ?_
      refine q_cVi (As := [.int (q_i 2)]) (rest := []) cx hB (fun _ h => h) hN hv kv (by decide) rfl (g_X8_fail l g hN hB.2.1 v hv kv 2 (by decide) (by decide)) q_cX8_79 q_dX8_fail (by decide) rfl rfl hl.1 rfl (Nat.le_of_ble_eq_true rfl) dX8_takeNumber_32 (fun y32 H locs f31 ry32 h33 hF hB => ?_)
      obtain ⟨ly32, uy32⟩ := h33
      refine q_zret cx hr hlk hB dX8_takeNumber_35 (by omega) (by omega) ?_
      exact ⟨(by omega), (by omega), (Or.inl (by omega))⟩
    · refine q_ald_n cx dX8_takeNumber_22 rfl (lv_at hl 0 rfl) ?_
      refine q_gX8_60 cx hB hv kv ex28 dX8_takeNumber_23 (fun lb34 ub34 => ?_)
      refine q_ild_n cx dX8_takeNumber_26 rfl (lv_at hl 2 rfl) ?_
      refine q_icle (tgt := 36) cx ⟨by omega, by omega⟩ ⟨by omega, by omega⟩ dX8_takeNumber_27 (by decide) (fun c35 => ?_) (fun c35 => ?_)
      · refine q_ald_n cx dX8_takeNumber_36 rfl (lv_at hl 0 rfl) ?_
        refine q_ald_n cx dX8_takeNumber_37 rfl (lv_at hl 0 rfl) ?_
        refine q_gX8_60 cx hB hv kv ex28 dX8_takeNumber_38 (fun lb36 ub36 => ?_)
        refine q_pX8_86 cx hB hv kv ⟨by omega, by omega⟩ (by omega) (by omega) rfl dX8_takeNumber_41 (fun H locs f37 ef37 z38 hB => ?_)
        refine q_ald_n cx dX8_takeNumber_44 rfl (lv_at hl 0 rfl) ?_
        refine q_cVv (As := []) (rest := []) cx hB (fun _ h => h) hN hv kv (by decide) rfl (g_X8_advance l g hN hB.2.1 v hv kv) q_cX8_30 q_dX8_advance (by decide) rfl rfl hl.1 rfl (Nat.le_of_ble_eq_true rfl) dX8_takeNumber_45 (fun H locs f39 h41 hF hB => ?_)
        have z42 : q_is (q_z f39 v 5) x28 := Eq.trans (hF.z hv (by rw [kv]; rfl)) z38
        refine q_iconst cx dX8_takeNumber_48 ?_
        refine q_zret cx hr hlk hB dX8_takeNumber_49 (by decide) (by decide) ?_
        exact ⟨(by decide), (by decide), (Or.inr ⟨q_isl z42 (by omega), q_isu z42 (by omega)⟩)⟩
      · refine q_ald_n cx dX8_takeNumber_30 rfl (lv_at hl 0 rfl) ?_
        refine q_iconst cx dX8_takeNumber_31 ?_
        refine q_cVi (As := [.int (q_i 2)]) (rest := []) cx hB (fun _ h => h) hN hv kv (by decide) rfl (g_X8_fail l g hN hB.2.1 v hv kv 2 (by decide) (by decide)) q_cX8_79 q_dX8_fail (by decide) rfl rfl hl.1 rfl (Nat.le_of_ble_eq_true rfl) dX8_takeNumber_32 (fun y44 H locs f43 ry44 h45 hF hB => ?_)
        obtain ⟨ly44, uy44⟩ := h45
        refine q_zret cx hr hlk hB dX8_takeNumber_35 (by omega) (by omega) ?_
        exact ⟨(by omega), (by omega), (Or.inl (by omega))⟩
  · refine q_ald_n cx dX8_takeNumber_8 rfl (lv_at hl 0 rfl) ?_
    refine q_iconst cx dX8_takeNumber_9 ?_
    refine q_cVi (As := [.int (q_i 1)]) (rest := []) cx hB (fun _ h => h) hN hv kv (by decide) rfl (g_X8_fail l g hN hB.2.1 v hv kv 1 (by decide) (by decide)) q_cX8_79 q_dX8_fail (by decide) rfl rfl hl.1 rfl (Nat.le_of_ble_eq_true rfl) dX8_takeNumber_10 (fun y47 H locs f46 ry47 h48 hF hB => ?_)
    obtain ⟨ly47, uy47⟩ := h48
    refine q_zret cx hr hlk hB dX8_takeNumber_13 (by omega) (by omega) ?_
    exact ⟨(by omega), (by omega), (Or.inl (by omega))⟩
set_option maxHeartbeats 4000000 in
set_option maxRecDepth 100000 in
theorem g_X7_openRepeat (l : Launch) (g : q_G) {K : Nat → Nat} {L : List Nat} (hN : L.Nodup) {f : Nat → va_E} (hT : q_Ty g K L f) (v : Nat) (hv : v ∈ L) (kv : K v = 7) (p0 : Nat) (hp0 : p0 ∈ L) (kp0 : K p0 = 8) (p1 : Nat) (hp1 : p1 ∈ L) (kp1 : K p1 = 0) : q_Ct l g K L yX7_openRepeat cX7_openRepeat 3 (some .boolean) 4 84 [.ref v, .ref p0, .ref p1] f [(0, 1, 1), (0, 5, 5), (7, 3, 4), (8, 2, 9)] (q_Pi (fun (z : Int) (f1 : Nat → va_E) => 0 ≤ z ∧ z ≤ 1)) := by
  refine q_ofb (by decide +kernel) hN hT (Nat.le_of_ble_eq_true rfl) ?_
  intro p e s m below meth c ls cx hr hlk hB hl
  have hl : lv_has ls 3 [(0, .ref v), (1, .ref p0), (2, .ref p1)] := hl
  obtain ⟨H, hH⟩ : ∃ H : Heap, H = s.heap := ⟨_, rfl⟩
  obtain ⟨locs, hlocs⟩ : ∃ z : List Loc, z = [] := ⟨_, rfl⟩
  rw [← hH, ← hlocs] at hB
  rw [← hH, ← hlocs]
  refine q_ald_n cx dX7_openRepeat_0 rfl (lv_at hl 1 rfl) ?_
  refine q_iconst cx dX7_openRepeat_1 ?_
  refine q_bipush cx dX7_openRepeat_2 rfl ?_
  refine q_cVi (As := [.int (q_i 1), .int (q_i 20)]) (rest := []) cx hB (fun _ h => h) hN hp0 kp0 (by decide) rfl (g_X8_takeNumber l g hN hB.2.1 p0 hp0 kp0 1 (by decide) (by decide) 20 (by decide) (by decide)) q_cX7_95 q_dX8_takeNumber (by decide) rfl rfl hl.1 rfl (Nat.le_of_ble_eq_true rfl) dX7_openRepeat_4 (fun y47 H locs f46 ry47 h48 hF hB => ?_)
  obtain ⟨ly47, uy47, t49⟩ := h48
  refine q_ifne (tgt := 12) cx ⟨by omega, by omega⟩ dX7_openRepeat_7 (by decide) (fun c50 => ?_) (fun c50 => ?_)
  · refine q_ald_n cx dX7_openRepeat_12 rfl (lv_at hl 2 rfl) ?_
    refine q_ald_n cx dX7_openRepeat_13 rfl (lv_at hl 1 rfl) ?_
    obtain ⟨x51, ex51⟩ : ∃ zz, q_is (q_z f46 p0 5) zz := ⟨_, q_isr _⟩
    refine q_gX7_99 cx hB hp0 kp0 ex51 dX7_openRepeat_14 (fun lb52 ub52 => ?_)
    refine q_pX7_102 cx hB hp1 kp1 ⟨by omega, by omega⟩ (by omega) (by omega) rfl dX7_openRepeat_17 (fun H locs f53 ef53 z54 hB => ?_)
    have z55 : q_is (q_z f53 p0 5) x51 := by rw [ef53, q_setz (Or.inr (by decide))]; exact ex51
    refine q_ald_n cx dX7_openRepeat_20 rfl (lv_at hl 2 rfl) ?_
    refine q_ald_n cx dX7_openRepeat_21 rfl (lv_at hl 0 rfl) ?_
    obtain ⟨x56, ex56⟩ : ∃ zz, q_is (q_z f53 v 3) zz := ⟨_, q_isr _⟩
    refine q_gX7_22 cx hB hv kv ex56 dX7_openRepeat_22 (fun lb57 ub57 => ?_)
    refine q_pX7_105 cx hB hp1 kp1 ⟨by omega, by omega⟩ (by omega) (by omega) rfl dX7_openRepeat_25 (fun H locs f58 ef58 z59 hB => ?_)
    have z60 : q_is (q_z f58 p0 5) x51 := by rw [ef58, q_setz (Or.inl (fun q => by rw [q, kp1] at kp0; exact absurd kp0 (by decide)))]; exact z55
    have z61 : q_is (q_z f58 p1 1) x51 := by rw [ef58, q_setz (Or.inr (by decide))]; exact z54
    have z62 : q_is (q_z f58 v 3) x56 := by rw [ef58, q_setz (Or.inr (by decide))]; exact ex56
    refine q_ald_n cx dX7_openRepeat_28 rfl (lv_at hl 0 rfl) ?_
    refine q_ald_n cx dX7_openRepeat_29 rfl (lv_at hl 0 rfl) ?_
    obtain ⟨x63, ex63⟩ : ∃ zz, q_is (q_z f58 v 1) zz := ⟨_, q_isr _⟩
    refine q_gX7_18 cx hB hv kv ex63 dX7_openRepeat_30 (fun lb64 ub64 => ?_)
    refine q_iconst cx dX7_openRepeat_33 ?_
    refine q_isub cx dX7_openRepeat_34 ?_
    refine q_any (fun y65 ry65 ey65 => ?_)
    refine q_pX7_22 cx hB hv kv ⟨by omega, by omega⟩ (by omega) (by omega) rfl dX7_openRepeat_35 (fun H locs f66 ef66 z67 hB => ?_)
    have z68 : q_is (q_z f66 p0 5) x51 := by rw [ef66, q_setz (Or.inr (by decide))]; exact z60
    have z69 : q_is (q_z f66 p1 1) x51 := by rw [ef66, q_setz (Or.inr (by decide))]; exact z61
    have z70 : q_is (q_z f66 p1 5) x56 := by rw [ef66, q_setz (Or.inr (by decide))]; exact z59
    have z71 : q_is (q_z f66 v 1) x63 := by rw [ef66, q_setz (Or.inr (by decide))]; exact ex63
    refine q_ald_n cx dX7_openRepeat_38 rfl (lv_at hl 0 rfl) ?_
    refine lv_dup cx.1 cx.2.1 dX7_openRepeat_39 rfl ?_
    obtain ⟨x72, ex72⟩ : ∃ zz, q_is (q_z f66 v 4) zz := ⟨_, q_isr _⟩
    refine q_gX7_25 cx hB hv kv ex72 dX7_openRepeat_40 (fun lb73 ub73 => ?_)
    refine q_iconst cx dX7_openRepeat_43 ?_
    refine q_iadd cx dX7_openRepeat_44 ?_
    refine q_any (fun y74 ry74 ey74 => ?_)
    refine q_pX7_25 cx hB hv kv ⟨by omega, by omega⟩ (by omega) (by omega) rfl dX7_openRepeat_45 (fun H locs f75 ef75 z76 hB => ?_)
    have z77 : q_is (q_z f75 p0 5) x51 := by rw [ef75, q_setz (Or.inr (by decide))]; exact z68
    have z78 : q_is (q_z f75 p1 1) x51 := by rw [ef75, q_setz (Or.inr (by decide))]; exact z69
    have z79 : q_is (q_z f75 p1 5) x56 := by rw [ef75, q_setz (Or.inr (by decide))]; exact z70
    have z80 : q_is (q_z f75 v 1) x63 := by rw [ef75, q_setz (Or.inr (by decide))]; exact z71
    have z81 : q_is (q_z f75 v 3) y65 := by rw [ef75, q_setz (Or.inr (by decide))]; exact z67
    refine q_ald_n cx dX7_openRepeat_48 rfl (lv_at hl 1 rfl) ?_
    refine q_bipush cx dX7_openRepeat_49 rfl ?_
    refine q_cVi (As := [.int (q_i 40)]) (rest := []) cx hB (fun _ h => h) hN hp0 kp0 (by decide) rfl (g_X8_takeMark l g hN hB.2.1 p0 hp0 kp0 40 (by decide) (by decide)) q_cX7_108 q_dX8_takeMark (by decide) rfl rfl hl.1 rfl (Nat.le_of_ble_eq_true rfl) dX7_openRepeat_51 (fun y83 H locs f82 ry83 h84 hF hB => ?_)
    obtain ⟨ly83, uy83⟩ := h84
    have z85 : q_is (q_z f82 p0 5) x51 := Eq.trans (hF.z hp0 (by rw [kp0]; rfl)) z77
    have z86 : q_is (q_z f82 p1 1) x51 := Eq.trans (hF.z hp1 (by rw [kp1]; rfl)) z78
    have z87 : q_is (q_z f82 p1 5) x56 := Eq.trans (hF.z hp1 (by rw [kp1]; rfl)) z79
    have z88 : q_is (q_z f82 v 1) x63 := Eq.trans (hF.z hv (by rw [kv]; rfl)) z80
    have z89 : q_is (q_z f82 v 3) y65 := Eq.trans (hF.z hv (by rw [kv]; rfl)) z81
    have z90 : q_is (q_z f82 v 4) y74 := Eq.trans (hF.z hv (by rw [kv]; rfl)) z76
    refine q_zret cx hr hlk hB dX7_openRepeat_54 (by omega) (by omega) ?_
    exact ⟨(by omega), (by omega)⟩
  · refine q_iconst cx dX7_openRepeat_10 ?_
    refine q_zret cx hr hlk hB dX7_openRepeat_11 (by decide) (by decide) ?_
    exact ⟨(by decide), (by decide)⟩
set_option maxHeartbeats 4000000 in
set_option maxRecDepth 100000 in
theorem g_X8_expectName (l : Launch) (g : q_G) {K : Nat → Nat} {L : List Nat} (hN : L.Nodup) {f : Nat → va_E} (hT : q_Ty g K L f) (v : Nat) (hv : v ∈ L) (kv : K v = 8) : q_Ct l g K L yX8_expectName cX8_expectName 1 (some .boolean) 1 21 [.ref v] f [(8, 2, 3)] (q_Pi (fun (z : Int) (f1 : Nat → va_E) => 0 ≤ z ∧ z ≤ 1)) := by
  refine q_ofb (by decide +kernel) hN hT (Nat.le_of_ble_eq_true rfl) ?_
  intro p e s m below meth c ls cx hr hlk hB hl
  have hl : lv_has ls 1 [(0, .ref v)] := hl
  have J21 : ∀ (f21 : Nat → va_E) (t21_0 : Int) (lt21_0 : 0 ≤ t21_0) (ut21_0 : t21_0 ≤ 1) (H : Heap) (locs : List Loc) (hB : q_B g K L (fun q => q ∈ L) [(8, 2, 3)] f f21 s H locs) (ls : Array Slot) (hl : lv_has ls 1 []), W p l e { frames := 1, cells := 0, slots := 0, locals := 21 } s m ([.ref v] : List Value).toArray below meth c H locs 0 0 (MQ below (q_Q g K L [(8, 2, 3)] f (q_Pi (fun (z : Int) (f1 : Nat → va_E) => 0 ≤ z ∧ z ≤ 1))) ([.ref v] : List Value).toArray s 0 0 (fun q => q ∈ L)) (F0 m 21 ls [.int (q_i t21_0)]) := by
    intro f21 t21_0 lt21_0 ut21_0 H locs hB ls hl
    refine q_zret cx hr hlk hB dX8_expectName_21 (by omega) (by omega) ?_
    exact ⟨(by omega), (by omega)⟩
  have J16 : ∀  (H : Heap) (locs : List Loc) (hB : q_B g K L (fun q => q ∈ L) [(8, 2, 3)] f f s H locs) (ls : Array Slot) (hl : lv_has ls 1 []), W p l e { frames := 1, cells := 0, slots := 0, locals := 21 } s m ([.ref v] : List Value).toArray below meth c H locs 0 0 (MQ below (q_Q g K L [(8, 2, 3)] f (q_Pi (fun (z : Int) (f1 : Nat → va_E) => 0 ≤ z ∧ z ≤ 1))) ([.ref v] : List Value).toArray s 0 0 (fun q => q ∈ L)) (F0 m 16 ls []) := by
    intro  H locs hB ls hl
    refine q_iconst cx dX8_expectName_16 ?_
    refine lv_goto (tgt := 21) cx.1 cx.2.1 dX8_expectName_17 (by decide) ?_
    exact J21 f 1 (by decide) (by decide) H locs hB ls (lv_sub hl [] rfl)
  obtain ⟨H, hH⟩ : ∃ H : Heap, H = s.heap := ⟨_, rfl⟩
  obtain ⟨locs, hlocs⟩ : ∃ z : List Loc, z = [] := ⟨_, rfl⟩
  rw [← hH, ← hlocs] at hB
  rw [← hH, ← hlocs]
  refine q_ald_n cx dX8_expectName_0 rfl (lv_at hl 0 rfl) ?_
  obtain ⟨x8, ex8⟩ : ∃ zz, q_is (q_z f v 6) zz := ⟨_, q_isr _⟩
  refine q_gX8_40 cx hB hv kv ex8 dX8_expectName_1 (fun lb9 ub9 => ?_)
  refine q_iconst cx dX8_expectName_4 ?_
  refine q_iceq (tgt := 16) cx ⟨by omega, by omega⟩ ⟨by decide, by decide⟩ dX8_expectName_5 (by decide) (fun c10 => ?_) (fun c10 => ?_)
  · exact J16  H locs hB ls (lv_sub hl [] rfl)
  · refine q_ald_n cx dX8_expectName_8 rfl (lv_at hl 0 rfl) ?_
    refine q_iconst cx dX8_expectName_9 ?_
    refine q_cVi (As := [.int (q_i 1)]) (rest := []) cx hB (fun _ h => h) hN hv kv (by decide) rfl (g_X8_fail l g hN hB.2.1 v hv kv 1 (by decide) (by decide)) q_cX8_79 q_dX8_fail (by decide) rfl rfl hl.1 rfl (Nat.le_of_ble_eq_true rfl) dX8_expectName_10 (fun y12 H locs f11 ry12 h13 hF hB => ?_)
    obtain ⟨ly12, uy12⟩ := h13
    refine q_ifeq (tgt := 20) cx ⟨by omega, by omega⟩ dX8_expectName_13 (by decide) (fun c14 => ?_) (fun c14 => ?_)
    · refine q_iconst cx dX8_expectName_20 ?_
      exact J21 f11 0 (by decide) (by decide) H locs hB ls (lv_sub hl [] rfl)
    · exact absurd c14 (by omega)
set_option maxHeartbeats 4000000 in
set_option maxRecDepth 100000 in
theorem g_X10_numberOf (l : Launch) (g : q_G) {K : Nat → Nat} {L : List Nat} (hN : L.Nodup) {f : Nat → va_E} (hT : q_Ty g K L f) (v : Nat) (hv : v ∈ L) (kv : K v = 10) (p0 : Int64) : q_Ct l g K L yX10_numberOf cX10_numberOf 4 (some .int) 1 21 [.ref v, .long p0] f [] (q_Pi (fun (z : Int) (f1 : Nat → va_E) => f = f1 ∧ (-1) ≤ z ∧ z ≤ 9)) := by
  refine q_ofb (by decide +kernel) hN hT (Nat.le_of_ble_eq_true rfl) ?_
  intro p e s m below meth c ls cx hr hlk hB hl
  have hl : lv_has ls 4 [(0, .ref v), (1, .long p0)] := hl
  have J2 : ∀ (n : Nat) (v2_1 : Int64) (v2_3 : Int) (lv2_3 : 0 ≤ v2_3) (uv2_3 : v2_3 ≤ 10) (hmu : (Int.toNat (2147483647 - v2_3)) < n) (H : Heap) (locs : List Loc) (hB : q_B g K L (fun q => q ∈ L) [] f f s H locs) (ls : Array Slot) (hl : lv_has ls 4 [(0, .ref v), (1, .long v2_1), (3, .int (q_i v2_3))]), W p l e { frames := 1, cells := 0, slots := 0, locals := 21 } s m ([.ref v, .long p0] : List Value).toArray below meth c H locs 0 0 (MQ below (q_Q g K L [] f (q_Pi (fun (z : Int) (f1 : Nat → va_E) => f = f1 ∧ (-1) ≤ z ∧ z ≤ 9))) ([.ref v, .long p0] : List Value).toArray s 0 0 (fun q => q ∈ L)) (F0 m 2 ls []) := by
    intro n
    induction n with
    | zero =>
      intro v2_1 v2_3 lv2_3 uv2_3 hmu
      exact absurd hmu (Nat.not_lt_zero _)
    | succ n ih2 =>
      intro v2_1 v2_3 lv2_3 uv2_3 hmu H locs hB ls hl
      refine q_ild_n cx dX10_numberOf_2 rfl (lv_at hl 2 rfl) ?_
      refine q_ald_n cx dX10_numberOf_3 rfl (lv_at hl 0 rfl) ?_
      obtain ⟨x91, ex91⟩ : ∃ zz, q_is (q_z f v 3) zz := ⟨_, q_isr _⟩
      refine q_gX10_35 cx hB hv kv ex91 dX10_numberOf_4 (fun lb92 ub92 => ?_)
      refine q_icge (tgt := 31) cx ⟨by omega, by omega⟩ ⟨by omega, by omega⟩ dX10_numberOf_7 (by decide) (fun c93 => ?_) (fun c93 => ?_)
      · refine q_iconst cx dX10_numberOf_31 ?_
        refine q_iret cx hr hlk hB dX10_numberOf_32 ⟨by decide, by decide⟩ ?_
        exact ⟨rfl, (by decide), (by decide)⟩
      · refine q_ald_n cx dX10_numberOf_10 rfl (lv_at hl 0 rfl) ?_
        refine q_ild_n cx dX10_numberOf_11 rfl (lv_at hl 2 rfl) ?_
        refine q_cVr (As := [.int (q_i v2_3)]) (rest := []) cx hB (fun _ h => h) hN hv kv (by decide) rfl (g_X10_nodeAt l g hN hB.2.1 v hv kv v2_3 (by omega) (by omega)) q_cX10_66 q_dX10_nodeAt (by decide) rfl rfl hl.1 rfl (Nat.le_of_ble_eq_true rfl) dX10_numberOf_12 (fun y95 H locs f94 h96 hF hB => ?_)
        obtain ⟨rfl, hy95, ky95⟩ := h96
        obtain ⟨j97, ej97⟩ : ∃ zz, q_j f y95 0 = zz := ⟨_, rfl⟩
        refine q_gX10_88 cx hB hy95 ky95 ej97 dX10_numberOf_15 ?_
        refine q_lld_n cx dX10_numberOf_18 rfl (lv_at hl 1 rfl) ?_
        refine q_lcmp cx dX10_numberOf_19 (fun y98 ly98 uy98 ey98 gy98 hy98 => ?_)
        refine q_ifne (tgt := 25) cx ⟨by omega, by omega⟩ dX10_numberOf_20 (by decide) (fun c99 => ?_) (fun c99 => ?_)
        · refine q_iinc (lv' := [(3, .int (q_i (v2_3 + 1))), (0, .ref v), (1, .long v2_1)]) cx dX10_numberOf_25 hl (k := 2) rfl (by decide) rfl (fun ls hl => ?_)
          refine lv_goto (tgt := 2) cx.1 cx.2.1 dX10_numberOf_28 (by decide) ?_
          exact ih2 v2_1 (v2_3 + 1) (by omega) (by omega) (by omega) H locs hB ls (lv_sub hl [1, 2, 0] rfl)
        · refine q_ild_n cx dX10_numberOf_23 rfl (lv_at hl 2 rfl) ?_
          refine q_iret cx hr hlk hB dX10_numberOf_24 ⟨by omega, by omega⟩ ?_
          exact ⟨rfl, (by omega), (by omega)⟩
  obtain ⟨H, hH⟩ : ∃ H : Heap, H = s.heap := ⟨_, rfl⟩
  obtain ⟨locs, hlocs⟩ : ∃ z : List Loc, z = [] := ⟨_, rfl⟩
  rw [← hH, ← hlocs] at hB
  rw [← hH, ← hlocs]
  refine q_iconst cx dX10_numberOf_0 ?_
  refine lv_istore_n (lv' := [(3, .int (q_i 0)), (0, .ref v), (1, .long p0)]) cx.1 cx.2.1 dX10_numberOf_1 rfl hl (by decide) rfl (fun ls hl => ?_)
  exact J2 ((Int.toNat (2147483647 - 0)) + 1) p0 0 (by decide) (by decide) (Nat.lt_succ_self _) H locs hB ls (lv_sub hl [1, 2, 0] rfl)
