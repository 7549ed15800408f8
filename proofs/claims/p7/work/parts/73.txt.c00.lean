set_option maxHeartbeats 4000000 in
set_option maxRecDepth 100000 in
theorem f_byteAt (l : Launch) (g : q_G) {K : Nat → Nat} {L : List Nat} (hN : L.Nodup) {f : Nat → va_E} (hT : q_Ty g K L f) (B : Nat → Int) (so : Nat) (hso : so ∈ L) (kso : K so = 8) (p0 : Int) (lp0 : 0 ≤ p0) (up0 : p0 ≤ 600) (ba : Nat) (hba : ba ∈ L) (kba : K ba = 142) (tn : Int) (ltn : 0 ≤ tn) (utn : tn ≤ 600) (hf0 : q_is (q_z f so 1) tn) (hr0 : q_ir (q_r f so 0) ba) (htb : tk_tb f ba B tn) : q_Ct l g K L yX8_byteAt cX8_byteAt 2 (some .int) 0 0 [.ref so, .int (q_i p0)] f [] (q_Pi (fun (z : Int) (f1 : Nat → va_E) => f = f1 ∧ (-128) ≤ z ∧ z ≤ 127 ∧ (p0 < tn → z = B (Int.toNat p0)))) := by
  refine q_ofb (by decide +kernel) hN hT (Nat.le_of_ble_eq_true rfl) ?_
  intro p e s m below meth c ls cx hr hlk hB hl
  have hl : lv_has ls 2 [(0, .ref so), (1, .int (q_i p0))] := hl
  obtain ⟨H, hH⟩ : ∃ H : Heap, H = s.heap := ⟨_, rfl⟩
  obtain ⟨locs, hlocs⟩ : ∃ z : List Loc, z = [] := ⟨_, rfl⟩
  rw [← hH, ← hlocs] at hB
  rw [← hH, ← hlocs]
  refine q_ild_n cx dX8_byteAt_0 rfl (lv_at hl 1 rfl) ?_
  refine q_iflt (tgt := 22) cx ⟨by omega, by omega⟩ dX8_byteAt_1 (by decide) (fun c7 => ?_) (fun c7 => ?_)
  · exact absurd c7 (by omega)
  · refine q_ild_n cx dX8_byteAt_4 rfl (lv_at hl 1 rfl) ?_
    refine q_ald_n cx dX8_byteAt_5 rfl (lv_at hl 0 rfl) ?_
    refine q_gX8_11 cx hB hso kso hr0 dX8_byteAt_6 (fun hb8 kb8 => ?_)
    refine q_alen (n := 600) cx hB hba kba (by decide) rfl 0 rfl rfl dX8_byteAt_9 ?_
    refine q_icge (tgt := 22) cx ⟨by omega, by omega⟩ ⟨by decide, by decide⟩ dX8_byteAt_10 (by decide) (fun c9 => ?_) (fun c9 => ?_)
    · refine q_iconst cx dX8_byteAt_22 ?_
      refine q_iret cx hr hlk hB dX8_byteAt_23 ⟨by decide, by decide⟩ ?_
      exact ⟨rfl, (by decide), (by decide), (fun h9 => absurd h9 (by omega))⟩
    · refine q_ald_n cx dX8_byteAt_13 rfl (lv_at hl 0 rfl) ?_
      refine q_gX8_11 cx hB hso kso hr0 dX8_byteAt_14 (fun hb10 kb10 => ?_)
      refine q_ild_n cx dX8_byteAt_17 rfl (lv_at hl 1 rfl) ?_
      obtain ⟨x11, ex11⟩ : ∃ zz, q_is (q_z f ba (Int.toNat p0)) zz := ⟨_, q_isr _⟩
      refine q_bald (lo := (-128)) (hi := 127) (n := 600) cx hB hba kba (by decide) rfl rfl (by omega) (by omega) (by decide) rfl ex11 dX8_byteAt_18 (fun lb12 ub12 => ?_)
      refine lv_goto (tgt := 23) cx.1 cx.2.1 dX8_byteAt_19 (by decide) ?_
      refine q_iret cx hr hlk hB dX8_byteAt_23 ⟨by omega, by omega⟩ ?_
      exact ⟨rfl, (by omega), (by omega), (fun h9 => tk_tb_at htb ex11 lp0 h9)⟩
set_option maxHeartbeats 4000000 in
set_option maxRecDepth 100000 in
theorem f_isLetter (l : Launch) (g : q_G) {K : Nat → Nat} {L : List Nat} (hN : L.Nodup) {f : Nat → va_E} (hT : q_Ty g K L f) (p0 : Int) (lp0 : (-2147483648) ≤ p0) (up0 : p0 ≤ 2147483647) : q_Ct l g K L yX8_isLetter cX8_isLetter 1 (some .boolean) 0 0 [.int (q_i p0)] f [] (q_Pi (fun (z : Int) (f1 : Nat → va_E) => (f = f1 ∧ z = 1 ∧ (97 ≤ p0) ∧ (p0 ≤ 122) ∧ (tk_lt p0 = true)) ∨ (f = f1 ∧ z = 0 ∧ (tk_lt p0 = false)))) := by
  refine q_ofb (by decide +kernel) hN hT (Nat.le_of_ble_eq_true rfl) ?_
  intro p e s m below meth c ls cx hr hlk hB hl
  have hl : lv_has ls 1 [(0, .int (q_i p0))] := hl
  obtain ⟨H, hH⟩ : ∃ H : Heap, H = s.heap := ⟨_, rfl⟩
  obtain ⟨locs, hlocs⟩ : ∃ z : List Loc, z = [] := ⟨_, rfl⟩
  rw [← hH, ← hlocs] at hB
  rw [← hH, ← hlocs]
  refine q_ild_n cx dX8_isLetter_0 rfl (lv_at hl 0 rfl) ?_
  refine q_bipush cx dX8_isLetter_1 rfl ?_
  refine q_iclt (tgt := 16) cx ⟨by omega, by omega⟩ ⟨by decide, by decide⟩ dX8_isLetter_3 (by decide) (fun c3 => ?_) (fun c3 => ?_)
  · refine q_iconst cx dX8_isLetter_16 ?_
    refine q_zret cx hr hlk hB dX8_isLetter_17 (by decide) (by decide) ?_
    exact (Or.inr ⟨rfl, rfl, (tk_lt_no (by omega))⟩)
  · refine q_ild_n cx dX8_isLetter_6 rfl (lv_at hl 0 rfl) ?_
    refine q_bipush cx dX8_isLetter_7 rfl ?_
    refine q_icgt (tgt := 16) cx ⟨by omega, by omega⟩ ⟨by decide, by decide⟩ dX8_isLetter_9 (by decide) (fun c4 => ?_) (fun c4 => ?_)
    · refine q_iconst cx dX8_isLetter_16 ?_
      refine q_zret cx hr hlk hB dX8_isLetter_17 (by decide) (by decide) ?_
      exact (Or.inr ⟨rfl, rfl, (tk_lt_no (by omega))⟩)
    · refine q_iconst cx dX8_isLetter_12 ?_
      refine lv_goto (tgt := 17) cx.1 cx.2.1 dX8_isLetter_13 (by decide) ?_
      refine q_zret cx hr hlk hB dX8_isLetter_17 (by decide) (by decide) ?_
      exact (Or.inl ⟨rfl, rfl, (by omega), (by omega), (tk_lt_iff.mpr ⟨by omega, by omega⟩)⟩)
set_option maxHeartbeats 4000000 in
set_option maxRecDepth 100000 in
theorem f_isDigit (l : Launch) (g : q_G) {K : Nat → Nat} {L : List Nat} (hN : L.Nodup) {f : Nat → va_E} (hT : q_Ty g K L f) (p0 : Int) (lp0 : (-2147483648) ≤ p0) (up0 : p0 ≤ 2147483647) : q_Ct l g K L yX8_isDigit cX8_isDigit 1 (some .boolean) 0 0 [.int (q_i p0)] f [] (q_Pi (fun (z : Int) (f1 : Nat → va_E) => (f = f1 ∧ z = 1 ∧ (48 ≤ p0) ∧ (p0 ≤ 57) ∧ (tk_dg p0 = true)) ∨ (f = f1 ∧ z = 0 ∧ (tk_dg p0 = false)))) := by
  refine q_ofb (by decide +kernel) hN hT (Nat.le_of_ble_eq_true rfl) ?_
  intro p e s m below meth c ls cx hr hlk hB hl
  have hl : lv_has ls 1 [(0, .int (q_i p0))] := hl
  obtain ⟨H, hH⟩ : ∃ H : Heap, H = s.heap := ⟨_, rfl⟩
  obtain ⟨locs, hlocs⟩ : ∃ z : List Loc, z = [] := ⟨_, rfl⟩
  rw [← hH, ← hlocs] at hB
  rw [← hH, ← hlocs]
  refine q_ild_n cx dX8_isDigit_0 rfl (lv_at hl 0 rfl) ?_
  refine q_bipush cx dX8_isDigit_1 rfl ?_
  refine q_iclt (tgt := 16) cx ⟨by omega, by omega⟩ ⟨by decide, by decide⟩ dX8_isDigit_3 (by decide) (fun c3 => ?_) (fun c3 => ?_)
  · refine q_iconst cx dX8_isDigit_16 ?_
    refine q_zret cx hr hlk hB dX8_isDigit_17 (by decide) (by decide) ?_
    exact (Or.inr ⟨rfl, rfl, (tk_dg_no (by omega))⟩)
  · refine q_ild_n cx dX8_isDigit_6 rfl (lv_at hl 0 rfl) ?_
    refine q_bipush cx dX8_isDigit_7 rfl ?_
    refine q_icgt (tgt := 16) cx ⟨by omega, by omega⟩ ⟨by decide, by decide⟩ dX8_isDigit_9 (by decide) (fun c4 => ?_) (fun c4 => ?_)
    · refine q_iconst cx dX8_isDigit_16 ?_
      refine q_zret cx hr hlk hB dX8_isDigit_17 (by decide) (by decide) ?_
      exact (Or.inr ⟨rfl, rfl, (tk_dg_no (by omega))⟩)
    · refine q_iconst cx dX8_isDigit_12 ?_
      refine lv_goto (tgt := 17) cx.1 cx.2.1 dX8_isDigit_13 (by decide) ?_
      refine q_zret cx hr hlk hB dX8_isDigit_17 (by decide) (by decide) ?_
      exact (Or.inl ⟨rfl, rfl, (by omega), (by omega), (tk_dg_iff.mpr ⟨by omega, by omega⟩)⟩)
set_option maxHeartbeats 4000000 in
set_option maxRecDepth 100000 in
theorem f_scanWord (l : Launch) (g : q_G) {K : Nat → Nat} {L : List Nat} (hN : L.Nodup) {f : Nat → va_E} (hT : q_Ty g K L f) (B : Nat → Int) (so : Nat) (hso : so ∈ L) (kso : K so = 8) (ba : Nat) (hba : ba ∈ L) (kba : K ba = 142) (tn : Int) (ltn : 0 ≤ tn) (utn : tn ≤ 600) (ss : Int) (lss : 0 ≤ ss) (uss : ss ≤ 599) (hf0 : q_is (q_z f so 1) tn) (hf1 : q_is (q_z f so 8) ss) (hf2 : q_is (q_z f so 9) ss) (hr0 : q_ir (q_r f so 0) ba) (hp0 : ss < tn) (htb : tk_tb f ba B tn) : q_Ct l g K L yX8_scanWord cX8_scanWord 1 none 1 21 [.ref so] f [(8, 4, 4), (8, 6, 6), (8, 9, 9)] (q_Pv (fun (f1 : Nat → va_E) => (q_z f1 so 9 = ss + tk_run tk_lt B tn ss) ∧ (q_z f1 so 6 = (if tk_run tk_lt B tn ss ≤ 8 then 1 else 3)) ∧ (q_j f1 so 4 = tk_cw (tk_w B tn ss)))) := by
  refine q_ofb (by decide +kernel) hN hT (Nat.le_of_ble_eq_true rfl) ?_
  intro p e s m below meth c ls cx hr hlk hB hl
  have hl : lv_has ls 1 [(0, .ref so)] := hl
  have J5 : ∀ (n : Nat) (f5 : Nat → va_E) (w5_so_9 : Int) (lw5_so_9 : 0 ≤ w5_so_9) (uw5_so_9 : w5_so_9 ≤ 600) (hj_so_1 : q_is (q_z f5 so 1) tn) (hj_so_8 : q_is (q_z f5 so 8) ss) (hj_so_9 : q_is (q_z f5 so 9) w5_so_9) (hq_so_0 : q_ir (q_r f5 so 0) ba) (htb5 : tk_tb f5 ba B tn) (hrl5_0 : 0 ≤ 1 * w5_so_9 + -1 * ss + 0) (hrl5_1 : 0 ≤ 1 * tn + -1 * w5_so_9 + 0) (hru : w5_so_9 + tk_run tk_lt B tn w5_so_9 = ss + tk_run tk_lt B tn ss) (hwo : q_j f5 so 4 = (tk_cw (tk_ls B ss (min 8 (Int.toNat (w5_so_9 - ss)))))) (hmu : (Int.toNat (tn - w5_so_9)) < n) (H : Heap) (locs : List Loc) (hB : q_B g K L (fun q => q ∈ L) [(8, 4, 4), (8, 6, 6), (8, 9, 9)] f f5 s H locs) (ls : Array Slot) (hl : lv_has ls 1 [(0, .ref so)]), W p l e { frames := 1, cells := 0, slots := 0, locals := 21 } s m ([.ref so] : List Value).toArray below meth c H locs 0 0 (MQ below (q_Q g K L [(8, 4, 4), (8, 6, 6), (8, 9, 9)] f (q_Pv (fun (f1 : Nat → va_E) => (q_z f1 so 9 = ss + tk_run tk_lt B tn ss) ∧ (q_z f1 so 6 = (if tk_run tk_lt B tn ss ≤ 8 then 1 else 3)) ∧ (q_j f1 so 4 = tk_cw (tk_w B tn ss))))) ([.ref so] : List Value).toArray s 0 0 (fun q => q ∈ L)) (F0 m 5 ls []) := by
    intro n
    induction n with
    | zero =>
      intro f5 w5_so_9 lw5_so_9 uw5_so_9 hj_so_1 hj_so_8 hj_so_9 hq_so_0 htb5 hrl5_0 hrl5_1 hru hwo hmu
      exact absurd hmu (Nat.not_lt_zero _)
    | succ n ih5 =>
      intro f5 w5_so_9 lw5_so_9 uw5_so_9 hj_so_1 hj_so_8 hj_so_9 hq_so_0 htb5 hrl5_0 hrl5_1 hru hwo hmu H locs hB ls hl
      refine q_ald_n cx dX8_scanWord_5 rfl (lv_at hl 0 rfl) ?_
      refine q_gX8_27 cx hB hso kso hj_so_9 dX8_scanWord_6 (fun lb100 ub100 => ?_)
      refine q_ald_n cx dX8_scanWord_9 rfl (lv_at hl 0 rfl) ?_
      refine q_gX8_19 cx hB hso kso hj_so_1 dX8_scanWord_10 (fun lb101 ub101 => ?_)
      refine q_icge (tgt := 88) cx ⟨by omega, by omega⟩ ⟨by omega, by omega⟩ dX8_scanWord_13 (by decide) (fun c102 => ?_) (fun c102 => ?_)
      · refine q_ald_n cx dX8_scanWord_88 rfl (lv_at hl 0 rfl) ?_
        refine q_ald_n cx dX8_scanWord_89 rfl (lv_at hl 0 rfl) ?_
        refine q_gX8_27 cx hB hso kso hj_so_9 dX8_scanWord_90 (fun lb103 ub103 => ?_)
        refine q_ald_n cx dX8_scanWord_93 rfl (lv_at hl 0 rfl) ?_
        refine q_gX8_33 cx hB hso kso hj_so_8 dX8_scanWord_94 (fun lb104 ub104 => ?_)
        refine q_isub cx dX8_scanWord_97 ?_
        refine q_bipush cx dX8_scanWord_98 rfl ?_
        refine q_icgt (tgt := 107) cx ⟨by omega, by omega⟩ ⟨by decide, by decide⟩ dX8_scanWord_100 (by decide) (fun c105 => ?_) (fun c105 => ?_)
        · refine q_iconst cx dX8_scanWord_107 ?_
          refine q_pX8_40 cx hB hso kso ⟨by decide, by decide⟩ (by decide) (by decide) rfl dX8_scanWord_108 (fun H locs f106 ef106 z107 hB => ?_)
          have z108 : q_is (q_z f106 so 1) tn := by rw [ef106, q_setz (Or.inr (by decide))]; exact hj_so_1
          have z109 : q_is (q_z f106 so 8) ss := by rw [ef106, q_setz (Or.inr (by decide))]; exact hj_so_8
          have z110 : q_is (q_z f106 so 9) w5_so_9 := by rw [ef106, q_setz (Or.inr (by decide))]; exact hj_so_9
          have z111 : q_j f106 so 4 = (tk_cw (tk_ls B ss (min 8 (Int.toNat (w5_so_9 - ss))))) := by rw [ef106, q_setj (Or.inr (by decide))]; exact hwo
          have z112 : q_ir (q_r f106 so 0) ba := by rw [ef106, q_setr (Or.inr (by decide))]; exact hq_so_0
          have g113 : tk_tb f106 ba B tn := tk_tb_tr htb5 (fun i9 => by rw [ef106, q_setz (Or.inl (fun q => by rw [q, kso] at kba; exact absurd kba (by decide)))])
          refine q_vret cx hr hlk hB dX8_scanWord_111 ?_
          exact ⟨(Eq.trans z110 (tk_ru_over hru (by omega))), (tk_kdn z107 (tk_ru_over hru (by omega)) (by omega)), (tk_wo_end z111 (tk_ru_over hru (by omega)))⟩
        · refine q_iconst cx dX8_scanWord_103 ?_
          refine lv_goto (tgt := 108) cx.1 cx.2.1 dX8_scanWord_104 (by decide) ?_
          refine q_pX8_40 cx hB hso kso ⟨by decide, by decide⟩ (by decide) (by decide) rfl dX8_scanWord_108 (fun H locs f114 ef114 z115 hB => ?_)
          have z116 : q_is (q_z f114 so 1) tn := by rw [ef114, q_setz (Or.inr (by decide))]; exact hj_so_1
          have z117 : q_is (q_z f114 so 8) ss := by rw [ef114, q_setz (Or.inr (by decide))]; exact hj_so_8
          have z118 : q_is (q_z f114 so 9) w5_so_9 := by rw [ef114, q_setz (Or.inr (by decide))]; exact hj_so_9
          have z119 : q_j f114 so 4 = (tk_cw (tk_ls B ss (min 8 (Int.toNat (w5_so_9 - ss))))) := by rw [ef114, q_setj (Or.inr (by decide))]; exact hwo
          have z120 : q_ir (q_r f114 so 0) ba := by rw [ef114, q_setr (Or.inr (by decide))]; exact hq_so_0
          have g121 : tk_tb f114 ba B tn := tk_tb_tr htb5 (fun i9 => by rw [ef114, q_setz (Or.inl (fun q => by rw [q, kso] at kba; exact absurd kba (by decide)))])
          refine q_vret cx hr hlk hB dX8_scanWord_111 ?_
          exact ⟨(Eq.trans z118 (tk_ru_over hru (by omega))), (tk_kdy z115 (tk_ru_over hru (by omega)) (by omega)), (tk_wo_end z119 (tk_ru_over hru (by omega)))⟩
      · refine q_ald_n cx dX8_scanWord_16 rfl (lv_at hl 0 rfl) ?_
        refine q_ald_n cx dX8_scanWord_17 rfl (lv_at hl 0 rfl) ?_
        refine q_gX8_27 cx hB hso kso hj_so_9 dX8_scanWord_18 (fun lb122 ub122 => ?_)
        refine q_cVi (As := [.int (q_i w5_so_9)]) (rest := []) cx hB (fun _ h => h) hN hso kso (by decide) rfl (f_byteAt l g hN hB.2.1 B so hso kso w5_so_9 (by omega) (by omega) ba hba kba tn (by omega) (by omega) hj_so_1 hq_so_0 htb5) q_cX8_36 q_dX8_byteAt (by decide) rfl rfl hl.1 rfl (Nat.le_of_ble_eq_true rfl) dX8_scanWord_21 (fun y124 H locs f123 ry124 h125 hF hB => ?_)
        obtain ⟨rfl, ly124, uy124, t126⟩ := h125
        refine q_cSi (As := [.int (q_i y124)]) (rest := []) cx hB (fun _ h => h) hN (f_isLetter l g hN hB.2.1 y124 (by omega) (by omega)) q_cX8_43 q_dX8_isLetter (by decide) rfl rfl hl.1 rfl (Nat.le_of_ble_eq_true rfl) dX8_scanWord_24 (fun y128 H locs f127 ry128 h129 hF hB => ?_)
        rcases h129 with h130 | h131
        · obtain ⟨rfl, qy128, t132, t133, t134⟩ := h130
          subst qy128
          refine q_ifeq (tgt := 88) cx ⟨by decide, by decide⟩ dX8_scanWord_27 (by decide) (fun c135 => ?_) (fun c135 => ?_)
          · exact absurd c135 (by omega)
          · refine q_ald_n cx dX8_scanWord_30 rfl (lv_at hl 0 rfl) ?_
            refine q_gX8_27 cx hB hso kso hj_so_9 dX8_scanWord_31 (fun lb136 ub136 => ?_)
            refine q_ald_n cx dX8_scanWord_34 rfl (lv_at hl 0 rfl) ?_
            refine q_gX8_33 cx hB hso kso hj_so_8 dX8_scanWord_35 (fun lb137 ub137 => ?_)
            refine q_isub cx dX8_scanWord_38 ?_
            refine q_bipush cx dX8_scanWord_39 rfl ?_
            refine q_icge (tgt := 75) cx ⟨by omega, by omega⟩ ⟨by decide, by decide⟩ dX8_scanWord_41 (by decide) (fun c138 => ?_) (fun c138 => ?_)
            · refine q_ald_n cx dX8_scanWord_75 rfl (lv_at hl 0 rfl) ?_
              refine lv_dup cx.1 cx.2.1 dX8_scanWord_76 rfl ?_
              refine q_gX8_27 cx hB hso kso hj_so_9 dX8_scanWord_77 (fun lb139 ub139 => ?_)
              refine q_iconst cx dX8_scanWord_80 ?_
              refine q_iadd cx dX8_scanWord_81 ?_
              refine q_pX8_27 cx hB hso kso ⟨by omega, by omega⟩ (by omega) (by omega) rfl dX8_scanWord_82 (fun H locs f140 ef140 z141 hB => ?_)
              have z142 : q_is (q_z f140 so 1) tn := by rw [ef140, q_setz (Or.inr (by decide))]; exact hj_so_1
              have z143 : q_is (q_z f140 so 8) ss := by rw [ef140, q_setz (Or.inr (by decide))]; exact hj_so_8
              have z144 : q_j f140 so 4 = (tk_cw (tk_ls B ss (min 8 (Int.toNat (w5_so_9 - ss))))) := by rw [ef140, q_setj (Or.inr (by decide))]; exact hwo
              have z145 : q_ir (q_r f140 so 0) ba := by rw [ef140, q_setr (Or.inr (by decide))]; exact hq_so_0
              have g146 : tk_tb f140 ba B tn := tk_tb_tr htb5 (fun i9 => by rw [ef140, q_setz (Or.inl (fun q => by rw [q, kso] at kba; exact absurd kba (by decide)))])
              refine lv_goto (tgt := 5) cx.1 cx.2.1 dX8_scanWord_85 (by decide) ?_
              exact ih5 f140 (w5_so_9 + 1) (by omega) (by omega) z142 z143 z141 z145 g146 (by omega) (by omega) (tk_ru_step hru (by omega) (by omega) t126 t134) (tk_wo_same (by omega) z144) (by omega) H locs hB ls (lv_sub hl [0] rfl)
            · refine q_ald_n cx dX8_scanWord_44 rfl (lv_at hl 0 rfl) ?_
              refine lv_dup cx.1 cx.2.1 dX8_scanWord_45 rfl ?_
              refine q_gX8_56 cx hB hso kso hwo dX8_scanWord_46 ?_
              refine q_ald_n cx dX8_scanWord_49 rfl (lv_at hl 0 rfl) ?_
              refine q_ald_n cx dX8_scanWord_50 rfl (lv_at hl 0 rfl) ?_
              refine q_gX8_27 cx hB hso kso hj_so_9 dX8_scanWord_51 (fun lb147 ub147 => ?_)
              refine q_cVi (As := [.int (q_i w5_so_9)]) (rest := [.long (tk_cw (tk_ls B ss (min 8 (Int.toNat (w5_so_9 - ss))))), .ref so]) cx hB (fun _ h => h) hN hso kso (by decide) rfl (f_byteAt l g hN hB.2.1 B so hso kso w5_so_9 (by omega) (by omega) ba hba kba tn (by omega) (by omega) hj_so_1 hq_so_0 htb5) q_cX8_36 q_dX8_byteAt (by decide) rfl rfl hl.1 rfl (Nat.le_of_ble_eq_true rfl) dX8_scanWord_54 (fun y149 H locs f148 ry149 h150 hF hB => ?_)
              obtain ⟨rfl, ly149, uy149, t151⟩ := h150
              refine q_i2l cx ⟨by omega, by omega⟩ dX8_scanWord_57 ?_
              refine q_bipush cx dX8_scanWord_58 rfl ?_
              refine q_ald_n cx dX8_scanWord_60 rfl (lv_at hl 0 rfl) ?_
              refine q_gX8_27 cx hB hso kso hj_so_9 dX8_scanWord_61 (fun lb152 ub152 => ?_)
              refine q_ald_n cx dX8_scanWord_64 rfl (lv_at hl 0 rfl) ?_
              refine q_gX8_33 cx hB hso kso hj_so_8 dX8_scanWord_65 (fun lb153 ub153 => ?_)
              refine q_isub cx dX8_scanWord_68 ?_
              refine q_imul cx dX8_scanWord_69 ?_
              refine lv_lshl cx.1 cx.2.1 dX8_scanWord_70 rfl ?_
              refine lv_topl (fun j154 ej154 => ?_)
              refine lv_lor cx.1 cx.2.1 dX8_scanWord_71 ?_
              refine lv_topl (fun j155 ej155 => ?_)
              refine q_pX8_56 cx hB hso kso rfl dX8_scanWord_72 (fun H locs f156 ef156 z157 hB => ?_)
              have z158 : q_is (q_z f156 so 1) tn := by rw [ef156, q_setz (Or.inr (by decide))]; exact hj_so_1
              have z159 : q_is (q_z f156 so 8) ss := by rw [ef156, q_setz (Or.inr (by decide))]; exact hj_so_8
              have z160 : q_is (q_z f156 so 9) w5_so_9 := by rw [ef156, q_setz (Or.inr (by decide))]; exact hj_so_9
              have z161 : q_ir (q_r f156 so 0) ba := by rw [ef156, q_setr (Or.inr (by decide))]; exact hq_so_0
              have g162 : tk_tb f156 ba B tn := tk_tb_tr htb5 (fun i9 => by rw [ef156, q_setz (Or.inl (fun q => by rw [q, kso] at kba; exact absurd kba (by decide)))])
              refine q_ald_n cx dX8_scanWord_75 rfl (lv_at hl 0 rfl) ?_
              refine lv_dup cx.1 cx.2.1 dX8_scanWord_76 rfl ?_
              refine q_gX8_27 cx hB hso kso z160 dX8_scanWord_77 (fun lb163 ub163 => ?_)
              refine q_iconst cx dX8_scanWord_80 ?_
              refine q_iadd cx dX8_scanWord_81 ?_
              refine q_pX8_27 cx hB hso kso ⟨by omega, by omega⟩ (by omega) (by omega) rfl dX8_scanWord_82 (fun H locs f164 ef164 z165 hB => ?_)
              have z166 : q_is (q_z f164 so 1) tn := by rw [ef164, q_setz (Or.inr (by decide))]; exact z158
              have z167 : q_is (q_z f164 so 8) ss := by rw [ef164, q_setz (Or.inr (by decide))]; exact z159
              have z168 : q_j f164 so 4 = j155 := by rw [ef164, q_setj (Or.inr (by decide))]; exact z157
              have z169 : q_ir (q_r f164 so 0) ba := by rw [ef164, q_setr (Or.inr (by decide))]; exact z161
              have g170 : tk_tb f164 ba B tn := tk_tb_tr g162 (fun i9 => by rw [ef164, q_setz (Or.inl (fun q => by rw [q, kso] at kba; exact absurd kba (by decide)))])
              refine lv_goto (tgt := 5) cx.1 cx.2.1 dX8_scanWord_85 (by decide) ?_
              exact ih5 f164 (w5_so_9 + 1) (by omega) (by omega) z166 z167 z165 z169 g170 (by omega) (by omega) (tk_ru_step hru (by omega) (by omega) t126 t134) (tk_wo_step (by omega) (by omega) hru (by omega) (by omega) t126 t134 t151 ej154 ej155 z168) (by omega) H locs hB ls (lv_sub hl [0] rfl)
        · obtain ⟨rfl, qy128, t171⟩ := h131
          subst qy128
          refine q_ifeq (tgt := 88) cx ⟨by decide, by decide⟩ dX8_scanWord_27 (by decide) (fun c172 => ?_) (fun c172 => ?_)
          · refine q_ald_n cx dX8_scanWord_88 rfl (lv_at hl 0 rfl) ?_
            refine q_ald_n cx dX8_scanWord_89 rfl (lv_at hl 0 rfl) ?_
            refine q_gX8_27 cx hB hso kso hj_so_9 dX8_scanWord_90 (fun lb173 ub173 => ?_)
            refine q_ald_n cx dX8_scanWord_93 rfl (lv_at hl 0 rfl) ?_
            refine q_gX8_33 cx hB hso kso hj_so_8 dX8_scanWord_94 (fun lb174 ub174 => ?_)
            refine q_isub cx dX8_scanWord_97 ?_
            refine q_bipush cx dX8_scanWord_98 rfl ?_
            refine q_icgt (tgt := 107) cx ⟨by omega, by omega⟩ ⟨by decide, by decide⟩ dX8_scanWord_100 (by decide) (fun c175 => ?_) (fun c175 => ?_)
            · refine q_iconst cx dX8_scanWord_107 ?_
              refine q_pX8_40 cx hB hso kso ⟨by decide, by decide⟩ (by decide) (by decide) rfl dX8_scanWord_108 (fun H locs f176 ef176 z177 hB => ?_)
              have z178 : q_is (q_z f176 so 1) tn := by rw [ef176, q_setz (Or.inr (by decide))]; exact hj_so_1
              have z179 : q_is (q_z f176 so 8) ss := by rw [ef176, q_setz (Or.inr (by decide))]; exact hj_so_8
              have z180 : q_is (q_z f176 so 9) w5_so_9 := by rw [ef176, q_setz (Or.inr (by decide))]; exact hj_so_9
              have z181 : q_j f176 so 4 = (tk_cw (tk_ls B ss (min 8 (Int.toNat (w5_so_9 - ss))))) := by rw [ef176, q_setj (Or.inr (by decide))]; exact hwo
              have z182 : q_ir (q_r f176 so 0) ba := by rw [ef176, q_setr (Or.inr (by decide))]; exact hq_so_0
              have g183 : tk_tb f176 ba B tn := tk_tb_tr htb5 (fun i9 => by rw [ef176, q_setz (Or.inl (fun q => by rw [q, kso] at kba; exact absurd kba (by decide)))])
              refine q_vret cx hr hlk hB dX8_scanWord_111 ?_
              exact ⟨(Eq.trans z180 (tk_ru_end hru (by omega) t126 t171)), (tk_kdn z177 (tk_ru_end hru (by omega) t126 t171) (by omega)), (tk_wo_end z181 (tk_ru_end hru (by omega) t126 t171))⟩
            · refine q_iconst cx dX8_scanWord_103 ?_
              refine lv_goto (tgt := 108) cx.1 cx.2.1 dX8_scanWord_104 (by decide) ?_
              refine q_pX8_40 cx hB hso kso ⟨by decide, by decide⟩ (by decide) (by decide) rfl dX8_scanWord_108 (fun H locs f184 ef184 z185 hB => ?_)
              have z186 : q_is (q_z f184 so 1) tn := by rw [ef184, q_setz (Or.inr (by decide))]; exact hj_so_1
              have z187 : q_is (q_z f184 so 8) ss := by rw [ef184, q_setz (Or.inr (by decide))]; exact hj_so_8
              have z188 : q_is (q_z f184 so 9) w5_so_9 := by rw [ef184, q_setz (Or.inr (by decide))]; exact hj_so_9
              have z189 : q_j f184 so 4 = (tk_cw (tk_ls B ss (min 8 (Int.toNat (w5_so_9 - ss))))) := by rw [ef184, q_setj (Or.inr (by decide))]; exact hwo
              have z190 : q_ir (q_r f184 so 0) ba := by rw [ef184, q_setr (Or.inr (by decide))]; exact hq_so_0
              have g191 : tk_tb f184 ba B tn := tk_tb_tr htb5 (fun i9 => by rw [ef184, q_setz (Or.inl (fun q => by rw [q, kso] at kba; exact absurd kba (by decide)))])
              refine q_vret cx hr hlk hB dX8_scanWord_111 ?_
              exact ⟨(Eq.trans z188 (tk_ru_end hru (by omega) t126 t171)), (tk_kdy z185 (tk_ru_end hru (by omega) t126 t171) (by omega)), (tk_wo_end z189 (tk_ru_end hru (by omega) t126 t171))⟩
          · exact absurd c172 (by omega)
  obtain ⟨H, hH⟩ : ∃ H : Heap, H = s.heap := ⟨_, rfl⟩
  obtain ⟨locs, hlocs⟩ : ∃ z : List Loc, z = [] := ⟨_, rfl⟩
  rw [← hH, ← hlocs] at hB
  rw [← hH, ← hlocs]
  refine q_ald_n cx dX8_scanWord_0 rfl (lv_at hl 0 rfl) ?_
  refine q_lconst (z := 0) cx (by decide) dX8_scanWord_1 ?_
  refine q_pX8_56 cx hB hso kso rfl dX8_scanWord_2 (fun H locs f192 ef192 z193 hB => ?_)
  have z194 : q_is (q_z f192 so 1) tn := by rw [ef192, q_setz (Or.inr (by decide))]; exact hf0
  have z195 : q_is (q_z f192 so 8) ss := by rw [ef192, q_setz (Or.inr (by decide))]; exact hf1
  have z196 : q_is (q_z f192 so 9) ss := by rw [ef192, q_setz (Or.inr (by decide))]; exact hf2
  have z197 : q_ir (q_r f192 so 0) ba := by rw [ef192, q_setr (Or.inr (by decide))]; exact hr0
  have g198 : tk_tb f192 ba B tn := tk_tb_tr htb (fun i9 => by rw [ef192, q_setz (Or.inl (fun q => by rw [q, kso] at kba; exact absurd kba (by decide)))])
  exact J5 ((Int.toNat (tn - ss)) + 1) f192 ss (by omega) (by omega) z194 z195 z196 z197 g198 (by omega) (by omega) rfl (tk_wo_init z193) (Nat.lt_succ_self _) H locs hB ls (lv_sub hl [0] rfl)
set_option maxHeartbeats 4000000 in
set_option maxRecDepth 100000 in
theorem f_scanNumber (l : Launch) (g : q_G) {K : Nat → Nat} {L : List Nat} (hN : L.Nodup) {f : Nat → va_E} (hT : q_Ty g K L f) (B : Nat → Int) (so : Nat) (hso : so ∈ L) (kso : K so = 8) (ba : Nat) (hba : ba ∈ L) (kba : K ba = 142) (tn : Int) (ltn : 0 ≤ tn) (utn : tn ≤ 600) (ss : Int) (lss : 0 ≤ ss) (uss : ss ≤ 599) (hf0 : q_is (q_z f so 1) tn) (hf1 : q_is (q_z f so 8) ss) (hf2 : q_is (q_z f so 9) ss) (hr0 : q_ir (q_r f so 0) ba) (hp0 : ss < tn) (htb : tk_tb f ba B tn) : q_Ct l g K L yX8_scanNumber cX8_scanNumber 1 none 1 21 [.ref so] f [(8, 6, 7), (8, 9, 9)] (q_Pv (fun (f1 : Nat → va_E) => (q_z f1 so 9 = ss + tk_run tk_dg B tn ss) ∧ (q_z f1 so 6 = (if tk_run tk_dg B tn ss ≤ 3 then 2 else 3)) ∧ (q_z f1 so 7 = tk_v B tn ss))) := by
  refine q_ofb (by decide +kernel) hN hT (Nat.le_of_ble_eq_true rfl) ?_
  intro p e s m below meth c ls cx hr hlk hB hl
  have hl : lv_has ls 1 [(0, .ref so)] := hl
  have J5 : ∀ (n : Nat) (f5 : Nat → va_E) (w5_so_9 : Int) (lw5_so_9 : 0 ≤ w5_so_9) (uw5_so_9 : w5_so_9 ≤ 600) (w5_so_7 : Int) (lw5_so_7 : 0 ≤ w5_so_7) (uw5_so_7 : w5_so_7 ≤ 999) (hj_so_1 : q_is (q_z f5 so 1) tn) (hj_so_8 : q_is (q_z f5 so 8) ss) (hj_so_9 : q_is (q_z f5 so 9) w5_so_9) (hj_so_7 : q_is (q_z f5 so 7) w5_so_7) (hq_so_0 : q_ir (q_r f5 so 0) ba) (htb5 : tk_tb f5 ba B tn) (hrl5_0 : 0 ≤ 1 * w5_so_9 + -1 * ss + 0) (hrl5_1 : 0 ≤ 1 * tn + -1 * w5_so_9 + 0) (hru : w5_so_9 + tk_run tk_dg B tn w5_so_9 = ss + tk_run tk_dg B tn ss) (hvb : (w5_so_9 - ss ≤ 2 → w5_so_7 ≤ 99) ∧ (w5_so_9 - ss ≤ 1 → w5_so_7 ≤ 9) ∧ (w5_so_9 - ss ≤ 0 → w5_so_7 ≤ 0)) (hwo : q_is w5_so_7 (tk_vl B ss (min 3 (Int.toNat (w5_so_9 - ss))))) (hmu : (Int.toNat (tn - w5_so_9)) < n) (H : Heap) (locs : List Loc) (hB : q_B g K L (fun q => q ∈ L) [(8, 6, 7), (8, 9, 9)] f f5 s H locs) (ls : Array Slot) (hl : lv_has ls 1 [(0, .ref so)]), W p l e { frames := 1, cells := 0, slots := 0, locals := 21 } s m ([.ref so] : List Value).toArray below meth c H locs 0 0 (MQ below (q_Q g K L [(8, 6, 7), (8, 9, 9)] f (q_Pv (fun (f1 : Nat → va_E) => (q_z f1 so 9 = ss + tk_run tk_dg B tn ss) ∧ (q_z f1 so 6 = (if tk_run tk_dg B tn ss ≤ 3 then 2 else 3)) ∧ (q_z f1 so 7 = tk_v B tn ss)))) ([.ref so] : List Value).toArray s 0 0 (fun q => q ∈ L)) (F0 m 5 ls []) := by
    intro n
    induction n with
    | zero =>
      intro f5 w5_so_9 lw5_so_9 uw5_so_9 w5_so_7 lw5_so_7 uw5_so_7 hj_so_1 hj_so_8 hj_so_9 hj_so_7 hq_so_0 htb5 hrl5_0 hrl5_1 hru hvb hwo hmu
      exact absurd hmu (Nat.not_lt_zero _)
    | succ n ih5 =>
      intro f5 w5_so_9 lw5_so_9 uw5_so_9 w5_so_7 lw5_so_7 uw5_so_7 hj_so_1 hj_so_8 hj_so_9 hj_so_7 hq_so_0 htb5 hrl5_0 hrl5_1 hru hvb hwo hmu H locs hB ls hl
      refine q_ald_n cx dX8_scanNumber_5 rfl (lv_at hl 0 rfl) ?_
      refine q_gX8_27 cx hB hso kso hj_so_9 dX8_scanNumber_6 (fun lb97 ub97 => ?_)
      refine q_ald_n cx dX8_scanNumber_9 rfl (lv_at hl 0 rfl) ?_
      refine q_gX8_19 cx hB hso kso hj_so_1 dX8_scanNumber_10 (fun lb98 ub98 => ?_)
      refine q_icge (tgt := 79) cx ⟨by omega, by omega⟩ ⟨by omega, by omega⟩ dX8_scanNumber_13 (by decide) (fun c99 => ?_) (fun c99 => ?_)
      · refine q_ald_n cx dX8_scanNumber_79 rfl (lv_at hl 0 rfl) ?_
        refine q_ald_n cx dX8_scanNumber_80 rfl (lv_at hl 0 rfl) ?_
        refine q_gX8_27 cx hB hso kso hj_so_9 dX8_scanNumber_81 (fun lb100 ub100 => ?_)
        refine q_ald_n cx dX8_scanNumber_84 rfl (lv_at hl 0 rfl) ?_
        refine q_gX8_33 cx hB hso kso hj_so_8 dX8_scanNumber_85 (fun lb101 ub101 => ?_)
        refine q_isub cx dX8_scanNumber_88 ?_
        refine q_iconst cx dX8_scanNumber_89 ?_
        refine q_icgt (tgt := 97) cx ⟨by omega, by omega⟩ ⟨by decide, by decide⟩ dX8_scanNumber_90 (by decide) (fun c102 => ?_) (fun c102 => ?_)
        · refine q_iconst cx dX8_scanNumber_97 ?_
          refine q_pX8_40 cx hB hso kso ⟨by decide, by decide⟩ (by decide) (by decide) rfl dX8_scanNumber_98 (fun H locs f103 ef103 z104 hB => ?_)
          have z105 : q_is (q_z f103 so 1) tn := by rw [ef103, q_setz (Or.inr (by decide))]; exact hj_so_1
          have z106 : q_is (q_z f103 so 8) ss := by rw [ef103, q_setz (Or.inr (by decide))]; exact hj_so_8
          have z107 : q_is (q_z f103 so 9) w5_so_9 := by rw [ef103, q_setz (Or.inr (by decide))]; exact hj_so_9
          have z108 : q_is (q_z f103 so 7) w5_so_7 := by rw [ef103, q_setz (Or.inr (by decide))]; exact hj_so_7
          have z109 : q_ir (q_r f103 so 0) ba := by rw [ef103, q_setr (Or.inr (by decide))]; exact hq_so_0
          have g110 : tk_tb f103 ba B tn := tk_tb_tr htb5 (fun i9 => by rw [ef103, q_setz (Or.inl (fun q => by rw [q, kso] at kba; exact absurd kba (by decide)))])
          refine q_vret cx hr hlk hB dX8_scanNumber_101 ?_
          exact ⟨(Eq.trans z107 (tk_ru_over hru (by omega))), (tk_kdn z104 (tk_ru_over hru (by omega)) (by omega)), (tk_vo_end z108 hwo (tk_ru_over hru (by omega)))⟩
        · refine q_iconst cx dX8_scanNumber_93 ?_
          refine lv_goto (tgt := 98) cx.1 cx.2.1 dX8_scanNumber_94 (by decide) ?_
          refine q_pX8_40 cx hB hso kso ⟨by decide, by decide⟩ (by decide) (by decide) rfl dX8_scanNumber_98 (fun H locs f111 ef111 z112 hB => ?_)
          have z113 : q_is (q_z f111 so 1) tn := by rw [ef111, q_setz (Or.inr (by decide))]; exact hj_so_1
          have z114 : q_is (q_z f111 so 8) ss := by rw [ef111, q_setz (Or.inr (by decide))]; exact hj_so_8
          have z115 : q_is (q_z f111 so 9) w5_so_9 := by rw [ef111, q_setz (Or.inr (by decide))]; exact hj_so_9
          have z116 : q_is (q_z f111 so 7) w5_so_7 := by rw [ef111, q_setz (Or.inr (by decide))]; exact hj_so_7
          have z117 : q_ir (q_r f111 so 0) ba := by rw [ef111, q_setr (Or.inr (by decide))]; exact hq_so_0
          have g118 : tk_tb f111 ba B tn := tk_tb_tr htb5 (fun i9 => by rw [ef111, q_setz (Or.inl (fun q => by rw [q, kso] at kba; exact absurd kba (by decide)))])
          refine q_vret cx hr hlk hB dX8_scanNumber_101 ?_
          exact ⟨(Eq.trans z115 (tk_ru_over hru (by omega))), (tk_kdy z112 (tk_ru_over hru (by omega)) (by omega)), (tk_vo_end z116 hwo (tk_ru_over hru (by omega)))⟩
      · refine q_ald_n cx dX8_scanNumber_16 rfl (lv_at hl 0 rfl) ?_
        refine q_ald_n cx dX8_scanNumber_17 rfl (lv_at hl 0 rfl) ?_
        refine q_gX8_27 cx hB hso kso hj_so_9 dX8_scanNumber_18 (fun lb119 ub119 => ?_)
        refine q_cVi (As := [.int (q_i w5_so_9)]) (rest := []) cx hB (fun _ h => h) hN hso kso (by decide) rfl (f_byteAt l g hN hB.2.1 B so hso kso w5_so_9 (by omega) (by omega) ba hba kba tn (by omega) (by omega) hj_so_1 hq_so_0 htb5) q_cX8_36 q_dX8_byteAt (by decide) rfl rfl hl.1 rfl (Nat.le_of_ble_eq_true rfl) dX8_scanNumber_21 (fun y121 H locs f120 ry121 h122 hF hB => ?_)
        obtain ⟨rfl, ly121, uy121, t123⟩ := h122
        refine q_cSi (As := [.int (q_i y121)]) (rest := []) cx hB (fun _ h => h) hN (f_isDigit l g hN hB.2.1 y121 (by omega) (by omega)) q_cX8_50 q_dX8_isDigit (by decide) rfl rfl hl.1 rfl (Nat.le_of_ble_eq_true rfl) dX8_scanNumber_24 (fun y125 H locs f124 ry125 h126 hF hB => ?_)
        rcases h126 with h127 | h128
        · obtain ⟨rfl, qy125, t129, t130, t131⟩ := h127
          subst qy125
          refine q_ifeq (tgt := 79) cx ⟨by decide, by decide⟩ dX8_scanNumber_27 (by decide) (fun c132 => ?_) (fun c132 => ?_)
          · exact absurd c132 (by omega)
          · refine q_ald_n cx dX8_scanNumber_30 rfl (lv_at hl 0 rfl) ?_
            refine q_gX8_27 cx hB hso kso hj_so_9 dX8_scanNumber_31 (fun lb133 ub133 => ?_)
            refine q_ald_n cx dX8_scanNumber_34 rfl (lv_at hl 0 rfl) ?_
            refine q_gX8_33 cx hB hso kso hj_so_8 dX8_scanNumber_35 (fun lb134 ub134 => ?_)
            refine q_isub cx dX8_scanNumber_38 ?_
            refine q_iconst cx dX8_scanNumber_39 ?_
            refine q_icge (tgt := 66) cx ⟨by omega, by omega⟩ ⟨by decide, by decide⟩ dX8_scanNumber_40 (by decide) (fun c135 => ?_) (fun c135 => ?_)
            · refine q_ald_n cx dX8_scanNumber_66 rfl (lv_at hl 0 rfl) ?_
              refine lv_dup cx.1 cx.2.1 dX8_scanNumber_67 rfl ?_
              refine q_gX8_27 cx hB hso kso hj_so_9 dX8_scanNumber_68 (fun lb136 ub136 => ?_)
              refine q_iconst cx dX8_scanNumber_71 ?_
              refine q_iadd cx dX8_scanNumber_72 ?_
              refine q_pX8_27 cx hB hso kso ⟨by omega, by omega⟩ (by omega) (by omega) rfl dX8_scanNumber_73 (fun H locs f137 ef137 z138 hB => ?_)
              have z139 : q_is (q_z f137 so 1) tn := by rw [ef137, q_setz (Or.inr (by decide))]; exact hj_so_1
              have z140 : q_is (q_z f137 so 8) ss := by rw [ef137, q_setz (Or.inr (by decide))]; exact hj_so_8
              have z141 : q_is (q_z f137 so 7) w5_so_7 := by rw [ef137, q_setz (Or.inr (by decide))]; exact hj_so_7
              have z142 : q_ir (q_r f137 so 0) ba := by rw [ef137, q_setr (Or.inr (by decide))]; exact hq_so_0
              have g143 : tk_tb f137 ba B tn := tk_tb_tr htb5 (fun i9 => by rw [ef137, q_setz (Or.inl (fun q => by rw [q, kso] at kba; exact absurd kba (by decide)))])
              refine lv_goto (tgt := 5) cx.1 cx.2.1 dX8_scanNumber_76 (by decide) ?_
              exact ih5 f137 (w5_so_9 + 1) (by omega) (by omega) w5_so_7 (by omega) (by omega) z139 z140 z138 z141 z142 g143 (by omega) (by omega) (tk_ru_step hru (by omega) (by omega) t123 t131) (by omega) (tk_vo_same (by omega) hwo) (by omega) H locs hB ls (lv_sub hl [0] rfl)
            · have hv9 : w5_so_7 ≤ 99 := by omega
              refine q_ald_n cx dX8_scanNumber_43 rfl (lv_at hl 0 rfl) ?_
              refine q_ald_n cx dX8_scanNumber_44 rfl (lv_at hl 0 rfl) ?_
              refine q_gX8_60 cx hB hso kso hj_so_7 dX8_scanNumber_45 (fun lb144 ub144 => ?_)
              refine q_bipush cx dX8_scanNumber_48 rfl ?_
              refine q_imul cx dX8_scanNumber_50 ?_
              refine q_ald_n cx dX8_scanNumber_51 rfl (lv_at hl 0 rfl) ?_
              refine q_ald_n cx dX8_scanNumber_52 rfl (lv_at hl 0 rfl) ?_
              refine q_gX8_27 cx hB hso kso hj_so_9 dX8_scanNumber_53 (fun lb145 ub145 => ?_)
              refine q_cVi (As := [.int (q_i w5_so_9)]) (rest := [.int (q_i (w5_so_7 * 10)), .ref so]) cx hB (fun _ h => h) hN hso kso (by decide) rfl (f_byteAt l g hN hB.2.1 B so hso kso w5_so_9 (by omega) (by omega) ba hba kba tn (by omega) (by omega) hj_so_1 hq_so_0 htb5) q_cX8_36 q_dX8_byteAt (by decide) rfl rfl hl.1 rfl (Nat.le_of_ble_eq_true rfl) dX8_scanNumber_56 (fun y147 H locs f146 ry147 h148 hF hB => ?_)
              obtain ⟨rfl, ly147, uy147, t149⟩ := h148
              have hy9 : y147 = y121 := (t149 (by omega)).trans (t123 (by omega)).symm
              refine q_iadd cx dX8_scanNumber_59 ?_
              refine q_bipush cx dX8_scanNumber_60 rfl ?_
              refine q_isub cx dX8_scanNumber_62 ?_
              refine q_pX8_60 cx hB hso kso ⟨by omega, by omega⟩ (by omega) (by omega) rfl dX8_scanNumber_63 (fun H locs f150 ef150 z151 hB => ?_)
              have z152 : q_is (q_z f150 so 1) tn := by rw [ef150, q_setz (Or.inr (by decide))]; exact hj_so_1
              have z153 : q_is (q_z f150 so 8) ss := by rw [ef150, q_setz (Or.inr (by decide))]; exact hj_so_8
              have z154 : q_is (q_z f150 so 9) w5_so_9 := by rw [ef150, q_setz (Or.inr (by decide))]; exact hj_so_9
              have z155 : q_ir (q_r f150 so 0) ba := by rw [ef150, q_setr (Or.inr (by decide))]; exact hq_so_0
              have g156 : tk_tb f150 ba B tn := tk_tb_tr htb5 (fun i9 => by rw [ef150, q_setz (Or.inl (fun q => by rw [q, kso] at kba; exact absurd kba (by decide)))])
              refine q_ald_n cx dX8_scanNumber_66 rfl (lv_at hl 0 rfl) ?_
              refine lv_dup cx.1 cx.2.1 dX8_scanNumber_67 rfl ?_
              refine q_gX8_27 cx hB hso kso z154 dX8_scanNumber_68 (fun lb157 ub157 => ?_)
              refine q_iconst cx dX8_scanNumber_71 ?_
              refine q_iadd cx dX8_scanNumber_72 ?_
              refine q_pX8_27 cx hB hso kso ⟨by omega, by omega⟩ (by omega) (by omega) rfl dX8_scanNumber_73 (fun H locs f158 ef158 z159 hB => ?_)
              have z160 : q_is (q_z f158 so 1) tn := by rw [ef158, q_setz (Or.inr (by decide))]; exact z152
              have z161 : q_is (q_z f158 so 8) ss := by rw [ef158, q_setz (Or.inr (by decide))]; exact z153
              have z162 : q_is (q_z f158 so 7) (((w5_so_7 * 10) + y147) - 48) := by rw [ef158, q_setz (Or.inr (by decide))]; exact z151
              have z163 : q_ir (q_r f158 so 0) ba := by rw [ef158, q_setr (Or.inr (by decide))]; exact z155
              have g164 : tk_tb f158 ba B tn := tk_tb_tr g156 (fun i9 => by rw [ef158, q_setz (Or.inl (fun q => by rw [q, kso] at kba; exact absurd kba (by decide)))])
              refine lv_goto (tgt := 5) cx.1 cx.2.1 dX8_scanNumber_76 (by decide) ?_
              exact ih5 f158 (w5_so_9 + 1) (by omega) (by omega) (((w5_so_7 * 10) + y147) - 48) (by omega) (by omega) z160 z161 z159 z162 z163 g164 (by omega) (by omega) (tk_ru_step hru (by omega) (by omega) t123 t131) (by omega) (tk_vo_step (by omega) (by omega) (by omega) (by omega) t149 hwo (by omega)) (by omega) H locs hB ls (lv_sub hl [0] rfl)
        · obtain ⟨rfl, qy125, t165⟩ := h128
          subst qy125
          refine q_ifeq (tgt := 79) cx ⟨by decide, by decide⟩ dX8_scanNumber_27 (by decide) (fun c166 => ?_) (fun c166 => ?_)
          · refine q_ald_n cx dX8_scanNumber_79 rfl (lv_at hl 0 rfl) ?_
            refine q_ald_n cx dX8_scanNumber_80 rfl (lv_at hl 0 rfl) ?_
            refine q_gX8_27 cx hB hso kso hj_so_9 dX8_scanNumber_81 (fun lb167 ub167 => ?_)
            refine q_ald_n cx dX8_scanNumber_84 rfl (lv_at hl 0 rfl) ?_
            refine q_gX8_33 cx hB hso kso hj_so_8 dX8_scanNumber_85 (fun lb168 ub168 => ?_)
            refine q_isub cx dX8_scanNumber_88 ?_
            refine q_iconst cx dX8_scanNumber_89 ?_
            refine q_icgt (tgt := 97) cx ⟨by omega, by omega⟩ ⟨by decide, by decide⟩ dX8_scanNumber_90 (by decide) (fun c169 => ?_) (fun c169 => ?_)
            · refine q_iconst cx dX8_scanNumber_97 ?_
              refine q_pX8_40 cx hB hso kso ⟨by decide, by decide⟩ (by decide) (by decide) rfl dX8_scanNumber_98 (fun H locs f170 ef170 z171 hB => ?_)
              have z172 : q_is (q_z f170 so 1) tn := by rw [ef170, q_setz (Or.inr (by decide))]; exact hj_so_1
              have z173 : q_is (q_z f170 so 8) ss := by rw [ef170, q_setz (Or.inr (by decide))]; exact hj_so_8
              have z174 : q_is (q_z f170 so 9) w5_so_9 := by rw [ef170, q_setz (Or.inr (by decide))]; exact hj_so_9
              have z175 : q_is (q_z f170 so 7) w5_so_7 := by rw [ef170, q_setz (Or.inr (by decide))]; exact hj_so_7
              have z176 : q_ir (q_r f170 so 0) ba := by rw [ef170, q_setr (Or.inr (by decide))]; exact hq_so_0
              have g177 : tk_tb f170 ba B tn := tk_tb_tr htb5 (fun i9 => by rw [ef170, q_setz (Or.inl (fun q => by rw [q, kso] at kba; exact absurd kba (by decide)))])
              refine q_vret cx hr hlk hB dX8_scanNumber_101 ?_
              exact ⟨(Eq.trans z174 (tk_ru_end hru (by omega) t123 t165)), (tk_kdn z171 (tk_ru_end hru (by omega) t123 t165) (by omega)), (tk_vo_end z175 hwo (tk_ru_end hru (by omega) t123 t165))⟩
            · refine q_iconst cx dX8_scanNumber_93 ?_
              refine lv_goto (tgt := 98) cx.1 cx.2.1 dX8_scanNumber_94 (by decide) ?_
              refine q_pX8_40 cx hB hso kso ⟨by decide, by decide⟩ (by decide) (by decide) rfl dX8_scanNumber_98 (fun H locs f178 ef178 z179 hB => ?_)
              have z180 : q_is (q_z f178 so 1) tn := by rw [ef178, q_setz (Or.inr (by decide))]; exact hj_so_1
              have z181 : q_is (q_z f178 so 8) ss := by rw [ef178, q_setz (Or.inr (by decide))]; exact hj_so_8
              have z182 : q_is (q_z f178 so 9) w5_so_9 := by rw [ef178, q_setz (Or.inr (by decide))]; exact hj_so_9
              have z183 : q_is (q_z f178 so 7) w5_so_7 := by rw [ef178, q_setz (Or.inr (by decide))]; exact hj_so_7
              have z184 : q_ir (q_r f178 so 0) ba := by rw [ef178, q_setr (Or.inr (by decide))]; exact hq_so_0
              have g185 : tk_tb f178 ba B tn := tk_tb_tr htb5 (fun i9 => by rw [ef178, q_setz (Or.inl (fun q => by rw [q, kso] at kba; exact absurd kba (by decide)))])
              refine q_vret cx hr hlk hB dX8_scanNumber_101 ?_
              exact ⟨(Eq.trans z182 (tk_ru_end hru (by omega) t123 t165)), (tk_kdy z179 (tk_ru_end hru (by omega) t123 t165) (by omega)), (tk_vo_end z183 hwo (tk_ru_end hru (by omega) t123 t165))⟩
          · exact absurd c166 (by omega)
  obtain ⟨H, hH⟩ : ∃ H : Heap, H = s.heap := ⟨_, rfl⟩
  obtain ⟨locs, hlocs⟩ : ∃ z : List Loc, z = [] := ⟨_, rfl⟩
  rw [← hH, ← hlocs] at hB
  rw [← hH, ← hlocs]
  refine q_ald_n cx dX8_scanNumber_0 rfl (lv_at hl 0 rfl) ?_
  refine q_iconst cx dX8_scanNumber_1 ?_
  refine q_pX8_60 cx hB hso kso ⟨by decide, by decide⟩ (by decide) (by decide) rfl dX8_scanNumber_2 (fun H locs f186 ef186 z187 hB => ?_)
  have z188 : q_is (q_z f186 so 1) tn := by rw [ef186, q_setz (Or.inr (by decide))]; exact hf0
  have z189 : q_is (q_z f186 so 8) ss := by rw [ef186, q_setz (Or.inr (by decide))]; exact hf1
  have z190 : q_is (q_z f186 so 9) ss := by rw [ef186, q_setz (Or.inr (by decide))]; exact hf2
  have z191 : q_ir (q_r f186 so 0) ba := by rw [ef186, q_setr (Or.inr (by decide))]; exact hr0
  have g192 : tk_tb f186 ba B tn := tk_tb_tr htb (fun i9 => by rw [ef186, q_setz (Or.inl (fun q => by rw [q, kso] at kba; exact absurd kba (by decide)))])
  exact J5 ((Int.toNat (tn - ss)) + 1) f186 ss (by omega) (by omega) 0 (by decide) (by decide) z188 z189 z190 z187 z191 g192 (by omega) (by omega) rfl (by omega) tk_vo_init (Nat.lt_succ_self _) H locs hB ls (lv_sub hl [0] rfl)
set_option maxHeartbeats 4000000 in
set_option maxRecDepth 100000 in
theorem f_advance (l : Launch) (g : q_G) {K : Nat → Nat} {L : List Nat} (hN : L.Nodup) {f : Nat → va_E} (hT : q_Ty g K L f) (B : Nat → Int) (so : Nat) (hso : so ∈ L) (kso : K so = 8) (ba : Nat) (hba : ba ∈ L) (kba : K ba = 142) (tn : Int) (ltn : 0 ≤ tn) (utn : tn ≤ 600) (nx : Int) (lnx : 0 ≤ nx) (unx : nx ≤ 600) (hf0 : q_is (q_z f so 1) tn) (hf1 : q_is (q_z f so 9) nx) (hr0 : q_ir (q_r f so 0) ba) (hp0 : nx ≤ tn) (htb : tk_tb f ba B tn) : q_Ct l g K L yX8_advance cX8_advance 2 none 2 41 [.ref so] f [(8, 4, 4), (8, 6, 9)] (q_Pv (fun (f1 : Nat → va_E) => (q_z f1 so 8 = tk_S B tn nx) ∧ (tk_tc f1 so B tn))) := by
  refine q_ofb (by decide +kernel) hN hT (Nat.le_of_ble_eq_true rfl) ?_
  intro p e s m below meth c ls cx hr hlk hB hl
  have hl : lv_has ls 2 [(0, .ref so)] := hl
  have J0 : ∀ (n : Nat) (f0 : Nat → va_E) (w0_so_9 : Int) (lw0_so_9 : 0 ≤ w0_so_9) (uw0_so_9 : w0_so_9 ≤ 600) (hj_so_1 : q_is (q_z f0 so 1) tn) (hj_so_9 : q_is (q_z f0 so 9) w0_so_9) (hq_so_0 : q_ir (q_r f0 so 0) ba) (htb0 : tk_tb f0 ba B tn) (hrl0_0 : 0 ≤ 1 * w0_so_9 + -1 * nx + 0) (hrl0_1 : 0 ≤ 1 * tn + -1 * w0_so_9 + 0) (hru : w0_so_9 + tk_run tk_sp B tn w0_so_9 = nx + tk_run tk_sp B tn nx) (hmu : (Int.toNat (tn - w0_so_9)) < n) (H : Heap) (locs : List Loc) (hB : q_B g K L (fun q => q ∈ L) [(8, 4, 4), (8, 6, 9)] f f0 s H locs) (ls : Array Slot) (hl : lv_has ls 2 [(0, .ref so)]), W p l e { frames := 2, cells := 0, slots := 0, locals := 41 } s m ([.ref so] : List Value).toArray below meth c H locs 0 0 (MQ below (q_Q g K L [(8, 4, 4), (8, 6, 9)] f (q_Pv (fun (f1 : Nat → va_E) => (q_z f1 so 8 = tk_S B tn nx) ∧ (tk_tc f1 so B tn)))) ([.ref so] : List Value).toArray s 0 0 (fun q => q ∈ L)) (F0 m 0 ls []) := by
    intro n
    induction n with
    | zero =>
      intro f0 w0_so_9 lw0_so_9 uw0_so_9 hj_so_1 hj_so_9 hq_so_0 htb0 hrl0_0 hrl0_1 hru hmu
      exact absurd hmu (Nat.not_lt_zero _)
    | succ n ih0 =>
      intro f0 w0_so_9 lw0_so_9 uw0_so_9 hj_so_1 hj_so_9 hq_so_0 htb0 hrl0_0 hrl0_1 hru hmu H locs hB ls hl
      refine q_ald_n cx dX8_advance_0 rfl (lv_at hl 0 rfl) ?_
      refine q_gX8_27 cx hB hso kso hj_so_9 dX8_advance_1 (fun lb170 ub170 => ?_)
      refine q_ald_n cx dX8_advance_4 rfl (lv_at hl 0 rfl) ?_
      refine q_gX8_19 cx hB hso kso hj_so_1 dX8_advance_5 (fun lb171 ub171 => ?_)
      refine q_icge (tgt := 50) cx ⟨by omega, by omega⟩ ⟨by omega, by omega⟩ dX8_advance_8 (by decide) (fun c172 => ?_) (fun c172 => ?_)
      · have hst : w0_so_9 = tk_S B tn nx := (tk_ru_over hru (by omega))
        refine q_ald_n cx dX8_advance_50 rfl (lv_at hl 0 rfl) ?_
        refine q_ald_n cx dX8_advance_51 rfl (lv_at hl 0 rfl) ?_
        refine q_gX8_27 cx hB hso kso hj_so_9 dX8_advance_52 (fun lb173 ub173 => ?_)
        refine q_pX8_33 cx hB hso kso ⟨by omega, by omega⟩ (by omega) (by omega) rfl dX8_advance_55 (fun H locs f174 ef174 z175 hB => ?_)
        have z176 : q_is (q_z f174 so 1) tn := by rw [ef174, q_setz (Or.inr (by decide))]; exact hj_so_1
        have z177 : q_is (q_z f174 so 9) w0_so_9 := by rw [ef174, q_setz (Or.inr (by decide))]; exact hj_so_9
        have z178 : q_ir (q_r f174 so 0) ba := by rw [ef174, q_setr (Or.inr (by decide))]; exact hq_so_0
        have g179 : tk_tb f174 ba B tn := tk_tb_tr htb0 (fun i9 => by rw [ef174, q_setz (Or.inl (fun q => by rw [q, kso] at kba; exact absurd kba (by decide)))])
        refine q_ald_n cx dX8_advance_58 rfl (lv_at hl 0 rfl) ?_
        refine q_ald_n cx dX8_advance_59 rfl (lv_at hl 0 rfl) ?_
        refine q_gX8_27 cx hB hso kso z177 dX8_advance_60 (fun lb180 ub180 => ?_)
        refine q_cVi (As := [.int (q_i w0_so_9)]) (rest := []) cx hB (fun _ h => h) hN hso kso (by decide) rfl (f_byteAt l g hN hB.2.1 B so hso kso w0_so_9 (by omega) (by omega) ba hba kba tn (by omega) (by omega) z176 z178 g179) q_cX8_36 q_dX8_byteAt (by decide) rfl rfl hl.1 rfl (Nat.le_of_ble_eq_true rfl) dX8_advance_63 (fun y182 H locs f181 ry182 h183 hF hB => ?_)
        obtain ⟨rfl, ly182, uy182, t184⟩ := h183
        refine lv_istore_n (lv' := [(1, .int (q_i y182)), (0, .ref so)]) cx.1 cx.2.1 dX8_advance_66 rfl hl (by decide) rfl (fun ls hl => ?_)
        refine q_ald_n cx dX8_advance_67 rfl (lv_at hl 1 rfl) ?_
        refine q_gX8_27 cx hB hso kso z177 dX8_advance_68 (fun lb185 ub185 => ?_)
        refine q_ald_n cx dX8_advance_71 rfl (lv_at hl 1 rfl) ?_
        refine q_gX8_19 cx hB hso kso z176 dX8_advance_72 (fun lb186 ub186 => ?_)
        refine q_iclt (tgt := 86) cx ⟨by omega, by omega⟩ ⟨by omega, by omega⟩ dX8_advance_75 (by decide) (fun c187 => ?_) (fun c187 => ?_)
        · exact absurd c187 (by omega)
        · refine q_ald_n cx dX8_advance_78 rfl (lv_at hl 1 rfl) ?_
          refine q_iconst cx dX8_advance_79 ?_
          refine q_pX8_40 cx hB hso kso ⟨by decide, by decide⟩ (by decide) (by decide) rfl dX8_advance_80 (fun H locs f188 ef188 z189 hB => ?_)
          have z190 : q_is (q_z f188 so 1) tn := by rw [ef188, q_setz (Or.inr (by decide))]; exact z176
          have z191 : q_is (q_z f188 so 9) w0_so_9 := by rw [ef188, q_setz (Or.inr (by decide))]; exact z177
          have z192 : q_is (q_z f188 so 8) w0_so_9 := by rw [ef188, q_setz (Or.inr (by decide))]; exact z175
          have z193 : q_ir (q_r f188 so 0) ba := by rw [ef188, q_setr (Or.inr (by decide))]; exact z178
          have g194 : tk_tb f188 ba B tn := tk_tb_tr g179 (fun i9 => by rw [ef188, q_setz (Or.inl (fun q => by rw [q, kso] at kba; exact absurd kba (by decide)))])
          refine lv_goto (tgt := 151) cx.1 cx.2.1 dX8_advance_83 (by decide) ?_
          have htc9 : tk_tc f188 so B tn := tk_tc_end z192 z189 z191 (by omega) (by omega)
          refine q_vret cx hr hlk hB dX8_advance_151 ?_
          exact ⟨(Eq.trans z192 hst), htc9⟩
      · refine q_ald_n cx dX8_advance_11 rfl (lv_at hl 0 rfl) ?_
        refine q_ald_n cx dX8_advance_12 rfl (lv_at hl 0 rfl) ?_
        refine q_gX8_27 cx hB hso kso hj_so_9 dX8_advance_13 (fun lb195 ub195 => ?_)
        refine q_cVi (As := [.int (q_i w0_so_9)]) (rest := []) cx hB (fun _ h => h) hN hso kso (by decide) rfl (f_byteAt l g hN hB.2.1 B so hso kso w0_so_9 (by omega) (by omega) ba hba kba tn (by omega) (by omega) hj_so_1 hq_so_0 htb0) q_cX8_36 q_dX8_byteAt (by decide) rfl rfl hl.1 rfl (Nat.le_of_ble_eq_true rfl) dX8_advance_16 (fun y197 H locs f196 ry197 h198 hF hB => ?_)
        obtain ⟨rfl, ly197, uy197, t199⟩ := h198
        refine q_bipush cx dX8_advance_19 rfl ?_
        refine q_iceq (tgt := 37) cx ⟨by omega, by omega⟩ ⟨by decide, by decide⟩ dX8_advance_21 (by decide) (fun c200 => ?_) (fun c200 => ?_)
        · refine q_ald_n cx dX8_advance_37 rfl (lv_at hl 0 rfl) ?_
          refine lv_dup cx.1 cx.2.1 dX8_advance_38 rfl ?_
          refine q_gX8_27 cx hB hso kso hj_so_9 dX8_advance_39 (fun lb201 ub201 => ?_)
          refine q_iconst cx dX8_advance_42 ?_
          refine q_iadd cx dX8_advance_43 ?_
          refine q_pX8_27 cx hB hso kso ⟨by omega, by omega⟩ (by omega) (by omega) rfl dX8_advance_44 (fun H locs f202 ef202 z203 hB => ?_)
          have z204 : q_is (q_z f202 so 1) tn := by rw [ef202, q_setz (Or.inr (by decide))]; exact hj_so_1
          have z205 : q_ir (q_r f202 so 0) ba := by rw [ef202, q_setr (Or.inr (by decide))]; exact hq_so_0
          have g206 : tk_tb f202 ba B tn := tk_tb_tr htb0 (fun i9 => by rw [ef202, q_setz (Or.inl (fun q => by rw [q, kso] at kba; exact absurd kba (by decide)))])
          refine lv_goto (tgt := 0) cx.1 cx.2.1 dX8_advance_47 (by decide) ?_
          exact ih0 f202 (w0_so_9 + 1) (by omega) (by omega) z204 z203 z205 g206 (by omega) (by omega) (tk_ru_step hru (by omega) (by omega) t199 (tk_sp_y (by omega))) (by omega) H locs hB ls (lv_sub hl [0] rfl)
        · refine q_ald_n cx dX8_advance_24 rfl (lv_at hl 0 rfl) ?_
          refine q_ald_n cx dX8_advance_25 rfl (lv_at hl 0 rfl) ?_
          refine q_gX8_27 cx hB hso kso hj_so_9 dX8_advance_26 (fun lb207 ub207 => ?_)
          refine q_cVi (As := [.int (q_i w0_so_9)]) (rest := []) cx hB (fun _ h => h) hN hso kso (by decide) rfl (f_byteAt l g hN hB.2.1 B so hso kso w0_so_9 (by omega) (by omega) ba hba kba tn (by omega) (by omega) hj_so_1 hq_so_0 htb0) q_cX8_36 q_dX8_byteAt (by decide) rfl rfl hl.1 rfl (Nat.le_of_ble_eq_true rfl) dX8_advance_29 (fun y209 H locs f208 ry209 h210 hF hB => ?_)
          obtain ⟨rfl, ly209, uy209, t211⟩ := h210
          have hy9 : y209 = y197 := (t211 (by omega)).trans (t199 (by omega)).symm
          refine q_bipush cx dX8_advance_32 rfl ?_
          refine q_icne (tgt := 50) cx ⟨by omega, by omega⟩ ⟨by decide, by decide⟩ dX8_advance_34 (by decide) (fun c212 => ?_) (fun c212 => ?_)
          · have hst : w0_so_9 = tk_S B tn nx := (tk_ru_end hru (by omega) t211 (tk_sp_n (by omega) (by omega)))
            refine q_ald_n cx dX8_advance_50 rfl (lv_at hl 0 rfl) ?_
            refine q_ald_n cx dX8_advance_51 rfl (lv_at hl 0 rfl) ?_
            refine q_gX8_27 cx hB hso kso hj_so_9 dX8_advance_52 (fun lb213 ub213 => ?_)
            refine q_pX8_33 cx hB hso kso ⟨by omega, by omega⟩ (by omega) (by omega) rfl dX8_advance_55 (fun H locs f214 ef214 z215 hB => ?_)
            have z216 : q_is (q_z f214 so 1) tn := by rw [ef214, q_setz (Or.inr (by decide))]; exact hj_so_1
            have z217 : q_is (q_z f214 so 9) w0_so_9 := by rw [ef214, q_setz (Or.inr (by decide))]; exact hj_so_9
            have z218 : q_ir (q_r f214 so 0) ba := by rw [ef214, q_setr (Or.inr (by decide))]; exact hq_so_0
            have g219 : tk_tb f214 ba B tn := tk_tb_tr htb0 (fun i9 => by rw [ef214, q_setz (Or.inl (fun q => by rw [q, kso] at kba; exact absurd kba (by decide)))])
            refine q_ald_n cx dX8_advance_58 rfl (lv_at hl 0 rfl) ?_
            refine q_ald_n cx dX8_advance_59 rfl (lv_at hl 0 rfl) ?_
            refine q_gX8_27 cx hB hso kso z217 dX8_advance_60 (fun lb220 ub220 => ?_)
            refine q_cVi (As := [.int (q_i w0_so_9)]) (rest := []) cx hB (fun _ h => h) hN hso kso (by decide) rfl (f_byteAt l g hN hB.2.1 B so hso kso w0_so_9 (by omega) (by omega) ba hba kba tn (by omega) (by omega) z216 z218 g219) q_cX8_36 q_dX8_byteAt (by decide) rfl rfl hl.1 rfl (Nat.le_of_ble_eq_true rfl) dX8_advance_63 (fun y222 H locs f221 ry222 h223 hF hB => ?_)
            obtain ⟨rfl, ly222, uy222, t224⟩ := h223
            refine lv_istore_n (lv' := [(1, .int (q_i y222)), (0, .ref so)]) cx.1 cx.2.1 dX8_advance_66 rfl hl (by decide) rfl (fun ls hl => ?_)
            refine q_ald_n cx dX8_advance_67 rfl (lv_at hl 1 rfl) ?_
            refine q_gX8_27 cx hB hso kso z217 dX8_advance_68 (fun lb225 ub225 => ?_)
            refine q_ald_n cx dX8_advance_71 rfl (lv_at hl 1 rfl) ?_
            refine q_gX8_19 cx hB hso kso z216 dX8_advance_72 (fun lb226 ub226 => ?_)
            refine q_iclt (tgt := 86) cx ⟨by omega, by omega⟩ ⟨by omega, by omega⟩ dX8_advance_75 (by decide) (fun c227 => ?_) (fun c227 => ?_)
            · refine q_ild_n cx dX8_advance_86 rfl (lv_at hl 0 rfl) ?_
              refine q_cSi (As := [.int (q_i y222)]) (rest := []) cx hB (fun _ h => h) hN (f_isLetter l g hN hB.2.1 y222 (by omega) (by omega)) q_cX8_43 q_dX8_isLetter (by decide) rfl rfl hl.1 rfl (Nat.le_of_ble_eq_true rfl) dX8_advance_87 (fun y229 H locs f228 ry229 h230 hF hB => ?_)
              rcases h230 with h231 | h232
              · obtain ⟨rfl, qy229, t233, t234, t235⟩ := h231
                subst qy229
                refine q_ifeq (tgt := 100) cx ⟨by decide, by decide⟩ dX8_advance_90 (by decide) (fun c236 => ?_) (fun c236 => ?_)
                · exact absurd c236 (by omega)
                · refine q_ald_n cx dX8_advance_93 rfl (lv_at hl 1 rfl) ?_
                  refine q_cVv (As := []) (rest := []) cx hB (fun _ h => h) hN hso kso (by decide) rfl (f_scanWord l g hN hB.2.1 B so hso kso ba hba kba tn (by omega) (by omega) w0_so_9 (by omega) (by omega) z216 z215 z217 z218 (by omega) g219) q_cX8_47 q_dX8_scanWord (by decide) rfl rfl hl.1 rfl (Nat.le_of_ble_eq_true rfl) dX8_advance_94 (fun H locs f237 h239 hF hB => ?_)
                  obtain ⟨t240, t241, t242⟩ := h239
                  have z243 : q_is (q_z f237 so 1) tn := Eq.trans (hF.z hso (by rw [kso]; rfl)) z216
                  have z244 : q_is (q_z f237 so 8) w0_so_9 := Eq.trans (hF.z hso (by rw [kso]; rfl)) z215
                  have z245 : q_ir (q_r f237 so 0) ba := Eq.trans (hF.r hso (by rw [kso]; rfl)) z218
                  have g246 : tk_tb f237 ba B tn := tk_tb_tr g219 (fun i9 => hF.z hba (by rw [kba]; rfl))
                  refine lv_goto (tgt := 151) cx.1 cx.2.1 dX8_advance_97 (by decide) ?_
                  have htc9 : tk_tc f237 so B tn := tk_tc_word z244 (by omega) (by omega) t224 t235 t240 t241 t242
                  refine q_vret cx hr hlk hB dX8_advance_151 ?_
                  exact ⟨(Eq.trans z244 hst), htc9⟩
              · obtain ⟨rfl, qy229, t247⟩ := h232
                subst qy229
                refine q_ifeq (tgt := 100) cx ⟨by decide, by decide⟩ dX8_advance_90 (by decide) (fun c248 => ?_) (fun c248 => ?_)
                · refine q_ild_n cx dX8_advance_100 rfl (lv_at hl 0 rfl) ?_
                  refine q_cSi (As := [.int (q_i y222)]) (rest := []) cx hB (fun _ h => h) hN (f_isDigit l g hN hB.2.1 y222 (by omega) (by omega)) q_cX8_50 q_dX8_isDigit (by decide) rfl rfl hl.1 rfl (Nat.le_of_ble_eq_true rfl) dX8_advance_101 (fun y250 H locs f249 ry250 h251 hF hB => ?_)
                  rcases h251 with h252 | h253
                  · obtain ⟨rfl, qy250, t254, t255, t256⟩ := h252
                    subst qy250
                    refine q_ifeq (tgt := 114) cx ⟨by decide, by decide⟩ dX8_advance_104 (by decide) (fun c257 => ?_) (fun c257 => ?_)
                    · exact absurd c257 (by omega)
                    · refine q_ald_n cx dX8_advance_107 rfl (lv_at hl 1 rfl) ?_
                      refine q_cVv (As := []) (rest := []) cx hB (fun _ h => h) hN hso kso (by decide) rfl (f_scanNumber l g hN hB.2.1 B so hso kso ba hba kba tn (by omega) (by omega) w0_so_9 (by omega) (by omega) z216 z215 z217 z218 (by omega) g219) q_cX8_53 q_dX8_scanNumber (by decide) rfl rfl hl.1 rfl (Nat.le_of_ble_eq_true rfl) dX8_advance_108 (fun H locs f258 h260 hF hB => ?_)
                      obtain ⟨t261, t262, t263⟩ := h260
                      have z264 : q_is (q_z f258 so 1) tn := Eq.trans (hF.z hso (by rw [kso]; rfl)) z216
                      have z265 : q_is (q_z f258 so 8) w0_so_9 := Eq.trans (hF.z hso (by rw [kso]; rfl)) z215
                      have z266 : q_ir (q_r f258 so 0) ba := Eq.trans (hF.r hso (by rw [kso]; rfl)) z218
                      have g267 : tk_tb f258 ba B tn := tk_tb_tr g219 (fun i9 => hF.z hba (by rw [kba]; rfl))
                      refine lv_goto (tgt := 151) cx.1 cx.2.1 dX8_advance_111 (by decide) ?_
                      have htc9 : tk_tc f258 so B tn := tk_tc_num z265 (by omega) (by omega) t224 t247 t256 t261 t262 t263
                      refine q_vret cx hr hlk hB dX8_advance_151 ?_
                      exact ⟨(Eq.trans z265 hst), htc9⟩
                  · obtain ⟨rfl, qy250, t268⟩ := h253
                    subst qy250
                    refine q_ifeq (tgt := 114) cx ⟨by decide, by decide⟩ dX8_advance_104 (by decide) (fun c269 => ?_) (fun c269 => ?_)
                    · refine q_ald_n cx dX8_advance_114 rfl (lv_at hl 1 rfl) ?_
                      refine q_ild_n cx dX8_advance_115 rfl (lv_at hl 0 rfl) ?_
                      refine q_bipush cx dX8_advance_116 rfl ?_
                      refine q_iceq (tgt := 133) cx ⟨by omega, by omega⟩ ⟨by decide, by decide⟩ dX8_advance_118 (by decide) (fun c270 => ?_) (fun c270 => ?_)
                      · refine q_ild_n cx dX8_advance_133 rfl (lv_at hl 0 rfl) ?_
                        refine lv_goto (tgt := 138) cx.1 cx.2.1 dX8_advance_134 (by decide) ?_
                        refine q_pX8_40 cx hB hso kso ⟨by omega, by omega⟩ (by omega) (by omega) rfl dX8_advance_138 (fun H locs f271 ef271 z272 hB => ?_)
                        have z273 : q_is (q_z f271 so 1) tn := by rw [ef271, q_setz (Or.inr (by decide))]; exact z216
                        have z274 : q_is (q_z f271 so 9) w0_so_9 := by rw [ef271, q_setz (Or.inr (by decide))]; exact z217
                        have z275 : q_is (q_z f271 so 8) w0_so_9 := by rw [ef271, q_setz (Or.inr (by decide))]; exact z215
                        have z276 : q_ir (q_r f271 so 0) ba := by rw [ef271, q_setr (Or.inr (by decide))]; exact z218
                        have g277 : tk_tb f271 ba B tn := tk_tb_tr g219 (fun i9 => by rw [ef271, q_setz (Or.inl (fun q => by rw [q, kso] at kba; exact absurd kba (by decide)))])
                        refine q_ald_n cx dX8_advance_141 rfl (lv_at hl 1 rfl) ?_
                        refine lv_dup cx.1 cx.2.1 dX8_advance_142 rfl ?_
                        refine q_gX8_27 cx hB hso kso z274 dX8_advance_143 (fun lb278 ub278 => ?_)
                        refine q_iconst cx dX8_advance_146 ?_
                        refine q_iadd cx dX8_advance_147 ?_
                        refine q_pX8_27 cx hB hso kso ⟨by omega, by omega⟩ (by omega) (by omega) rfl dX8_advance_148 (fun H locs f279 ef279 z280 hB => ?_)
                        have z281 : q_is (q_z f279 so 1) tn := by rw [ef279, q_setz (Or.inr (by decide))]; exact z273
                        have z282 : q_is (q_z f279 so 8) w0_so_9 := by rw [ef279, q_setz (Or.inr (by decide))]; exact z275
                        have z283 : q_is (q_z f279 so 6) y222 := by rw [ef279, q_setz (Or.inr (by decide))]; exact z272
                        have z284 : q_ir (q_r f279 so 0) ba := by rw [ef279, q_setr (Or.inr (by decide))]; exact z276
                        have g285 : tk_tb f279 ba B tn := tk_tb_tr g277 (fun i9 => by rw [ef279, q_setz (Or.inl (fun q => by rw [q, kso] at kba; exact absurd kba (by decide)))])
                        have htc9 : tk_tc f279 so B tn := tk_tc_sign z282 (by omega) (by omega) t224 t247 t268 z283 z280 (by omega)
                        refine q_vret cx hr hlk hB dX8_advance_151 ?_
                        exact ⟨(Eq.trans z282 hst), htc9⟩
                      · refine q_ild_n cx dX8_advance_121 rfl (lv_at hl 0 rfl) ?_
                        refine q_bipush cx dX8_advance_122 rfl ?_
                        refine q_iceq (tgt := 133) cx ⟨by omega, by omega⟩ ⟨by decide, by decide⟩ dX8_advance_124 (by decide) (fun c286 => ?_) (fun c286 => ?_)
                        · refine q_ild_n cx dX8_advance_133 rfl (lv_at hl 0 rfl) ?_
                          refine lv_goto (tgt := 138) cx.1 cx.2.1 dX8_advance_134 (by decide) ?_
                          refine q_pX8_40 cx hB hso kso ⟨by omega, by omega⟩ (by omega) (by omega) rfl dX8_advance_138 (fun H locs f287 ef287 z288 hB => ?_)
                          have z289 : q_is (q_z f287 so 1) tn := by rw [ef287, q_setz (Or.inr (by decide))]; exact z216
                          have z290 : q_is (q_z f287 so 9) w0_so_9 := by rw [ef287, q_setz (Or.inr (by decide))]; exact z217
                          have z291 : q_is (q_z f287 so 8) w0_so_9 := by rw [ef287, q_setz (Or.inr (by decide))]; exact z215
                          have z292 : q_ir (q_r f287 so 0) ba := by rw [ef287, q_setr (Or.inr (by decide))]; exact z218
                          have g293 : tk_tb f287 ba B tn := tk_tb_tr g219 (fun i9 => by rw [ef287, q_setz (Or.inl (fun q => by rw [q, kso] at kba; exact absurd kba (by decide)))])
                          refine q_ald_n cx dX8_advance_141 rfl (lv_at hl 1 rfl) ?_
                          refine lv_dup cx.1 cx.2.1 dX8_advance_142 rfl ?_
                          refine q_gX8_27 cx hB hso kso z290 dX8_advance_143 (fun lb294 ub294 => ?_)
                          refine q_iconst cx dX8_advance_146 ?_
                          refine q_iadd cx dX8_advance_147 ?_
                          refine q_pX8_27 cx hB hso kso ⟨by omega, by omega⟩ (by omega) (by omega) rfl dX8_advance_148 (fun H locs f295 ef295 z296 hB => ?_)
                          have z297 : q_is (q_z f295 so 1) tn := by rw [ef295, q_setz (Or.inr (by decide))]; exact z289
                          have z298 : q_is (q_z f295 so 8) w0_so_9 := by rw [ef295, q_setz (Or.inr (by decide))]; exact z291
                          have z299 : q_is (q_z f295 so 6) y222 := by rw [ef295, q_setz (Or.inr (by decide))]; exact z288
                          have z300 : q_ir (q_r f295 so 0) ba := by rw [ef295, q_setr (Or.inr (by decide))]; exact z292
                          have g301 : tk_tb f295 ba B tn := tk_tb_tr g293 (fun i9 => by rw [ef295, q_setz (Or.inl (fun q => by rw [q, kso] at kba; exact absurd kba (by decide)))])
                          have htc9 : tk_tc f295 so B tn := tk_tc_sign z298 (by omega) (by omega) t224 t247 t268 z299 z296 (by omega)
                          refine q_vret cx hr hlk hB dX8_advance_151 ?_
                          exact ⟨(Eq.trans z298 hst), htc9⟩
                        · refine q_ild_n cx dX8_advance_127 rfl (lv_at hl 0 rfl) ?_
                          refine q_bipush cx dX8_advance_128 rfl ?_
                          refine q_icne (tgt := 137) cx ⟨by omega, by omega⟩ ⟨by decide, by decide⟩ dX8_advance_130 (by decide) (fun c302 => ?_) (fun c302 => ?_)
                          · refine q_iconst cx dX8_advance_137 ?_
                            refine q_pX8_40 cx hB hso kso ⟨by decide, by decide⟩ (by decide) (by decide) rfl dX8_advance_138 (fun H locs f303 ef303 z304 hB => ?_)
                            have z305 : q_is (q_z f303 so 1) tn := by rw [ef303, q_setz (Or.inr (by decide))]; exact z216
                            have z306 : q_is (q_z f303 so 9) w0_so_9 := by rw [ef303, q_setz (Or.inr (by decide))]; exact z217
                            have z307 : q_is (q_z f303 so 8) w0_so_9 := by rw [ef303, q_setz (Or.inr (by decide))]; exact z215
                            have z308 : q_ir (q_r f303 so 0) ba := by rw [ef303, q_setr (Or.inr (by decide))]; exact z218
                            have g309 : tk_tb f303 ba B tn := tk_tb_tr g219 (fun i9 => by rw [ef303, q_setz (Or.inl (fun q => by rw [q, kso] at kba; exact absurd kba (by decide)))])
                            refine q_ald_n cx dX8_advance_141 rfl (lv_at hl 1 rfl) ?_
                            refine lv_dup cx.1 cx.2.1 dX8_advance_142 rfl ?_
                            refine q_gX8_27 cx hB hso kso z306 dX8_advance_143 (fun lb310 ub310 => ?_)
                            refine q_iconst cx dX8_advance_146 ?_
                            refine q_iadd cx dX8_advance_147 ?_
                            refine q_pX8_27 cx hB hso kso ⟨by omega, by omega⟩ (by omega) (by omega) rfl dX8_advance_148 (fun H locs f311 ef311 z312 hB => ?_)
                            have z313 : q_is (q_z f311 so 1) tn := by rw [ef311, q_setz (Or.inr (by decide))]; exact z305
                            have z314 : q_is (q_z f311 so 8) w0_so_9 := by rw [ef311, q_setz (Or.inr (by decide))]; exact z307
                            have z315 : q_is (q_z f311 so 6) 3 := by rw [ef311, q_setz (Or.inr (by decide))]; exact z304
                            have z316 : q_ir (q_r f311 so 0) ba := by rw [ef311, q_setr (Or.inr (by decide))]; exact z308
                            have g317 : tk_tb f311 ba B tn := tk_tb_tr g309 (fun i9 => by rw [ef311, q_setz (Or.inl (fun q => by rw [q, kso] at kba; exact absurd kba (by decide)))])
                            have htc9 : tk_tc f311 so B tn := tk_tc_bad z314 (by omega) (by omega) t224 t247 t268 z315 z312 (by omega)
                            refine q_vret cx hr hlk hB dX8_advance_151 ?_
                            exact ⟨(Eq.trans z314 hst), htc9⟩
                          · refine q_ild_n cx dX8_advance_133 rfl (lv_at hl 0 rfl) ?_
                            refine lv_goto (tgt := 138) cx.1 cx.2.1 dX8_advance_134 (by decide) ?_
                            refine q_pX8_40 cx hB hso kso ⟨by omega, by omega⟩ (by omega) (by omega) rfl dX8_advance_138 (fun H locs f318 ef318 z319 hB => ?_)
                            have z320 : q_is (q_z f318 so 1) tn := by rw [ef318, q_setz (Or.inr (by decide))]; exact z216
                            have z321 : q_is (q_z f318 so 9) w0_so_9 := by rw [ef318, q_setz (Or.inr (by decide))]; exact z217
                            have z322 : q_is (q_z f318 so 8) w0_so_9 := by rw [ef318, q_setz (Or.inr (by decide))]; exact z215
                            have z323 : q_ir (q_r f318 so 0) ba := by rw [ef318, q_setr (Or.inr (by decide))]; exact z218
                            have g324 : tk_tb f318 ba B tn := tk_tb_tr g219 (fun i9 => by rw [ef318, q_setz (Or.inl (fun q => by rw [q, kso] at kba; exact absurd kba (by decide)))])
                            refine q_ald_n cx dX8_advance_141 rfl (lv_at hl 1 rfl) ?_
                            refine lv_dup cx.1 cx.2.1 dX8_advance_142 rfl ?_
                            refine q_gX8_27 cx hB hso kso z321 dX8_advance_143 (fun lb325 ub325 => ?_)
                            refine q_iconst cx dX8_advance_146 ?_
                            refine q_iadd cx dX8_advance_147 ?_
                            refine q_pX8_27 cx hB hso kso ⟨by omega, by omega⟩ (by omega) (by omega) rfl dX8_advance_148 (fun H locs f326 ef326 z327 hB => ?_)
                            have z328 : q_is (q_z f326 so 1) tn := by rw [ef326, q_setz (Or.inr (by decide))]; exact z320
                            have z329 : q_is (q_z f326 so 8) w0_so_9 := by rw [ef326, q_setz (Or.inr (by decide))]; exact z322
                            have z330 : q_is (q_z f326 so 6) y222 := by rw [ef326, q_setz (Or.inr (by decide))]; exact z319
                            have z331 : q_ir (q_r f326 so 0) ba := by rw [ef326, q_setr (Or.inr (by decide))]; exact z323
                            have g332 : tk_tb f326 ba B tn := tk_tb_tr g324 (fun i9 => by rw [ef326, q_setz (Or.inl (fun q => by rw [q, kso] at kba; exact absurd kba (by decide)))])
                            have htc9 : tk_tc f326 so B tn := tk_tc_sign z329 (by omega) (by omega) t224 t247 t268 z330 z327 (by omega)
                            refine q_vret cx hr hlk hB dX8_advance_151 ?_
                            exact ⟨(Eq.trans z329 hst), htc9⟩
                    · exact absurd c269 (by omega)
                · exact absurd c248 (by omega)
            · exact absurd c227 (by omega)
          · refine q_ald_n cx dX8_advance_37 rfl (lv_at hl 0 rfl) ?_
            refine lv_dup cx.1 cx.2.1 dX8_advance_38 rfl ?_
            refine q_gX8_27 cx hB hso kso hj_so_9 dX8_advance_39 (fun lb333 ub333 => ?_)
            refine q_iconst cx dX8_advance_42 ?_
            refine q_iadd cx dX8_advance_43 ?_
            refine q_pX8_27 cx hB hso kso ⟨by omega, by omega⟩ (by omega) (by omega) rfl dX8_advance_44 (fun H locs f334 ef334 z335 hB => ?_)
            have z336 : q_is (q_z f334 so 1) tn := by rw [ef334, q_setz (Or.inr (by decide))]; exact hj_so_1
            have z337 : q_ir (q_r f334 so 0) ba := by rw [ef334, q_setr (Or.inr (by decide))]; exact hq_so_0
            have g338 : tk_tb f334 ba B tn := tk_tb_tr htb0 (fun i9 => by rw [ef334, q_setz (Or.inl (fun q => by rw [q, kso] at kba; exact absurd kba (by decide)))])
            refine lv_goto (tgt := 0) cx.1 cx.2.1 dX8_advance_47 (by decide) ?_
            exact ih0 f334 (w0_so_9 + 1) (by omega) (by omega) z336 z335 z337 g338 (by omega) (by omega) (tk_ru_step hru (by omega) (by omega) t211 (tk_sp_y (by omega))) (by omega) H locs hB ls (lv_sub hl [0] rfl)
  obtain ⟨H, hH⟩ : ∃ H : Heap, H = s.heap := ⟨_, rfl⟩
  obtain ⟨locs, hlocs⟩ : ∃ z : List Loc, z = [] := ⟨_, rfl⟩
  rw [← hH, ← hlocs] at hB
  rw [← hH, ← hlocs]
  exact J0 ((Int.toNat (tn - nx)) + 1) f nx (by omega) (by omega) hf0 hf1 hr0 htb (by omega) (by omega) rfl (Nat.lt_succ_self _) H locs hB ls (lv_sub hl [0] rfl)
theorem f_adv (l : Launch) (g : q_G) {K : Nat → Nat} {L : List Nat} (hN : L.Nodup) {f : Nat → va_E} (hT : q_Ty g K L f) (B : Nat → Int) (so : Nat) (hso : so ∈ L) (kso : K so = 8) (ba : Nat) (hba : ba ∈ L) (kba : K ba = 142) (tn : Int) (ltn : 0 ≤ tn) (utn : tn ≤ 600) (ss : Int) (lss : 0 ≤ ss) (uss : ss ≤ 600) (hf0 : q_is (q_z f so 1) tn) (hf1 : q_is (q_z f so 8) ss) (hr0 : q_ir (q_r f so 0) ba) (htc : tk_tc f so B tn) (htb : tk_tb f ba B tn) : q_Ct l g K L yX8_advance cX8_advance 2 none 2 41 [.ref so] f [(8, 4, 4), (8, 6, 9)] (q_Pv (fun (f1 : Nat → va_E) => (q_z f1 so 8 = tk_nx B tn ss) ∧ (tk_tc f1 so B tn))) := by
  have a := tk_tc_n htc hf1
  exact q_Ct_mono (f_advance l g hN hT B so hso kso ba hba kba tn ltn utn (q_z f so 9) (by have := a.1; omega) (by have := a.1; omega) hf0 rfl hr0 (by have := a.1; omega) htb) (fun r f1 _ h => ⟨h.1, h.2.1.trans (congrArg (tk_S B tn) a.1), h.2.2⟩)
set_option maxHeartbeats 4000000 in
set_option maxRecDepth 100000 in
theorem f_isAtEnd (l : Launch) (g : q_G) {K : Nat → Nat} {L : List Nat} (hN : L.Nodup) {f : Nat → va_E} (hT : q_Ty g K L f) (B : Nat → Int) (so : Nat) (hso : so ∈ L) (kso : K so = 8) (ba : Nat) (hba : ba ∈ L) (kba : K ba = 142) (tn : Int) (ltn : 0 ≤ tn) (utn : tn ≤ 600) (ss : Int) (lss : 0 ≤ ss) (uss : ss ≤ 600) (hf0 : q_is (q_z f so 1) tn) (hf1 : q_is (q_z f so 8) ss) (hr0 : q_ir (q_r f so 0) ba) (htc : tk_tc f so B tn) (htb : tk_tb f ba B tn) : q_Ct l g K L yX8_isAtEnd cX8_isAtEnd 1 (some .boolean) 0 0 [.ref so] f [] (q_Pi (fun (z : Int) (f1 : Nat → va_E) => (f = f1 ∧ z = 1 ∧ (tk_k B tn ss = 0)) ∨ (f = f1 ∧ z = 0 ∧ (tk_k B tn ss ≠ 0)))) := by
  refine q_ofb (by decide +kernel) hN hT (Nat.le_of_ble_eq_true rfl) ?_
  intro p e s m below meth c ls cx hr hlk hB hl
  have hl : lv_has ls 1 [(0, .ref so)] := hl
  obtain ⟨H, hH⟩ : ∃ H : Heap, H = s.heap := ⟨_, rfl⟩
  obtain ⟨locs, hlocs⟩ : ∃ z : List Loc, z = [] := ⟨_, rfl⟩
  rw [← hH, ← hlocs] at hB
  rw [← hH, ← hlocs]
  refine q_ald_n cx dX8_isAtEnd_0 rfl (lv_at hl 0 rfl) ?_
  obtain ⟨x4, ex4⟩ : ∃ zz, q_is (q_z f so 6) zz := ⟨_, q_isr _⟩
  refine q_gX8_40 cx hB hso kso ex4 dX8_isAtEnd_1 (fun lb5 ub5 => ?_)
  refine q_ifne (tgt := 11) cx ⟨by omega, by omega⟩ dX8_isAtEnd_4 (by decide) (fun c6 => ?_) (fun c6 => ?_)
  · refine q_iconst cx dX8_isAtEnd_11 ?_
    refine q_zret cx hr hlk hB dX8_isAtEnd_12 (by decide) (by decide) ?_
    exact (Or.inr ⟨rfl, rfl, (fun h9 => absurd (Eq.trans (tk_tc_k htc hf1 ex4) h9) (by omega))⟩)
  · refine q_iconst cx dX8_isAtEnd_7 ?_
    refine lv_goto (tgt := 12) cx.1 cx.2.1 dX8_isAtEnd_8 (by decide) ?_
    refine q_zret cx hr hlk hB dX8_isAtEnd_12 (by decide) (by decide) ?_
    exact (Or.inl ⟨rfl, rfl, (Eq.trans (Eq.symm (tk_tc_k htc hf1 ex4)) (by omega))⟩)
set_option maxHeartbeats 4000000 in
set_option maxRecDepth 100000 in
theorem f_isMark (l : Launch) (g : q_G) {K : Nat → Nat} {L : List Nat} (hN : L.Nodup) {f : Nat → va_E} (hT : q_Ty g K L f) (B : Nat → Int) (so : Nat) (hso : so ∈ L) (kso : K so = 8) (p0 : Int) (lp0 : 0 ≤ p0) (up0 : p0 ≤ 255) (ba : Nat) (hba : ba ∈ L) (kba : K ba = 142) (tn : Int) (ltn : 0 ≤ tn) (utn : tn ≤ 600) (ss : Int) (lss : 0 ≤ ss) (uss : ss ≤ 600) (hf0 : q_is (q_z f so 1) tn) (hf1 : q_is (q_z f so 8) ss) (hr0 : q_ir (q_r f so 0) ba) (htc : tk_tc f so B tn) (htb : tk_tb f ba B tn) : q_Ct l g K L yX8_isMark cX8_isMark 2 (some .boolean) 0 0 [.ref so, .int (q_i p0)] f [] (q_Pi (fun (z : Int) (f1 : Nat → va_E) => (f = f1 ∧ z = 1 ∧ (tk_k B tn ss = p0)) ∨ (f = f1 ∧ z = 0 ∧ (tk_k B tn ss ≠ p0)))) := by
  refine q_ofb (by decide +kernel) hN hT (Nat.le_of_ble_eq_true rfl) ?_
  intro p e s m below meth c ls cx hr hlk hB hl
  have hl : lv_has ls 2 [(0, .ref so), (1, .int (q_i p0))] := hl
  obtain ⟨H, hH⟩ : ∃ H : Heap, H = s.heap := ⟨_, rfl⟩
  obtain ⟨locs, hlocs⟩ : ∃ z : List Loc, z = [] := ⟨_, rfl⟩
  rw [← hH, ← hlocs] at hB
  rw [← hH, ← hlocs]
  refine q_ald_n cx dX8_isMark_0 rfl (lv_at hl 0 rfl) ?_
  obtain ⟨x4, ex4⟩ : ∃ zz, q_is (q_z f so 6) zz := ⟨_, q_isr _⟩
  refine q_gX8_40 cx hB hso kso ex4 dX8_isMark_1 (fun lb5 ub5 => ?_)
  refine q_ild_n cx dX8_isMark_4 rfl (lv_at hl 1 rfl) ?_
  refine q_icne (tgt := 12) cx ⟨by omega, by omega⟩ ⟨by omega, by omega⟩ dX8_isMark_5 (by decide) (fun c6 => ?_) (fun c6 => ?_)
  · refine q_iconst cx dX8_isMark_12 ?_
    refine q_zret cx hr hlk hB dX8_isMark_13 (by decide) (by decide) ?_
    exact (Or.inr ⟨rfl, rfl, (fun h9 => absurd (Eq.trans (tk_tc_k htc hf1 ex4) h9) (by omega))⟩)
  · refine q_iconst cx dX8_isMark_8 ?_
    refine lv_goto (tgt := 13) cx.1 cx.2.1 dX8_isMark_9 (by decide) ?_
    refine q_zret cx hr hlk hB dX8_isMark_13 (by decide) (by decide) ?_
    exact (Or.inl ⟨rfl, rfl, (Eq.trans (Eq.symm (tk_tc_k htc hf1 ex4)) (by omega))⟩)
