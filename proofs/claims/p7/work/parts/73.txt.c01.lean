set_option maxHeartbeats 4000000 in
set_option maxRecDepth 100000 in
theorem f_fail (l : Launch) (g : q_G) {K : Nat → Nat} {L : List Nat} (hN : L.Nodup) {f : Nat → va_E} (hT : q_Ty g K L f) (B : Nat → Int) (so : Nat) (hso : so ∈ L) (kso : K so = 8) (p0 : Int) (lp0 : 0 ≤ p0) (up0 : p0 ≤ 9) (ba : Nat) (hba : ba ∈ L) (kba : K ba = 142) (tn : Int) (ltn : 0 ≤ tn) (utn : tn ≤ 600) (ss : Int) (lss : 0 ≤ ss) (uss : ss ≤ 600) (hf0 : q_is (q_z f so 1) tn) (hf1 : q_is (q_z f so 8) ss) (hr0 : q_ir (q_r f so 0) ba) (htc : tk_tc f so B tn) (htb : tk_tb f ba B tn) : q_Ct l g K L yX8_fail cX8_fail 2 (some .boolean) 0 0 [.ref so, .int (q_i p0)] f [(8, 2, 3)] (q_Pi (fun (z : Int) (f1 : Nat → va_E) => z = 0 ∧ q_is (q_z f1 so 2) p0 ∧ q_is (q_z f1 so 3) ss)) := by
  refine q_ofb (by decide +kernel) hN hT (Nat.le_of_ble_eq_true rfl) ?_
  intro p e s m below meth c ls cx hr hlk hB hl
  have hl : lv_has ls 2 [(0, .ref so), (1, .int (q_i p0))] := hl
  obtain ⟨H, hH⟩ : ∃ H : Heap, H = s.heap := ⟨_, rfl⟩
  obtain ⟨locs, hlocs⟩ : ∃ z : List Loc, z = [] := ⟨_, rfl⟩
  rw [← hH, ← hlocs] at hB
  rw [← hH, ← hlocs]
  refine q_ald_n cx dX8_fail_0 rfl (lv_at hl 0 rfl) ?_
  refine q_ild_n cx dX8_fail_1 rfl (lv_at hl 1 rfl) ?_
  refine q_pX8_24 cx hB hso kso ⟨by omega, by omega⟩ (by omega) (by omega) rfl dX8_fail_2 (fun H locs f17 ef17 z18 hB => ?_)
  have z19 : q_is (q_z f17 so 1) tn := by rw [ef17, q_setz (Or.inr (by decide))]; exact hf0
  have z20 : q_is (q_z f17 so 8) ss := by rw [ef17, q_setz (Or.inr (by decide))]; exact hf1
  have z21 : q_ir (q_r f17 so 0) ba := by rw [ef17, q_setr (Or.inr (by decide))]; exact hr0
  have g22 : tk_tc f17 so B tn := tk_tc_tr htc (by rw [ef17, q_setz (Or.inr (by decide))]) (by rw [ef17, q_setz (Or.inr (by decide))]) (by rw [ef17, q_setz (Or.inr (by decide))]) (by rw [ef17, q_setj (Or.inr (by decide))]) (by rw [ef17, q_setz (Or.inr (by decide))])
  have g23 : tk_tb f17 ba B tn := tk_tb_tr htb (fun i9 => by rw [ef17, q_setz (Or.inl (fun q => by rw [q, kso] at kba; exact absurd kba (by decide)))])
  refine q_ald_n cx dX8_fail_5 rfl (lv_at hl 0 rfl) ?_
  refine q_ald_n cx dX8_fail_6 rfl (lv_at hl 0 rfl) ?_
  refine q_gX8_33 cx hB hso kso z20 dX8_fail_7 (fun lb24 ub24 => ?_)
  refine q_pX8_15 cx hB hso kso ⟨by omega, by omega⟩ (by omega) (by omega) rfl dX8_fail_10 (fun H locs f25 ef25 z26 hB => ?_)
  have z27 : q_is (q_z f25 so 1) tn := by rw [ef25, q_setz (Or.inr (by decide))]; exact z19
  have z28 : q_is (q_z f25 so 8) ss := by rw [ef25, q_setz (Or.inr (by decide))]; exact z20
  have z29 : q_is (q_z f25 so 2) p0 := by rw [ef25, q_setz (Or.inr (by decide))]; exact z18
  have z30 : q_ir (q_r f25 so 0) ba := by rw [ef25, q_setr (Or.inr (by decide))]; exact z21
  have g31 : tk_tc f25 so B tn := tk_tc_tr g22 (by rw [ef25, q_setz (Or.inr (by decide))]) (by rw [ef25, q_setz (Or.inr (by decide))]) (by rw [ef25, q_setz (Or.inr (by decide))]) (by rw [ef25, q_setj (Or.inr (by decide))]) (by rw [ef25, q_setz (Or.inr (by decide))])
  have g32 : tk_tb f25 ba B tn := tk_tb_tr g23 (fun i9 => by rw [ef25, q_setz (Or.inl (fun q => by rw [q, kso] at kba; exact absurd kba (by decide)))])
  refine q_iconst cx dX8_fail_13 ?_
  refine q_zret cx hr hlk hB dX8_fail_14 (by decide) (by decide) ?_
  exact ⟨rfl, z29, z26⟩
set_option maxHeartbeats 4000000 in
set_option maxRecDepth 100000 in
theorem f_takeMark (l : Launch) (g : q_G) {K : Nat → Nat} {L : List Nat} (hN : L.Nodup) {f : Nat → va_E} (hT : q_Ty g K L f) (B : Nat → Int) (so : Nat) (hso : so ∈ L) (kso : K so = 8) (p0 : Int) (lp0 : 0 ≤ p0) (up0 : p0 ≤ 255) (ba : Nat) (hba : ba ∈ L) (kba : K ba = 142) (tn : Int) (ltn : 0 ≤ tn) (utn : tn ≤ 600) (ss : Int) (lss : 0 ≤ ss) (uss : ss ≤ 600) (hf0 : q_is (q_z f so 1) tn) (hf1 : q_is (q_z f so 8) ss) (hf2 : q_is (q_z f so 2) 0) (hf3 : q_is (q_z f so 3) (-1)) (hr0 : q_ir (q_r f so 0) ba) (htc : tk_tc f so B tn) (htb : tk_tb f ba B tn) : q_Ct l g K L yX8_takeMark cX8_takeMark 2 (some .boolean) 3 62 [.ref so, .int (q_i p0)] f [(8, 2, 4), (8, 6, 9)] (q_Pi (fun (z : Int) (f1 : Nat → va_E) => (z = 1 ∧ q_is (q_z f1 so 2) 0 ∧ q_is (q_z f1 so 3) (-1) ∧ (tk_mk B tn p0 ss = tk_ok (q_z f1 so 8)) ∧ (tk_tc f1 so B tn)) ∨ (z = 0 ∧ (tk_mk B tn p0 ss = tk_er (q_z f1 so 2) (q_z f1 so 3)) ∧ (tk_tc f1 so B tn)))) := by
  refine q_ofb (by decide +kernel) hN hT (Nat.le_of_ble_eq_true rfl) ?_
  intro p e s m below meth c ls cx hr hlk hB hl
  have hl : lv_has ls 2 [(0, .ref so), (1, .int (q_i p0))] := hl
  obtain ⟨H, hH⟩ : ∃ H : Heap, H = s.heap := ⟨_, rfl⟩
  obtain ⟨locs, hlocs⟩ : ∃ z : List Loc, z = [] := ⟨_, rfl⟩
  rw [← hH, ← hlocs] at hB
  rw [← hH, ← hlocs]
  refine q_ald_n cx dX8_takeMark_0 rfl (lv_at hl 0 rfl) ?_
  refine q_ild_n cx dX8_takeMark_1 rfl (lv_at hl 1 rfl) ?_
  refine q_cVi (As := [.int (q_i p0)]) (rest := []) cx hB (fun _ h => h) hN hso kso (by decide) rfl (f_isMark l g hN hB.2.1 B so hso kso p0 (by omega) (by omega) ba hba kba tn (by omega) (by omega) ss (by omega) (by omega) hf0 hf1 hr0 htc htb) q_cX8_76 q_dX8_isMark (by decide) rfl rfl hl.1 rfl (Nat.le_of_ble_eq_true rfl) dX8_takeMark_2 (fun y32 H locs f31 ry32 h33 hF hB => ?_)
  rcases h33 with h34 | h35
  · obtain ⟨rfl, qy32, t36⟩ := h34
    subst qy32
    refine q_ifne (tgt := 14) cx ⟨by decide, by decide⟩ dX8_takeMark_5 (by decide) (fun c37 => ?_) (fun c37 => ?_)
    · refine q_ald_n cx dX8_takeMark_14 rfl (lv_at hl 0 rfl) ?_
      refine q_cVv (As := []) (rest := []) cx hB (fun _ h => h) hN hso kso (by decide) rfl (f_adv l g hN hB.2.1 B so hso kso ba hba kba tn (by omega) (by omega) ss (by omega) (by omega) hf0 hf1 hr0 htc htb) q_cX8_30 q_dX8_advance (by decide) rfl rfl hl.1 rfl (Nat.le_of_ble_eq_true rfl) dX8_takeMark_15 (fun H locs f38 h40 hF hB => ?_)
      obtain ⟨t41, g42⟩ := h40
      have z43 : q_is (q_z f38 so 1) tn := Eq.trans (hF.z hso (by rw [kso]; rfl)) hf0
      have z44 : q_is (q_z f38 so 2) 0 := Eq.trans (hF.z hso (by rw [kso]; rfl)) hf2
      have z45 : q_is (q_z f38 so 3) (-1) := Eq.trans (hF.z hso (by rw [kso]; rfl)) hf3
      have z46 : q_ir (q_r f38 so 0) ba := Eq.trans (hF.r hso (by rw [kso]; rfl)) hr0
      have g47 : tk_tb f38 ba B tn := tk_tb_tr htb (fun i9 => hF.z hba (by rw [kba]; rfl))
      obtain ⟨x48, ex48⟩ : ∃ zz, q_is (q_z f38 so 8) zz := ⟨_, q_isr _⟩
      obtain ⟨lx48, ux48⟩ := q_isb ex48 (q_fib hB.2.1 hso kso (by decide) rfl)
      obtain ⟨-, l0x48, u0x48, -, -⟩ := tk_tc_n g42 ex48
      refine q_iconst cx dX8_takeMark_18 ?_
      refine q_zret cx hr hlk hB dX8_takeMark_19 (by decide) (by decide) ?_
      exact (Or.inl ⟨rfl, z44, z45, (tk_mk_ok t36 t41), g42⟩)
    · exact absurd c37 (by omega)
  · obtain ⟨rfl, qy32, t49⟩ := h35
    subst qy32
    refine q_ifne (tgt := 14) cx ⟨by decide, by decide⟩ dX8_takeMark_5 (by decide) (fun c50 => ?_) (fun c50 => ?_)
    · exact absurd c50 (by omega)
    · refine q_ald_n cx dX8_takeMark_8 rfl (lv_at hl 0 rfl) ?_
      refine q_iconst cx dX8_takeMark_9 ?_
      refine q_cVi (As := [.int (q_i 1)]) (rest := []) cx hB (fun _ h => h) hN hso kso (by decide) rfl (f_fail l g hN hB.2.1 B so hso kso 1 (by decide) (by decide) ba hba kba tn (by omega) (by omega) ss (by omega) (by omega) hf0 hf1 hr0 htc htb) q_cX8_79 q_dX8_fail (by decide) rfl rfl hl.1 rfl (Nat.le_of_ble_eq_true rfl) dX8_takeMark_10 (fun y52 H locs f51 ry52 h53 hF hB => ?_)
      obtain ⟨qy52, z54, z55⟩ := h53
      have z56 : q_is (q_z f51 so 1) tn := Eq.trans (hF.z hso (by rw [kso]; rfl)) hf0
      have z57 : q_is (q_z f51 so 8) ss := Eq.trans (hF.z hso (by rw [kso]; rfl)) hf1
      have z58 : q_ir (q_r f51 so 0) ba := Eq.trans (hF.r hso (by rw [kso]; rfl)) hr0
      have g59 : tk_tc f51 so B tn := tk_tc_tr htc (hF.z hso (by rw [kso]; rfl)) (hF.z hso (by rw [kso]; rfl)) (hF.z hso (by rw [kso]; rfl)) (hF.j hso (by rw [kso]; rfl)) (hF.z hso (by rw [kso]; rfl))
      have g60 : tk_tb f51 ba B tn := tk_tb_tr htb (fun i9 => hF.z hba (by rw [kba]; rfl))
      subst qy52
      refine q_zret cx hr hlk hB dX8_takeMark_13 (by decide) (by decide) ?_
      exact (Or.inr ⟨rfl, (tk_mk_er t49 z54 z55), g59⟩)
set_option maxHeartbeats 4000000 in
set_option maxRecDepth 100000 in
theorem f_takeNumber (l : Launch) (g : q_G) {K : Nat → Nat} {L : List Nat} (hN : L.Nodup) {f : Nat → va_E} (hT : q_Ty g K L f) (B : Nat → Int) (so : Nat) (hso : so ∈ L) (kso : K so = 8) (p0 : Int) (lp0 : 0 ≤ p0) (up0 : p0 ≤ 999) (p1 : Int) (lp1 : 0 ≤ p1) (up1 : p1 ≤ 999) (ba : Nat) (hba : ba ∈ L) (kba : K ba = 142) (tn : Int) (ltn : 0 ≤ tn) (utn : tn ≤ 600) (ss : Int) (lss : 0 ≤ ss) (uss : ss ≤ 600) (hf0 : q_is (q_z f so 1) tn) (hf1 : q_is (q_z f so 8) ss) (hf2 : q_is (q_z f so 2) 0) (hf3 : q_is (q_z f so 3) (-1)) (hr0 : q_ir (q_r f so 0) ba) (htc : tk_tc f so B tn) (htb : tk_tb f ba B tn) : q_Ct l g K L yX8_takeNumber cX8_takeNumber 3 (some .boolean) 3 62 [.ref so, .int (q_i p0), .int (q_i p1)] f [(8, 2, 9)] (q_Pi (fun (z : Int) (f1 : Nat → va_E) => (z = 1 ∧ q_is (q_z f1 so 2) 0 ∧ q_is (q_z f1 so 3) (-1) ∧ (tk_nm B tn p0 p1 ss = tk_ok (q_z f1 so 8)) ∧ (p0 ≤ q_z f1 so 5) ∧ (q_z f1 so 5 ≤ p1) ∧ (tk_tc f1 so B tn)) ∨ (z = 0 ∧ (tk_nm B tn p0 p1 ss = tk_er (q_z f1 so 2) (q_z f1 so 3)) ∧ (tk_tc f1 so B tn)))) := by
  refine q_ofb (by decide +kernel) hN hT (Nat.le_of_ble_eq_true rfl) ?_
  intro p e s m below meth c ls cx hr hlk hB hl
  have hl : lv_has ls 3 [(0, .ref so), (1, .int (q_i p0)), (2, .int (q_i p1))] := hl
  obtain ⟨H, hH⟩ : ∃ H : Heap, H = s.heap := ⟨_, rfl⟩
  obtain ⟨locs, hlocs⟩ : ∃ z : List Loc, z = [] := ⟨_, rfl⟩
  rw [← hH, ← hlocs] at hB
  rw [← hH, ← hlocs]
  refine q_ald_n cx dX8_takeNumber_0 rfl (lv_at hl 0 rfl) ?_
  obtain ⟨x68, ex68⟩ : ∃ zz, q_is (q_z f so 6) zz := ⟨_, q_isr _⟩
  refine q_gX8_40 cx hB hso kso ex68 dX8_takeNumber_1 (fun lb69 ub69 => ?_)
  refine q_iconst cx dX8_takeNumber_4 ?_
  refine q_iceq (tgt := 14) cx ⟨by omega, by omega⟩ ⟨by decide, by decide⟩ dX8_takeNumber_5 (by decide) (fun c70 => ?_) (fun c70 => ?_)
  · refine q_ald_n cx dX8_takeNumber_14 rfl (lv_at hl 0 rfl) ?_
    obtain ⟨x71, ex71⟩ : ∃ zz, q_is (q_z f so 7) zz := ⟨_, q_isr _⟩
    refine q_gX8_60 cx hB hso kso ex71 dX8_takeNumber_15 (fun lb72 ub72 => ?_)
    refine q_ild_n cx dX8_takeNumber_18 rfl (lv_at hl 1 rfl) ?_
    refine q_iclt (tgt := 30) cx ⟨by omega, by omega⟩ ⟨by omega, by omega⟩ dX8_takeNumber_19 (by decide) (fun c73 => ?_) (fun c73 => ?_)
    · refine q_ald_n cx dX8_takeNumber_30 rfl (lv_at hl 0 rfl) ?_
      refine q_iconst cx dX8_takeNumber_31 ?_
      refine q_cVi (As := [.int (q_i 2)]) (rest := []) cx hB (fun _ h => h) hN hso kso (by decide) rfl (f_fail l g hN hB.2.1 B so hso kso 2 (by decide) (by decide) ba hba kba tn (by omega) (by omega) ss (by omega) (by omega) hf0 hf1 hr0 htc htb) q_cX8_79 q_dX8_fail (by decide) rfl rfl hl.1 rfl (Nat.le_of_ble_eq_true rfl) dX8_takeNumber_32 (fun y75 H locs f74 ry75 h76 hF hB => ?_)
      obtain ⟨qy75, z77, z78⟩ := h76
      have z79 : q_is (q_z f74 so 1) tn := Eq.trans (hF.z hso (by rw [kso]; rfl)) hf0
      have z80 : q_is (q_z f74 so 8) ss := Eq.trans (hF.z hso (by rw [kso]; rfl)) hf1
      have z81 : q_is (q_z f74 so 6) x68 := Eq.trans (hF.z hso (by rw [kso]; rfl)) ex68
      have z82 : q_is (q_z f74 so 7) x71 := Eq.trans (hF.z hso (by rw [kso]; rfl)) ex71
      have z83 : q_ir (q_r f74 so 0) ba := Eq.trans (hF.r hso (by rw [kso]; rfl)) hr0
      have g84 : tk_tc f74 so B tn := tk_tc_tr htc (hF.z hso (by rw [kso]; rfl)) (hF.z hso (by rw [kso]; rfl)) (hF.z hso (by rw [kso]; rfl)) (hF.j hso (by rw [kso]; rfl)) (hF.z hso (by rw [kso]; rfl))
      have g85 : tk_tb f74 ba B tn := tk_tb_tr htb (fun i9 => hF.z hba (by rw [kba]; rfl))
      subst qy75
      refine q_zret cx hr hlk hB dX8_takeNumber_35 (by decide) (by decide) ?_
      exact (Or.inr ⟨rfl, (tk_nm_er2 (tk_tc_k htc hf1 ex68) (by omega) (tk_tc_v htc hf1 (Eq.trans (Eq.symm (tk_tc_k htc hf1 ex68)) (by omega)) ex71) (by omega) z77 z78), g84⟩)
    · refine q_ald_n cx dX8_takeNumber_22 rfl (lv_at hl 0 rfl) ?_
      refine q_gX8_60 cx hB hso kso ex71 dX8_takeNumber_23 (fun lb86 ub86 => ?_)
      refine q_ild_n cx dX8_takeNumber_26 rfl (lv_at hl 2 rfl) ?_
      refine q_icle (tgt := 36) cx ⟨by omega, by omega⟩ ⟨by omega, by omega⟩ dX8_takeNumber_27 (by decide) (fun c87 => ?_) (fun c87 => ?_)
      · refine q_ald_n cx dX8_takeNumber_36 rfl (lv_at hl 0 rfl) ?_
        refine q_ald_n cx dX8_takeNumber_37 rfl (lv_at hl 0 rfl) ?_
        refine q_gX8_60 cx hB hso kso ex71 dX8_takeNumber_38 (fun lb88 ub88 => ?_)
        refine q_pX8_86 cx hB hso kso ⟨by omega, by omega⟩ (by omega) (by omega) rfl dX8_takeNumber_41 (fun H locs f89 ef89 z90 hB => ?_)
        have z91 : q_is (q_z f89 so 1) tn := by rw [ef89, q_setz (Or.inr (by decide))]; exact hf0
        have z92 : q_is (q_z f89 so 8) ss := by rw [ef89, q_setz (Or.inr (by decide))]; exact hf1
        have z93 : q_is (q_z f89 so 2) 0 := by rw [ef89, q_setz (Or.inr (by decide))]; exact hf2
        have z94 : q_is (q_z f89 so 3) (-1) := by rw [ef89, q_setz (Or.inr (by decide))]; exact hf3
        have z95 : q_is (q_z f89 so 6) x68 := by rw [ef89, q_setz (Or.inr (by decide))]; exact ex68
        have z96 : q_is (q_z f89 so 7) x71 := by rw [ef89, q_setz (Or.inr (by decide))]; exact ex71
        have z97 : q_ir (q_r f89 so 0) ba := by rw [ef89, q_setr (Or.inr (by decide))]; exact hr0
        have g98 : tk_tc f89 so B tn := tk_tc_tr htc (by rw [ef89, q_setz (Or.inr (by decide))]) (by rw [ef89, q_setz (Or.inr (by decide))]) (by rw [ef89, q_setz (Or.inr (by decide))]) (by rw [ef89, q_setj (Or.inr (by decide))]) (by rw [ef89, q_setz (Or.inr (by decide))])
        have g99 : tk_tb f89 ba B tn := tk_tb_tr htb (fun i9 => by rw [ef89, q_setz (Or.inl (fun q => by rw [q, kso] at kba; exact absurd kba (by decide)))])
        refine q_ald_n cx dX8_takeNumber_44 rfl (lv_at hl 0 rfl) ?_
        refine q_cVv (As := []) (rest := []) cx hB (fun _ h => h) hN hso kso (by decide) rfl (f_adv l g hN hB.2.1 B so hso kso ba hba kba tn (by omega) (by omega) ss (by omega) (by omega) z91 z92 z97 g98 g99) q_cX8_30 q_dX8_advance (by decide) rfl rfl hl.1 rfl (Nat.le_of_ble_eq_true rfl) dX8_takeNumber_45 (fun H locs f100 h102 hF hB => ?_)
        obtain ⟨t103, g104⟩ := h102
        have z105 : q_is (q_z f100 so 1) tn := Eq.trans (hF.z hso (by rw [kso]; rfl)) z91
        have z106 : q_is (q_z f100 so 2) 0 := Eq.trans (hF.z hso (by rw [kso]; rfl)) z93
        have z107 : q_is (q_z f100 so 3) (-1) := Eq.trans (hF.z hso (by rw [kso]; rfl)) z94
        have z108 : q_is (q_z f100 so 5) x71 := Eq.trans (hF.z hso (by rw [kso]; rfl)) z90
        have z109 : q_ir (q_r f100 so 0) ba := Eq.trans (hF.r hso (by rw [kso]; rfl)) z97
        have g110 : tk_tb f100 ba B tn := tk_tb_tr g99 (fun i9 => hF.z hba (by rw [kba]; rfl))
        obtain ⟨x111, ex111⟩ : ∃ zz, q_is (q_z f100 so 8) zz := ⟨_, q_isr _⟩
        obtain ⟨lx111, ux111⟩ := q_isb ex111 (q_fib hB.2.1 hso kso (by decide) rfl)
        obtain ⟨-, l0x111, u0x111, -, -⟩ := tk_tc_n g104 ex111
        refine q_iconst cx dX8_takeNumber_48 ?_
        refine q_zret cx hr hlk hB dX8_takeNumber_49 (by decide) (by decide) ?_
        exact (Or.inl ⟨rfl, z106, z107, (tk_nm_ok (tk_tc_k htc hf1 ex68) (by omega) (tk_tc_v htc hf1 (Eq.trans (Eq.symm (tk_tc_k htc hf1 ex68)) (by omega)) ex71) (by omega) (by omega) t103), (q_isl z108 (by omega)), (q_isu z108 (by omega)), g104⟩)
      · refine q_ald_n cx dX8_takeNumber_30 rfl (lv_at hl 0 rfl) ?_
        refine q_iconst cx dX8_takeNumber_31 ?_
        refine q_cVi (As := [.int (q_i 2)]) (rest := []) cx hB (fun _ h => h) hN hso kso (by decide) rfl (f_fail l g hN hB.2.1 B so hso kso 2 (by decide) (by decide) ba hba kba tn (by omega) (by omega) ss (by omega) (by omega) hf0 hf1 hr0 htc htb) q_cX8_79 q_dX8_fail (by decide) rfl rfl hl.1 rfl (Nat.le_of_ble_eq_true rfl) dX8_takeNumber_32 (fun y113 H locs f112 ry113 h114 hF hB => ?_)
        obtain ⟨qy113, z115, z116⟩ := h114
        have z117 : q_is (q_z f112 so 1) tn := Eq.trans (hF.z hso (by rw [kso]; rfl)) hf0
        have z118 : q_is (q_z f112 so 8) ss := Eq.trans (hF.z hso (by rw [kso]; rfl)) hf1
        have z119 : q_is (q_z f112 so 6) x68 := Eq.trans (hF.z hso (by rw [kso]; rfl)) ex68
        have z120 : q_is (q_z f112 so 7) x71 := Eq.trans (hF.z hso (by rw [kso]; rfl)) ex71
        have z121 : q_ir (q_r f112 so 0) ba := Eq.trans (hF.r hso (by rw [kso]; rfl)) hr0
        have g122 : tk_tc f112 so B tn := tk_tc_tr htc (hF.z hso (by rw [kso]; rfl)) (hF.z hso (by rw [kso]; rfl)) (hF.z hso (by rw [kso]; rfl)) (hF.j hso (by rw [kso]; rfl)) (hF.z hso (by rw [kso]; rfl))
        have g123 : tk_tb f112 ba B tn := tk_tb_tr htb (fun i9 => hF.z hba (by rw [kba]; rfl))
        subst qy113
        refine q_zret cx hr hlk hB dX8_takeNumber_35 (by decide) (by decide) ?_
        exact (Or.inr ⟨rfl, (tk_nm_er2 (tk_tc_k htc hf1 ex68) (by omega) (tk_tc_v htc hf1 (Eq.trans (Eq.symm (tk_tc_k htc hf1 ex68)) (by omega)) ex71) (by omega) z115 z116), g122⟩)
  · refine q_ald_n cx dX8_takeNumber_8 rfl (lv_at hl 0 rfl) ?_
    refine q_iconst cx dX8_takeNumber_9 ?_
    refine q_cVi (As := [.int (q_i 1)]) (rest := []) cx hB (fun _ h => h) hN hso kso (by decide) rfl (f_fail l g hN hB.2.1 B so hso kso 1 (by decide) (by decide) ba hba kba tn (by omega) (by omega) ss (by omega) (by omega) hf0 hf1 hr0 htc htb) q_cX8_79 q_dX8_fail (by decide) rfl rfl hl.1 rfl (Nat.le_of_ble_eq_true rfl) dX8_takeNumber_10 (fun y125 H locs f124 ry125 h126 hF hB => ?_)
    obtain ⟨qy125, z127, z128⟩ := h126
    have z129 : q_is (q_z f124 so 1) tn := Eq.trans (hF.z hso (by rw [kso]; rfl)) hf0
    have z130 : q_is (q_z f124 so 8) ss := Eq.trans (hF.z hso (by rw [kso]; rfl)) hf1
    have z131 : q_is (q_z f124 so 6) x68 := Eq.trans (hF.z hso (by rw [kso]; rfl)) ex68
    have z132 : q_ir (q_r f124 so 0) ba := Eq.trans (hF.r hso (by rw [kso]; rfl)) hr0
    have g133 : tk_tc f124 so B tn := tk_tc_tr htc (hF.z hso (by rw [kso]; rfl)) (hF.z hso (by rw [kso]; rfl)) (hF.z hso (by rw [kso]; rfl)) (hF.j hso (by rw [kso]; rfl)) (hF.z hso (by rw [kso]; rfl))
    have g134 : tk_tb f124 ba B tn := tk_tb_tr htb (fun i9 => hF.z hba (by rw [kba]; rfl))
    subst qy125
    refine q_zret cx hr hlk hB dX8_takeNumber_13 (by decide) (by decide) ?_
    exact (Or.inr ⟨rfl, (tk_nm_er1 (tk_tc_k htc hf1 ex68) (by omega) z127 z128), g133⟩)
set_option maxHeartbeats 4000000 in
set_option maxRecDepth 100000 in
theorem f_expectName (l : Launch) (g : q_G) {K : Nat → Nat} {L : List Nat} (hN : L.Nodup) {f : Nat → va_E} (hT : q_Ty g K L f) (B : Nat → Int) (so : Nat) (hso : so ∈ L) (kso : K so = 8) (ba : Nat) (hba : ba ∈ L) (kba : K ba = 142) (tn : Int) (ltn : 0 ≤ tn) (utn : tn ≤ 600) (ss : Int) (lss : 0 ≤ ss) (uss : ss ≤ 600) (hf0 : q_is (q_z f so 1) tn) (hf1 : q_is (q_z f so 8) ss) (hf2 : q_is (q_z f so 2) 0) (hf3 : q_is (q_z f so 3) (-1)) (hr0 : q_ir (q_r f so 0) ba) (htc : tk_tc f so B tn) (htb : tk_tb f ba B tn) : q_Ct l g K L yX8_expectName cX8_expectName 1 (some .boolean) 1 21 [.ref so] f [(8, 2, 3)] (q_Pi (fun (z : Int) (f1 : Nat → va_E) => (z = 1 ∧ q_is (q_z f1 so 2) 0 ∧ q_is (q_z f1 so 3) (-1) ∧ (tk_k B tn ss = 1) ∧ (tk_tc f1 so B tn)) ∨ (z = 0 ∧ q_is (q_z f1 so 2) 1 ∧ q_is (q_z f1 so 3) ss ∧ (tk_k B tn ss ≠ 1) ∧ (tk_tc f1 so B tn)))) := by
  refine q_ofb (by decide +kernel) hN hT (Nat.le_of_ble_eq_true rfl) ?_
  intro p e s m below meth c ls cx hr hlk hB hl
  have hl : lv_has ls 1 [(0, .ref so)] := hl
  obtain ⟨H, hH⟩ : ∃ H : Heap, H = s.heap := ⟨_, rfl⟩
  obtain ⟨locs, hlocs⟩ : ∃ z : List Loc, z = [] := ⟨_, rfl⟩
  rw [← hH, ← hlocs] at hB
  rw [← hH, ← hlocs]
  refine q_ald_n cx dX8_expectName_0 rfl (lv_at hl 0 rfl) ?_
  obtain ⟨x16, ex16⟩ : ∃ zz, q_is (q_z f so 6) zz := ⟨_, q_isr _⟩
  refine q_gX8_40 cx hB hso kso ex16 dX8_expectName_1 (fun lb17 ub17 => ?_)
  refine q_iconst cx dX8_expectName_4 ?_
  refine q_iceq (tgt := 16) cx ⟨by omega, by omega⟩ ⟨by decide, by decide⟩ dX8_expectName_5 (by decide) (fun c18 => ?_) (fun c18 => ?_)
  · refine q_iconst cx dX8_expectName_16 ?_
    refine lv_goto (tgt := 21) cx.1 cx.2.1 dX8_expectName_17 (by decide) ?_
    refine q_zret cx hr hlk hB dX8_expectName_21 (by decide) (by decide) ?_
    exact (Or.inl ⟨rfl, hf2, hf3, (Eq.trans (Eq.symm (tk_tc_k htc hf1 ex16)) (by omega)), htc⟩)
  · refine q_ald_n cx dX8_expectName_8 rfl (lv_at hl 0 rfl) ?_
    refine q_iconst cx dX8_expectName_9 ?_
    refine q_cVi (As := [.int (q_i 1)]) (rest := []) cx hB (fun _ h => h) hN hso kso (by decide) rfl (f_fail l g hN hB.2.1 B so hso kso 1 (by decide) (by decide) ba hba kba tn (by omega) (by omega) ss (by omega) (by omega) hf0 hf1 hr0 htc htb) q_cX8_79 q_dX8_fail (by decide) rfl rfl hl.1 rfl (Nat.le_of_ble_eq_true rfl) dX8_expectName_10 (fun y20 H locs f19 ry20 h21 hF hB => ?_)
    obtain ⟨qy20, z22, z23⟩ := h21
    have z24 : q_is (q_z f19 so 1) tn := Eq.trans (hF.z hso (by rw [kso]; rfl)) hf0
    have z25 : q_is (q_z f19 so 8) ss := Eq.trans (hF.z hso (by rw [kso]; rfl)) hf1
    have z26 : q_is (q_z f19 so 6) x16 := Eq.trans (hF.z hso (by rw [kso]; rfl)) ex16
    have z27 : q_ir (q_r f19 so 0) ba := Eq.trans (hF.r hso (by rw [kso]; rfl)) hr0
    have g28 : tk_tc f19 so B tn := tk_tc_tr htc (hF.z hso (by rw [kso]; rfl)) (hF.z hso (by rw [kso]; rfl)) (hF.z hso (by rw [kso]; rfl)) (hF.j hso (by rw [kso]; rfl)) (hF.z hso (by rw [kso]; rfl))
    have g29 : tk_tb f19 ba B tn := tk_tb_tr htb (fun i9 => hF.z hba (by rw [kba]; rfl))
    subst qy20
    refine q_ifeq (tgt := 20) cx ⟨by decide, by decide⟩ dX8_expectName_13 (by decide) (fun c30 => ?_) (fun c30 => ?_)
    · refine q_iconst cx dX8_expectName_20 ?_
      refine q_zret cx hr hlk hB dX8_expectName_21 (by decide) (by decide) ?_
      exact (Or.inr ⟨rfl, z22, z23, (fun h9 => absurd (Eq.trans (tk_tc_k htc hf1 ex16) h9) (by omega)), g28⟩)
    · exact absurd c30 (by omega)
set_option maxHeartbeats 4000000 in
set_option maxRecDepth 100000 in
theorem f_begin (l : Launch) (g : q_G) {K : Nat → Nat} {L : List Nat} (hN : L.Nodup) {f : Nat → va_E} (hT : q_Ty g K L f) (B : Nat → Int) (so : Nat) (hso : so ∈ L) (kso : K so = 8) (ba : Nat) (hba : ba ∈ L) (kba : K ba = 142) (tn : Int) (ltn : 0 ≤ tn) (utn : tn ≤ 600) (hf0 : q_is (q_z f so 1) tn) (hr0 : q_ir (q_r f so 0) ba) (htb : tk_tb f ba B tn) : q_Ct l g K L yX8_begin cX8_begin 1 none 3 62 [.ref so] f [(8, 2, 4), (8, 6, 9)] (q_Pv (fun (f1 : Nat → va_E) => q_is (q_z f1 so 2) 0 ∧ q_is (q_z f1 so 3) (-1) ∧ (q_z f1 so 8 = tk_S B tn 0) ∧ (tk_tc f1 so B tn))) := by
  refine q_ofb (by decide +kernel) hN hT (Nat.le_of_ble_eq_true rfl) ?_
  intro p e s m below meth c ls cx hr hlk hB hl
  have hl : lv_has ls 1 [(0, .ref so)] := hl
  obtain ⟨H, hH⟩ : ∃ H : Heap, H = s.heap := ⟨_, rfl⟩
  obtain ⟨locs, hlocs⟩ : ∃ z : List Loc, z = [] := ⟨_, rfl⟩
  rw [← hH, ← hlocs] at hB
  rw [← hH, ← hlocs]
  refine q_ald_n cx dX8_begin_0 rfl (lv_at hl 0 rfl) ?_
  refine q_iconst cx dX8_begin_1 ?_
  refine q_pX8_24 cx hB hso kso ⟨by decide, by decide⟩ (by decide) (by decide) rfl dX8_begin_2 (fun H locs f30 ef30 z31 hB => ?_)
  have z32 : q_is (q_z f30 so 1) tn := by rw [ef30, q_setz (Or.inr (by decide))]; exact hf0
  have z33 : q_ir (q_r f30 so 0) ba := by rw [ef30, q_setr (Or.inr (by decide))]; exact hr0
  have g34 : tk_tb f30 ba B tn := tk_tb_tr htb (fun i9 => by rw [ef30, q_setz (Or.inl (fun q => by rw [q, kso] at kba; exact absurd kba (by decide)))])
  refine q_ald_n cx dX8_begin_5 rfl (lv_at hl 0 rfl) ?_
  refine q_iconst cx dX8_begin_6 ?_
  refine q_pX8_15 cx hB hso kso ⟨by decide, by decide⟩ (by decide) (by decide) rfl dX8_begin_7 (fun H locs f35 ef35 z36 hB => ?_)
  have z37 : q_is (q_z f35 so 1) tn := by rw [ef35, q_setz (Or.inr (by decide))]; exact z32
  have z38 : q_is (q_z f35 so 2) 0 := by rw [ef35, q_setz (Or.inr (by decide))]; exact z31
  have z39 : q_ir (q_r f35 so 0) ba := by rw [ef35, q_setr (Or.inr (by decide))]; exact z33
  have g40 : tk_tb f35 ba B tn := tk_tb_tr g34 (fun i9 => by rw [ef35, q_setz (Or.inl (fun q => by rw [q, kso] at kba; exact absurd kba (by decide)))])
  refine q_ald_n cx dX8_begin_10 rfl (lv_at hl 0 rfl) ?_
  refine q_iconst cx dX8_begin_11 ?_
  refine q_pX8_27 cx hB hso kso ⟨by decide, by decide⟩ (by decide) (by decide) rfl dX8_begin_12 (fun H locs f41 ef41 z42 hB => ?_)
  have z43 : q_is (q_z f41 so 1) tn := by rw [ef41, q_setz (Or.inr (by decide))]; exact z37
  have z44 : q_is (q_z f41 so 2) 0 := by rw [ef41, q_setz (Or.inr (by decide))]; exact z38
  have z45 : q_is (q_z f41 so 3) (-1) := by rw [ef41, q_setz (Or.inr (by decide))]; exact z36
  have z46 : q_ir (q_r f41 so 0) ba := by rw [ef41, q_setr (Or.inr (by decide))]; exact z39
  have g47 : tk_tb f41 ba B tn := tk_tb_tr g40 (fun i9 => by rw [ef41, q_setz (Or.inl (fun q => by rw [q, kso] at kba; exact absurd kba (by decide)))])
  refine q_ald_n cx dX8_begin_15 rfl (lv_at hl 0 rfl) ?_
  refine q_cVv (As := []) (rest := []) cx hB (fun _ h => h) hN hso kso (by decide) rfl (f_advance l g hN hB.2.1 B so hso kso ba hba kba tn (by omega) (by omega) 0 (by decide) (by decide) z43 z42 z46 (by omega) g47) q_cX8_30 q_dX8_advance (by decide) rfl rfl hl.1 rfl (Nat.le_of_ble_eq_true rfl) dX8_begin_16 (fun H locs f48 h50 hF hB => ?_)
  obtain ⟨t51, g52⟩ := h50
  have z53 : q_is (q_z f48 so 1) tn := Eq.trans (hF.z hso (by rw [kso]; rfl)) z43
  have z54 : q_is (q_z f48 so 2) 0 := Eq.trans (hF.z hso (by rw [kso]; rfl)) z44
  have z55 : q_is (q_z f48 so 3) (-1) := Eq.trans (hF.z hso (by rw [kso]; rfl)) z45
  have z56 : q_ir (q_r f48 so 0) ba := Eq.trans (hF.r hso (by rw [kso]; rfl)) z46
  have g57 : tk_tb f48 ba B tn := tk_tb_tr g47 (fun i9 => hF.z hba (by rw [kba]; rfl))
  obtain ⟨x58, ex58⟩ : ∃ zz, q_is (q_z f48 so 8) zz := ⟨_, q_isr _⟩
  obtain ⟨lx58, ux58⟩ := q_isb ex58 (q_fib hB.2.1 hso kso (by decide) rfl)
  obtain ⟨-, l0x58, u0x58, -, -⟩ := tk_tc_n g52 ex58
  refine q_vret cx hr hlk hB dX8_begin_19 ?_
  exact ⟨z54, z55, t51, g52⟩
set_option maxHeartbeats 4000000 in
set_option maxRecDepth 100000 in
theorem f_letterOf (l : Launch) (g : q_G) {K : Nat → Nat} {L : List Nat} (hN : L.Nodup) {f : Nat → va_E} (hT : q_Ty g K L f) (wl : List Int) (p0 : Int64) (p1 : Int) (lp1 : 0 ≤ p1) (up1 : p1 ≤ 7) (hp0 : p0 = tk_cw wl) (hp1 : tk_isw wl) : q_Ct l g K L yX8_letterOf cX8_letterOf 3 (some .int) 0 0 [.long p0, .int (q_i p1)] f [] (q_Pi (fun (z : Int) (f1 : Nat → va_E) => f = f1 ∧ (z = wl.getD (Int.toNat p1) 0))) := by
  refine q_ofb (by decide +kernel) hN hT (Nat.le_of_ble_eq_true rfl) ?_
  intro p e s m below meth c ls cx hr hlk hB hl
  have hl : lv_has ls 3 [(0, .long p0), (2, .int (q_i p1))] := hl
  obtain ⟨H, hH⟩ : ∃ H : Heap, H = s.heap := ⟨_, rfl⟩
  obtain ⟨locs, hlocs⟩ : ∃ z : List Loc, z = [] := ⟨_, rfl⟩
  rw [← hH, ← hlocs] at hB
  rw [← hH, ← hlocs]
  refine q_ild_n cx dX8_letterOf_0 rfl (lv_at hl 1 rfl) ?_
  refine q_iflt (tgt := 24) cx ⟨by omega, by omega⟩ dX8_letterOf_1 (by decide) (fun c6 => ?_) (fun c6 => ?_)
  · exact absurd c6 (by omega)
  · refine q_ild_n cx dX8_letterOf_4 rfl (lv_at hl 1 rfl) ?_
    refine q_bipush cx dX8_letterOf_5 rfl ?_
    refine q_icge (tgt := 24) cx ⟨by omega, by omega⟩ ⟨by decide, by decide⟩ dX8_letterOf_7 (by decide) (fun c7 => ?_) (fun c7 => ?_)
    · exact absurd c7 (by omega)
    · refine q_lld_n cx dX8_letterOf_10 rfl (lv_at hl 0 rfl) ?_
      refine q_bipush cx dX8_letterOf_11 rfl ?_
      refine q_ild_n cx dX8_letterOf_13 rfl (lv_at hl 1 rfl) ?_
      refine q_imul cx dX8_letterOf_14 ?_
      refine lv_lshr cx.1 cx.2.1 dX8_letterOf_15 rfl ?_
      refine lv_topl (fun j8 ej8 => ?_)
      refine lv_ldc2 (v := q_l 255) cx.1 cx.2.1 cx.2.2.2.1 (cx.2.2.2.2 _ q_h759) dX8_letterOf_16 ?_
      refine lv_land cx.1 cx.2.1 dX8_letterOf_19 ?_
      refine lv_topl (fun j9 ej9 => ?_)
      refine q_l2i cx dX8_letterOf_20 (fun y10 ry10 ey10 => ?_)
      refine lv_goto (tgt := 25) cx.1 cx.2.1 dX8_letterOf_21 (by decide) ?_
      refine q_iret cx hr hlk hB dX8_letterOf_25 ⟨by omega, by omega⟩ ?_
      exact ⟨rfl, (tk_letter9 hp0 hp1 (by omega) (by omega) rfl ej8 ej9 ey10 ry10)⟩
set_option maxHeartbeats 4000000 in
set_option maxRecDepth 100000 in
theorem f_isWord_0 (l : Launch) (g : q_G) (ad : Nat → Nat) {K : Nat → Nat} {L : List Nat} (hN : L.Nodup) {f : Nat → va_E} (hT : q_Ty g K L f) (hfl : l.stackTraces = false) (B : Nat → Int) (so : Nat) (hso : so ∈ L) (kso : K so = 8) (ba : Nat) (hba : ba ∈ L) (kba : K ba = 142) (tn : Int) (ltn : 0 ≤ tn) (utn : tn ≤ 600) (ss : Int) (lss : 0 ≤ ss) (uss : ss ≤ 600) (hf0 : q_is (q_z f so 1) tn) (hf1 : q_is (q_z f so 8) ss) (hr0 : q_ir (q_r f so 0) ba) (htc : tk_tc f so B tn) (htb : tk_tb f ba B tn) : q_Xt l g ad K L yX8_isWord cX8_isWord 3 (some .boolean) 4 85 0 0 [.ref so, .ref (ad 0)] f [] (q_Pi (fun (z : Int) (f1 : Nat → va_E) => (f = f1 ∧ z = 1 ∧ (tk_isw9 B tn tk_wYear ss)) ∨ (f = f1 ∧ z = 0 ∧ (¬ tk_isw9 B tn tk_wYear ss)))) (fun (_ : String) (_ : Nat → va_E) => False) := by
  refine q_xofb (by decide +kernel) hN hT (Nat.le_of_ble_eq_true rfl) ?_
  intro p e s m below meth c ls cx hr hlk htab hX hB hl
  have hl : lv_has ls 3 [(0, .ref so), (1, .ref (ad 0))] := hl
  obtain ⟨H, hH⟩ : ∃ H : Heap, H = s.heap := ⟨_, rfl⟩
  obtain ⟨locs, hlocs⟩ : ∃ z : List Loc, z = [] := ⟨_, rfl⟩
  rw [← hH, ← hlocs] at hB
  rw [← hH, ← hlocs]
  refine q_ald_n cx dX8_isWord_0 rfl (lv_at hl 0 rfl) ?_
  obtain ⟨x61, ex61⟩ : ∃ zz, q_is (q_z f so 6) zz := ⟨_, q_isr _⟩
  refine q_gX8_40 cx hB hso kso ex61 dX8_isWord_1 (fun lb62 ub62 => ?_)
  refine q_iconst cx dX8_isWord_4 ?_
  refine q_iceq (tgt := 10) cx ⟨by omega, by omega⟩ ⟨by decide, by decide⟩ dX8_isWord_5 (by decide) (fun c63 => ?_) (fun c63 => ?_)
  · have hk9 : tk_k B tn ss = 1 := (Eq.symm (tk_tc_k htc hf1 ex61)).trans (by omega)
    have hiw9 : tk_isw (tk_w B tn ss) := tk_w_isw lss
    refine q_iconst cx dX8_isWord_10 ?_
    refine lv_istore_n (lv' := [(2, .int (q_i 0)), (0, .ref so), (1, .ref (ad 0))]) cx.1 cx.2.1 dX8_isWord_11 rfl hl (by decide) rfl (fun ls hl => ?_)
    refine q_ild_n cx dX8_isWord_12 rfl (lv_at hl 0 rfl) ?_
    refine q_bipush cx dX8_isWord_13 rfl ?_
    refine q_icge (tgt := 54) cx ⟨by decide, by decide⟩ ⟨by decide, by decide⟩ dX8_isWord_15 (by decide) (fun c64 => ?_) (fun c64 => ?_)
    · exact absurd c64 (by omega)
    · refine q_ald_n cx dX8_isWord_18 rfl (lv_at hl 1 rfl) ?_
      refine q_gX8_56 cx hB hso kso (tk_tc_w htc hf1 hk9) dX8_isWord_19 ?_
      refine q_ild_n cx dX8_isWord_22 rfl (lv_at hl 0 rfl) ?_
      refine q_cSi (As := [.long (tk_cw (tk_w B tn ss)), .int (q_i 0)]) (rest := []) cx hB (fun _ h => h) hN (f_letterOf l g hN hB.2.1 (tk_w B tn ss) (tk_cw (tk_w B tn ss)) 0 (by decide) (by decide) rfl hiw9) q_cX8_63 q_dX8_letterOf (by decide) rfl rfl hl.1 rfl (Nat.le_of_ble_eq_true rfl) dX8_isWord_23 (fun y66 H locs f65 ry66 h67 hF hB => ?_)
      obtain ⟨rfl, t68⟩ := h67
      refine q_ild_n cx dX8_isWord_26 rfl (lv_at hl 0 rfl) ?_
      refine q_ald_n cx dX8_isWord_27 rfl (lv_at hl 2 rfl) ?_
      refine q_cXT (As := []) (rest := [.int (q_i 0), .int (q_i y66)]) cx hX hB (fun _ h => h) (fun _ h _ => h) hN (q_srec hX (by decide) hB) (s_length l g ad hN hB.2.1 0 (by decide)) q_cX8_67 q_dJ0_length_8abf5 (by decide) rfl rfl hl.1 rfl (Nat.le_of_ble_eq_true rfl) dX8_isWord_28 (fun E9 ce9 q9 H locs fx hex hF hB hcell hcv hcl => ?_) (fun v9 H locs f1 h1 hF hB => ?_)
      · exact hex.elim
      obtain ⟨z9, rfl, -, rfl, h9⟩ := h1
      obtain rfl : z9 = 4 := h9.trans (by decide)
      refine W.eq (g2 := F0 m 31 ls [.int (q_i 4), .int (q_i 0), .int (q_i y66)]) rfl ?_
      refine q_icge (tgt := 42) cx ⟨by decide, by decide⟩ ⟨by decide, by decide⟩ dX8_isWord_31 (by decide) (fun c69 => ?_) (fun c69 => ?_)
      · exact absurd c69 (by omega)
      · refine q_ald_n cx dX8_isWord_34 rfl (lv_at hl 2 rfl) ?_
        refine q_ild_n cx dX8_isWord_35 rfl (lv_at hl 0 rfl) ?_
        refine q_cXT (As := [.int (q_i 0)]) (rest := [.int (q_i y66)]) cx hX hB (fun _ h => h) (fun _ h _ => h) hN (q_srec hX (by decide) hB) (s_charAt l g ad hN hB.2.1 0 (by decide) 0 (by decide) (by decide)) q_cX8_72 q_dJ0_charAt_5068e (by decide) rfl rfl hl.1 rfl (Nat.le_of_ble_eq_true rfl) dX8_isWord_36 (fun E9 ce9 q9 H locs fx hex hF hB hcell hcv hcl => ?_) (fun v9 H locs f1 h1 hF hB => ?_)
        · exact hex.elim
        obtain ⟨z9, rfl, -, rfl, h9⟩ := h1
        obtain rfl : z9 = 121 := h9.trans (by decide)
        refine W.eq (g2 := F0 m 39 ls [.int (q_i 121), .int (q_i y66)]) rfl ?_
        refine lv_goto (tgt := 43) cx.1 cx.2.1 dX8_isWord_39 (by decide) ?_
        refine q_iceq (tgt := 48) cx ⟨by omega, by omega⟩ ⟨by decide, by decide⟩ dX8_isWord_43 (by decide) (fun c70 => ?_) (fun c70 => ?_)
        · refine q_iinc (lv' := [(2, .int (q_i (0 + 1))), (0, .ref so), (1, .ref (ad 0))]) cx dX8_isWord_48 hl (k := 0) rfl (by decide) rfl (fun ls hl => ?_)
          refine lv_goto (tgt := 12) cx.1 cx.2.1 dX8_isWord_51 (by decide) ?_
          refine q_ild_n cx dX8_isWord_12 rfl (lv_at hl 0 rfl) ?_
          refine q_bipush cx dX8_isWord_13 rfl ?_
          refine q_icge (tgt := 54) cx ⟨by decide, by decide⟩ ⟨by decide, by decide⟩ dX8_isWord_15 (by decide) (fun c71 => ?_) (fun c71 => ?_)
          · exact absurd c71 (by omega)
          · refine q_ald_n cx dX8_isWord_18 rfl (lv_at hl 1 rfl) ?_
            refine q_gX8_56 cx hB hso kso (tk_tc_w htc hf1 hk9) dX8_isWord_19 ?_
            refine q_ild_n cx dX8_isWord_22 rfl (lv_at hl 0 rfl) ?_
            refine q_cSi (As := [.long (tk_cw (tk_w B tn ss)), .int (q_i (0 + 1))]) (rest := []) cx hB (fun _ h => h) hN (f_letterOf l g hN hB.2.1 (tk_w B tn ss) (tk_cw (tk_w B tn ss)) (0 + 1) (by decide) (by decide) rfl hiw9) q_cX8_63 q_dX8_letterOf (by decide) rfl rfl hl.1 rfl (Nat.le_of_ble_eq_true rfl) dX8_isWord_23 (fun y73 H locs f72 ry73 h74 hF hB => ?_)
            obtain ⟨rfl, t75⟩ := h74
            refine q_ild_n cx dX8_isWord_26 rfl (lv_at hl 0 rfl) ?_
            refine q_ald_n cx dX8_isWord_27 rfl (lv_at hl 2 rfl) ?_
            refine q_cXT (As := []) (rest := [.int (q_i (0 + 1)), .int (q_i y73)]) cx hX hB (fun _ h => h) (fun _ h _ => h) hN (q_srec hX (by decide) hB) (s_length l g ad hN hB.2.1 0 (by decide)) q_cX8_67 q_dJ0_length_8abf5 (by decide) rfl rfl hl.1 rfl (Nat.le_of_ble_eq_true rfl) dX8_isWord_28 (fun E9 ce9 q9 H locs fx hex hF hB hcell hcv hcl => ?_) (fun v9 H locs f1 h1 hF hB => ?_)
            · exact hex.elim
            obtain ⟨z9, rfl, -, rfl, h9⟩ := h1
            obtain rfl : z9 = 4 := h9.trans (by decide)
            refine W.eq (g2 := F0 m 31 ls [.int (q_i 4), .int (q_i (0 + 1)), .int (q_i y73)]) rfl ?_
            refine q_icge (tgt := 42) cx ⟨by decide, by decide⟩ ⟨by decide, by decide⟩ dX8_isWord_31 (by decide) (fun c76 => ?_) (fun c76 => ?_)
            · exact absurd c76 (by omega)
            · refine q_ald_n cx dX8_isWord_34 rfl (lv_at hl 2 rfl) ?_
              refine q_ild_n cx dX8_isWord_35 rfl (lv_at hl 0 rfl) ?_
              refine q_cXT (As := [.int (q_i (0 + 1))]) (rest := [.int (q_i y73)]) cx hX hB (fun _ h => h) (fun _ h _ => h) hN (q_srec hX (by decide) hB) (s_charAt l g ad hN hB.2.1 0 (by decide) 1 (by decide) (by decide)) q_cX8_72 q_dJ0_charAt_5068e (by decide) rfl rfl hl.1 rfl (Nat.le_of_ble_eq_true rfl) dX8_isWord_36 (fun E9 ce9 q9 H locs fx hex hF hB hcell hcv hcl => ?_) (fun v9 H locs f1 h1 hF hB => ?_)
              · exact hex.elim
              obtain ⟨z9, rfl, -, rfl, h9⟩ := h1
              obtain rfl : z9 = 101 := h9.trans (by decide)
              refine W.eq (g2 := F0 m 39 ls [.int (q_i 101), .int (q_i y73)]) rfl ?_
              refine lv_goto (tgt := 43) cx.1 cx.2.1 dX8_isWord_39 (by decide) ?_
              refine q_iceq (tgt := 48) cx ⟨by omega, by omega⟩ ⟨by decide, by decide⟩ dX8_isWord_43 (by decide) (fun c77 => ?_) (fun c77 => ?_)
              · refine q_iinc (lv' := [(2, .int (q_i ((0 + 1) + 1))), (0, .ref so), (1, .ref (ad 0))]) cx dX8_isWord_48 hl (k := 0) rfl (by decide) rfl (fun ls hl => ?_)
                refine lv_goto (tgt := 12) cx.1 cx.2.1 dX8_isWord_51 (by decide) ?_
                refine q_ild_n cx dX8_isWord_12 rfl (lv_at hl 0 rfl) ?_
                refine q_bipush cx dX8_isWord_13 rfl ?_
                refine q_icge (tgt := 54) cx ⟨by decide, by decide⟩ ⟨by decide, by decide⟩ dX8_isWord_15 (by decide) (fun c78 => ?_) (fun c78 => ?_)
                · exact absurd c78 (by omega)
                · refine q_ald_n cx dX8_isWord_18 rfl (lv_at hl 1 rfl) ?_
                  refine q_gX8_56 cx hB hso kso (tk_tc_w htc hf1 hk9) dX8_isWord_19 ?_
                  refine q_ild_n cx dX8_isWord_22 rfl (lv_at hl 0 rfl) ?_
                  refine q_cSi (As := [.long (tk_cw (tk_w B tn ss)), .int (q_i ((0 + 1) + 1))]) (rest := []) cx hB (fun _ h => h) hN (f_letterOf l g hN hB.2.1 (tk_w B tn ss) (tk_cw (tk_w B tn ss)) ((0 + 1) + 1) (by decide) (by decide) rfl hiw9) q_cX8_63 q_dX8_letterOf (by decide) rfl rfl hl.1 rfl (Nat.le_of_ble_eq_true rfl) dX8_isWord_23 (fun y80 H locs f79 ry80 h81 hF hB => ?_)
                  obtain ⟨rfl, t82⟩ := h81
                  refine q_ild_n cx dX8_isWord_26 rfl (lv_at hl 0 rfl) ?_
                  refine q_ald_n cx dX8_isWord_27 rfl (lv_at hl 2 rfl) ?_
                  refine q_cXT (As := []) (rest := [.int (q_i ((0 + 1) + 1)), .int (q_i y80)]) cx hX hB (fun _ h => h) (fun _ h _ => h) hN (q_srec hX (by decide) hB) (s_length l g ad hN hB.2.1 0 (by decide)) q_cX8_67 q_dJ0_length_8abf5 (by decide) rfl rfl hl.1 rfl (Nat.le_of_ble_eq_true rfl) dX8_isWord_28 (fun E9 ce9 q9 H locs fx hex hF hB hcell hcv hcl => ?_) (fun v9 H locs f1 h1 hF hB => ?_)
                  · exact hex.elim
                  obtain ⟨z9, rfl, -, rfl, h9⟩ := h1
                  obtain rfl : z9 = 4 := h9.trans (by decide)
                  refine W.eq (g2 := F0 m 31 ls [.int (q_i 4), .int (q_i ((0 + 1) + 1)), .int (q_i y80)]) rfl ?_
                  refine q_icge (tgt := 42) cx ⟨by decide, by decide⟩ ⟨by decide, by decide⟩ dX8_isWord_31 (by decide) (fun c83 => ?_) (fun c83 => ?_)
                  · exact absurd c83 (by omega)
                  · refine q_ald_n cx dX8_isWord_34 rfl (lv_at hl 2 rfl) ?_
                    refine q_ild_n cx dX8_isWord_35 rfl (lv_at hl 0 rfl) ?_
                    refine q_cXT (As := [.int (q_i ((0 + 1) + 1))]) (rest := [.int (q_i y80)]) cx hX hB (fun _ h => h) (fun _ h _ => h) hN (q_srec hX (by decide) hB) (s_charAt l g ad hN hB.2.1 0 (by decide) 2 (by decide) (by decide)) q_cX8_72 q_dJ0_charAt_5068e (by decide) rfl rfl hl.1 rfl (Nat.le_of_ble_eq_true rfl) dX8_isWord_36 (fun E9 ce9 q9 H locs fx hex hF hB hcell hcv hcl => ?_) (fun v9 H locs f1 h1 hF hB => ?_)
                    · exact hex.elim
                    obtain ⟨z9, rfl, -, rfl, h9⟩ := h1
                    obtain rfl : z9 = 97 := h9.trans (by decide)
                    refine W.eq (g2 := F0 m 39 ls [.int (q_i 97), .int (q_i y80)]) rfl ?_
                    refine lv_goto (tgt := 43) cx.1 cx.2.1 dX8_isWord_39 (by decide) ?_
                    refine q_iceq (tgt := 48) cx ⟨by omega, by omega⟩ ⟨by decide, by decide⟩ dX8_isWord_43 (by decide) (fun c84 => ?_) (fun c84 => ?_)
                    · refine q_iinc (lv' := [(2, .int (q_i (((0 + 1) + 1) + 1))), (0, .ref so), (1, .ref (ad 0))]) cx dX8_isWord_48 hl (k := 0) rfl (by decide) rfl (fun ls hl => ?_)
                      refine lv_goto (tgt := 12) cx.1 cx.2.1 dX8_isWord_51 (by decide) ?_
                      refine q_ild_n cx dX8_isWord_12 rfl (lv_at hl 0 rfl) ?_
                      refine q_bipush cx dX8_isWord_13 rfl ?_
                      refine q_icge (tgt := 54) cx ⟨by decide, by decide⟩ ⟨by decide, by decide⟩ dX8_isWord_15 (by decide) (fun c85 => ?_) (fun c85 => ?_)
                      · exact absurd c85 (by omega)
                      · refine q_ald_n cx dX8_isWord_18 rfl (lv_at hl 1 rfl) ?_
                        refine q_gX8_56 cx hB hso kso (tk_tc_w htc hf1 hk9) dX8_isWord_19 ?_
                        refine q_ild_n cx dX8_isWord_22 rfl (lv_at hl 0 rfl) ?_
                        refine q_cSi (As := [.long (tk_cw (tk_w B tn ss)), .int (q_i (((0 + 1) + 1) + 1))]) (rest := []) cx hB (fun _ h => h) hN (f_letterOf l g hN hB.2.1 (tk_w B tn ss) (tk_cw (tk_w B tn ss)) (((0 + 1) + 1) + 1) (by decide) (by decide) rfl hiw9) q_cX8_63 q_dX8_letterOf (by decide) rfl rfl hl.1 rfl (Nat.le_of_ble_eq_true rfl) dX8_isWord_23 (fun y87 H locs f86 ry87 h88 hF hB => ?_)
                        obtain ⟨rfl, t89⟩ := h88
                        refine q_ild_n cx dX8_isWord_26 rfl (lv_at hl 0 rfl) ?_
                        refine q_ald_n cx dX8_isWord_27 rfl (lv_at hl 2 rfl) ?_
                        refine q_cXT (As := []) (rest := [.int (q_i (((0 + 1) + 1) + 1)), .int (q_i y87)]) cx hX hB (fun _ h => h) (fun _ h _ => h) hN (q_srec hX (by decide) hB) (s_length l g ad hN hB.2.1 0 (by decide)) q_cX8_67 q_dJ0_length_8abf5 (by decide) rfl rfl hl.1 rfl (Nat.le_of_ble_eq_true rfl) dX8_isWord_28 (fun E9 ce9 q9 H locs fx hex hF hB hcell hcv hcl => ?_) (fun v9 H locs f1 h1 hF hB => ?_)
                        · exact hex.elim
                        obtain ⟨z9, rfl, -, rfl, h9⟩ := h1
                        obtain rfl : z9 = 4 := h9.trans (by decide)
                        refine W.eq (g2 := F0 m 31 ls [.int (q_i 4), .int (q_i (((0 + 1) + 1) + 1)), .int (q_i y87)]) rfl ?_
                        refine q_icge (tgt := 42) cx ⟨by decide, by decide⟩ ⟨by decide, by decide⟩ dX8_isWord_31 (by decide) (fun c90 => ?_) (fun c90 => ?_)
                        · exact absurd c90 (by omega)
                        · refine q_ald_n cx dX8_isWord_34 rfl (lv_at hl 2 rfl) ?_
                          refine q_ild_n cx dX8_isWord_35 rfl (lv_at hl 0 rfl) ?_
                          refine q_cXT (As := [.int (q_i (((0 + 1) + 1) + 1))]) (rest := [.int (q_i y87)]) cx hX hB (fun _ h => h) (fun _ h _ => h) hN (q_srec hX (by decide) hB) (s_charAt l g ad hN hB.2.1 0 (by decide) 3 (by decide) (by decide)) q_cX8_72 q_dJ0_charAt_5068e (by decide) rfl rfl hl.1 rfl (Nat.le_of_ble_eq_true rfl) dX8_isWord_36 (fun E9 ce9 q9 H locs fx hex hF hB hcell hcv hcl => ?_) (fun v9 H locs f1 h1 hF hB => ?_)
                          · exact hex.elim
                          obtain ⟨z9, rfl, -, rfl, h9⟩ := h1
                          obtain rfl : z9 = 114 := h9.trans (by decide)
                          refine W.eq (g2 := F0 m 39 ls [.int (q_i 114), .int (q_i y87)]) rfl ?_
                          refine lv_goto (tgt := 43) cx.1 cx.2.1 dX8_isWord_39 (by decide) ?_
                          refine q_iceq (tgt := 48) cx ⟨by omega, by omega⟩ ⟨by decide, by decide⟩ dX8_isWord_43 (by decide) (fun c91 => ?_) (fun c91 => ?_)
                          · refine q_iinc (lv' := [(2, .int (q_i ((((0 + 1) + 1) + 1) + 1))), (0, .ref so), (1, .ref (ad 0))]) cx dX8_isWord_48 hl (k := 0) rfl (by decide) rfl (fun ls hl => ?_)
                            refine lv_goto (tgt := 12) cx.1 cx.2.1 dX8_isWord_51 (by decide) ?_
                            refine q_ild_n cx dX8_isWord_12 rfl (lv_at hl 0 rfl) ?_
                            refine q_bipush cx dX8_isWord_13 rfl ?_
                            refine q_icge (tgt := 54) cx ⟨by decide, by decide⟩ ⟨by decide, by decide⟩ dX8_isWord_15 (by decide) (fun c92 => ?_) (fun c92 => ?_)
                            · exact absurd c92 (by omega)
                            · refine q_ald_n cx dX8_isWord_18 rfl (lv_at hl 1 rfl) ?_
                              refine q_gX8_56 cx hB hso kso (tk_tc_w htc hf1 hk9) dX8_isWord_19 ?_
                              refine q_ild_n cx dX8_isWord_22 rfl (lv_at hl 0 rfl) ?_
                              refine q_cSi (As := [.long (tk_cw (tk_w B tn ss)), .int (q_i ((((0 + 1) + 1) + 1) + 1))]) (rest := []) cx hB (fun _ h => h) hN (f_letterOf l g hN hB.2.1 (tk_w B tn ss) (tk_cw (tk_w B tn ss)) ((((0 + 1) + 1) + 1) + 1) (by decide) (by decide) rfl hiw9) q_cX8_63 q_dX8_letterOf (by decide) rfl rfl hl.1 rfl (Nat.le_of_ble_eq_true rfl) dX8_isWord_23 (fun y94 H locs f93 ry94 h95 hF hB => ?_)
                              obtain ⟨rfl, t96⟩ := h95
                              refine q_ild_n cx dX8_isWord_26 rfl (lv_at hl 0 rfl) ?_
                              refine q_ald_n cx dX8_isWord_27 rfl (lv_at hl 2 rfl) ?_
                              refine q_cXT (As := []) (rest := [.int (q_i ((((0 + 1) + 1) + 1) + 1)), .int (q_i y94)]) cx hX hB (fun _ h => h) (fun _ h _ => h) hN (q_srec hX (by decide) hB) (s_length l g ad hN hB.2.1 0 (by decide)) q_cX8_67 q_dJ0_length_8abf5 (by decide) rfl rfl hl.1 rfl (Nat.le_of_ble_eq_true rfl) dX8_isWord_28 (fun E9 ce9 q9 H locs fx hex hF hB hcell hcv hcl => ?_) (fun v9 H locs f1 h1 hF hB => ?_)
                              · exact hex.elim
                              obtain ⟨z9, rfl, -, rfl, h9⟩ := h1
                              obtain rfl : z9 = 4 := h9.trans (by decide)
                              refine W.eq (g2 := F0 m 31 ls [.int (q_i 4), .int (q_i ((((0 + 1) + 1) + 1) + 1)), .int (q_i y94)]) rfl ?_
                              refine q_icge (tgt := 42) cx ⟨by decide, by decide⟩ ⟨by decide, by decide⟩ dX8_isWord_31 (by decide) (fun c97 => ?_) (fun c97 => ?_)
                              · refine q_iconst cx dX8_isWord_42 ?_
                                refine q_iceq (tgt := 48) cx ⟨by omega, by omega⟩ ⟨by decide, by decide⟩ dX8_isWord_43 (by decide) (fun c98 => ?_) (fun c98 => ?_)
                                · refine q_iinc (lv' := [(2, .int (q_i (((((0 + 1) + 1) + 1) + 1) + 1))), (0, .ref so), (1, .ref (ad 0))]) cx dX8_isWord_48 hl (k := 0) rfl (by decide) rfl (fun ls hl => ?_)
                                  refine lv_goto (tgt := 12) cx.1 cx.2.1 dX8_isWord_51 (by decide) ?_
                                  refine q_ild_n cx dX8_isWord_12 rfl (lv_at hl 0 rfl) ?_
                                  refine q_bipush cx dX8_isWord_13 rfl ?_
                                  refine q_icge (tgt := 54) cx ⟨by decide, by decide⟩ ⟨by decide, by decide⟩ dX8_isWord_15 (by decide) (fun c99 => ?_) (fun c99 => ?_)
                                  · exact absurd c99 (by omega)
                                  · refine q_ald_n cx dX8_isWord_18 rfl (lv_at hl 1 rfl) ?_
                                    refine q_gX8_56 cx hB hso kso (tk_tc_w htc hf1 hk9) dX8_isWord_19 ?_
                                    refine q_ild_n cx dX8_isWord_22 rfl (lv_at hl 0 rfl) ?_
                                    refine q_cSi (As := [.long (tk_cw (tk_w B tn ss)), .int (q_i (((((0 + 1) + 1) + 1) + 1) + 1))]) (rest := []) cx hB (fun _ h => h) hN (f_letterOf l g hN hB.2.1 (tk_w B tn ss) (tk_cw (tk_w B tn ss)) (((((0 + 1) + 1) + 1) + 1) + 1) (by decide) (by decide) rfl hiw9) q_cX8_63 q_dX8_letterOf (by decide) rfl rfl hl.1 rfl (Nat.le_of_ble_eq_true rfl) dX8_isWord_23 (fun y101 H locs f100 ry101 h102 hF hB => ?_)
                                    obtain ⟨rfl, t103⟩ := h102
                                    refine q_ild_n cx dX8_isWord_26 rfl (lv_at hl 0 rfl) ?_
                                    refine q_ald_n cx dX8_isWord_27 rfl (lv_at hl 2 rfl) ?_
                                    refine q_cXT (As := []) (rest := [.int (q_i (((((0 + 1) + 1) + 1) + 1) + 1)), .int (q_i y101)]) cx hX hB (fun _ h => h) (fun _ h _ => h) hN (q_srec hX (by decide) hB) (s_length l g ad hN hB.2.1 0 (by decide)) q_cX8_67 q_dJ0_length_8abf5 (by decide) rfl rfl hl.1 rfl (Nat.le_of_ble_eq_true rfl) dX8_isWord_28 (fun E9 ce9 q9 H locs fx hex hF hB hcell hcv hcl => ?_) (fun v9 H locs f1 h1 hF hB => ?_)
                                    · exact hex.elim
                                    obtain ⟨z9, rfl, -, rfl, h9⟩ := h1
                                    obtain rfl : z9 = 4 := h9.trans (by decide)
                                    refine W.eq (g2 := F0 m 31 ls [.int (q_i 4), .int (q_i (((((0 + 1) + 1) + 1) + 1) + 1)), .int (q_i y101)]) rfl ?_
                                    refine q_icge (tgt := 42) cx ⟨by decide, by decide⟩ ⟨by decide, by decide⟩ dX8_isWord_31 (by decide) (fun c104 => ?_) (fun c104 => ?_)
                                    · refine q_iconst cx dX8_isWord_42 ?_
                                      refine q_iceq (tgt := 48) cx ⟨by omega, by omega⟩ ⟨by decide, by decide⟩ dX8_isWord_43 (by decide) (fun c105 => ?_) (fun c105 => ?_)
                                      · refine q_iinc (lv' := [(2, .int (q_i ((((((0 + 1) + 1) + 1) + 1) + 1) + 1))), (0, .ref so), (1, .ref (ad 0))]) cx dX8_isWord_48 hl (k := 0) rfl (by decide) rfl (fun ls hl => ?_)
                                        refine lv_goto (tgt := 12) cx.1 cx.2.1 dX8_isWord_51 (by decide) ?_
                                        refine q_ild_n cx dX8_isWord_12 rfl (lv_at hl 0 rfl) ?_
                                        refine q_bipush cx dX8_isWord_13 rfl ?_
                                        refine q_icge (tgt := 54) cx ⟨by decide, by decide⟩ ⟨by decide, by decide⟩ dX8_isWord_15 (by decide) (fun c106 => ?_) (fun c106 => ?_)
                                        · exact absurd c106 (by omega)
                                        · refine q_ald_n cx dX8_isWord_18 rfl (lv_at hl 1 rfl) ?_
                                          refine q_gX8_56 cx hB hso kso (tk_tc_w htc hf1 hk9) dX8_isWord_19 ?_
                                          refine q_ild_n cx dX8_isWord_22 rfl (lv_at hl 0 rfl) ?_
                                          refine q_cSi (As := [.long (tk_cw (tk_w B tn ss)), .int (q_i ((((((0 + 1) + 1) + 1) + 1) + 1) + 1))]) (rest := []) cx hB (fun _ h => h) hN (f_letterOf l g hN hB.2.1 (tk_w B tn ss) (tk_cw (tk_w B tn ss)) ((((((0 + 1) + 1) + 1) + 1) + 1) + 1) (by decide) (by decide) rfl hiw9) q_cX8_63 q_dX8_letterOf (by decide) rfl rfl hl.1 rfl (Nat.le_of_ble_eq_true rfl) dX8_isWord_23 (fun y108 H locs f107 ry108 h109 hF hB => ?_)
                                          obtain ⟨rfl, t110⟩ := h109
                                          refine q_ild_n cx dX8_isWord_26 rfl (lv_at hl 0 rfl) ?_
                                          refine q_ald_n cx dX8_isWord_27 rfl (lv_at hl 2 rfl) ?_
                                          refine q_cXT (As := []) (rest := [.int (q_i ((((((0 + 1) + 1) + 1) + 1) + 1) + 1)), .int (q_i y108)]) cx hX hB (fun _ h => h) (fun _ h _ => h) hN (q_srec hX (by decide) hB) (s_length l g ad hN hB.2.1 0 (by decide)) q_cX8_67 q_dJ0_length_8abf5 (by decide) rfl rfl hl.1 rfl (Nat.le_of_ble_eq_true rfl) dX8_isWord_28 (fun E9 ce9 q9 H locs fx hex hF hB hcell hcv hcl => ?_) (fun v9 H locs f1 h1 hF hB => ?_)
                                          · exact hex.elim
                                          obtain ⟨z9, rfl, -, rfl, h9⟩ := h1
                                          obtain rfl : z9 = 4 := h9.trans (by decide)
                                          refine W.eq (g2 := F0 m 31 ls [.int (q_i 4), .int (q_i ((((((0 + 1) + 1) + 1) + 1) + 1) + 1)), .int (q_i y108)]) rfl ?_
                                          refine q_icge (tgt := 42) cx ⟨by decide, by decide⟩ ⟨by decide, by decide⟩ dX8_isWord_31 (by decide) (fun c111 => ?_) (fun c111 => ?_)
                                          · refine q_iconst cx dX8_isWord_42 ?_
                                            refine q_iceq (tgt := 48) cx ⟨by omega, by omega⟩ ⟨by decide, by decide⟩ dX8_isWord_43 (by decide) (fun c112 => ?_) (fun c112 => ?_)
                                            · refine q_iinc (lv' := [(2, .int (q_i (((((((0 + 1) + 1) + 1) + 1) + 1) + 1) + 1))), (0, .ref so), (1, .ref (ad 0))]) cx dX8_isWord_48 hl (k := 0) rfl (by decide) rfl (fun ls hl => ?_)
                                              refine lv_goto (tgt := 12) cx.1 cx.2.1 dX8_isWord_51 (by decide) ?_
                                              refine q_ild_n cx dX8_isWord_12 rfl (lv_at hl 0 rfl) ?_
                                              refine q_bipush cx dX8_isWord_13 rfl ?_
                                              refine q_icge (tgt := 54) cx ⟨by decide, by decide⟩ ⟨by decide, by decide⟩ dX8_isWord_15 (by decide) (fun c113 => ?_) (fun c113 => ?_)
                                              · exact absurd c113 (by omega)
                                              · refine q_ald_n cx dX8_isWord_18 rfl (lv_at hl 1 rfl) ?_
                                                refine q_gX8_56 cx hB hso kso (tk_tc_w htc hf1 hk9) dX8_isWord_19 ?_
                                                refine q_ild_n cx dX8_isWord_22 rfl (lv_at hl 0 rfl) ?_
                                                refine q_cSi (As := [.long (tk_cw (tk_w B tn ss)), .int (q_i (((((((0 + 1) + 1) + 1) + 1) + 1) + 1) + 1))]) (rest := []) cx hB (fun _ h => h) hN (f_letterOf l g hN hB.2.1 (tk_w B tn ss) (tk_cw (tk_w B tn ss)) (((((((0 + 1) + 1) + 1) + 1) + 1) + 1) + 1) (by decide) (by decide) rfl hiw9) q_cX8_63 q_dX8_letterOf (by decide) rfl rfl hl.1 rfl (Nat.le_of_ble_eq_true rfl) dX8_isWord_23 (fun y115 H locs f114 ry115 h116 hF hB => ?_)
                                                obtain ⟨rfl, t117⟩ := h116
                                                refine q_ild_n cx dX8_isWord_26 rfl (lv_at hl 0 rfl) ?_
                                                refine q_ald_n cx dX8_isWord_27 rfl (lv_at hl 2 rfl) ?_
                                                refine q_cXT (As := []) (rest := [.int (q_i (((((((0 + 1) + 1) + 1) + 1) + 1) + 1) + 1)), .int (q_i y115)]) cx hX hB (fun _ h => h) (fun _ h _ => h) hN (q_srec hX (by decide) hB) (s_length l g ad hN hB.2.1 0 (by decide)) q_cX8_67 q_dJ0_length_8abf5 (by decide) rfl rfl hl.1 rfl (Nat.le_of_ble_eq_true rfl) dX8_isWord_28 (fun E9 ce9 q9 H locs fx hex hF hB hcell hcv hcl => ?_) (fun v9 H locs f1 h1 hF hB => ?_)
                                                · exact hex.elim
                                                obtain ⟨z9, rfl, -, rfl, h9⟩ := h1
                                                obtain rfl : z9 = 4 := h9.trans (by decide)
                                                refine W.eq (g2 := F0 m 31 ls [.int (q_i 4), .int (q_i (((((((0 + 1) + 1) + 1) + 1) + 1) + 1) + 1)), .int (q_i y115)]) rfl ?_
                                                refine q_icge (tgt := 42) cx ⟨by decide, by decide⟩ ⟨by decide, by decide⟩ dX8_isWord_31 (by decide) (fun c118 => ?_) (fun c118 => ?_)
                                                · refine q_iconst cx dX8_isWord_42 ?_
                                                  refine q_iceq (tgt := 48) cx ⟨by omega, by omega⟩ ⟨by decide, by decide⟩ dX8_isWord_43 (by decide) (fun c119 => ?_) (fun c119 => ?_)
                                                  · refine q_iinc (lv' := [(2, .int (q_i ((((((((0 + 1) + 1) + 1) + 1) + 1) + 1) + 1) + 1))), (0, .ref so), (1, .ref (ad 0))]) cx dX8_isWord_48 hl (k := 0) rfl (by decide) rfl (fun ls hl => ?_)
                                                    refine lv_goto (tgt := 12) cx.1 cx.2.1 dX8_isWord_51 (by decide) ?_
                                                    refine q_ild_n cx dX8_isWord_12 rfl (lv_at hl 0 rfl) ?_
                                                    refine q_bipush cx dX8_isWord_13 rfl ?_
                                                    refine q_icge (tgt := 54) cx ⟨by decide, by decide⟩ ⟨by decide, by decide⟩ dX8_isWord_15 (by decide) (fun c120 => ?_) (fun c120 => ?_)
                                                    · refine q_iconst cx dX8_isWord_54 ?_
                                                      refine W.widen (k := 0) (n := 0) (by decide) (by decide) ?_
                                                      refine vx_ret ?_
                                                      refine q_zret cx hr hlk hB dX8_isWord_55 (by decide) (by decide) ?_
                                                      exact (Or.inl ⟨rfl, rfl, ⟨hk9, tk_is8 hiw9 (by unfold tk_isw tk_wYear; decide) ((t68).symm.trans ((by omega : y66 = 121).trans (rfl : (121 : Int) = tk_wYear.getD 0 0))) ((t75).symm.trans ((by omega : y73 = 101).trans (rfl : (101 : Int) = tk_wYear.getD 1 0))) ((t82).symm.trans ((by omega : y80 = 97).trans (rfl : (97 : Int) = tk_wYear.getD 2 0))) ((t89).symm.trans ((by omega : y87 = 114).trans (rfl : (114 : Int) = tk_wYear.getD 3 0))) ((t96).symm.trans ((by omega : y94 = 0).trans (rfl : (0 : Int) = tk_wYear.getD 4 0))) ((t103).symm.trans ((by omega : y101 = 0).trans (rfl : (0 : Int) = tk_wYear.getD 5 0))) ((t110).symm.trans ((by omega : y108 = 0).trans (rfl : (0 : Int) = tk_wYear.getD 6 0))) ((t117).symm.trans ((by omega : y115 = 0).trans (rfl : (0 : Int) = tk_wYear.getD 7 0)))⟩⟩)
                                                    · exact absurd c120 (by omega)
                                                  · refine q_iconst cx dX8_isWord_46 ?_
                                                    refine W.widen (k := 0) (n := 0) (by decide) (by decide) ?_
                                                    refine vx_ret ?_
                                                    refine q_zret cx hr hlk hB dX8_isWord_47 (by decide) (by decide) ?_
                                                    exact (Or.inr ⟨rfl, rfl, (fun h9 => absurd ((t117).trans ((congrArg (fun l9 => List.getD l9 7 0) h9.2).trans (show tk_wYear.getD 7 0 = (0 : Int) from rfl))) (by omega))⟩)
                                                · exact absurd c118 (by omega)
                                            · refine q_iconst cx dX8_isWord_46 ?_
                                              refine W.widen (k := 0) (n := 0) (by decide) (by decide) ?_
                                              refine vx_ret ?_
                                              refine q_zret cx hr hlk hB dX8_isWord_47 (by decide) (by decide) ?_
                                              exact (Or.inr ⟨rfl, rfl, (fun h9 => absurd ((t110).trans ((congrArg (fun l9 => List.getD l9 6 0) h9.2).trans (show tk_wYear.getD 6 0 = (0 : Int) from rfl))) (by omega))⟩)
                                          · exact absurd c111 (by omega)
                                      · refine q_iconst cx dX8_isWord_46 ?_
                                        refine W.widen (k := 0) (n := 0) (by decide) (by decide) ?_
                                        refine vx_ret ?_
                                        refine q_zret cx hr hlk hB dX8_isWord_47 (by decide) (by decide) ?_
                                        exact (Or.inr ⟨rfl, rfl, (fun h9 => absurd ((t103).trans ((congrArg (fun l9 => List.getD l9 5 0) h9.2).trans (show tk_wYear.getD 5 0 = (0 : Int) from rfl))) (by omega))⟩)
                                    · exact absurd c104 (by omega)
                                · refine q_iconst cx dX8_isWord_46 ?_
                                  refine W.widen (k := 0) (n := 0) (by decide) (by decide) ?_
                                  refine vx_ret ?_
                                  refine q_zret cx hr hlk hB dX8_isWord_47 (by decide) (by decide) ?_
                                  exact (Or.inr ⟨rfl, rfl, (fun h9 => absurd ((t96).trans ((congrArg (fun l9 => List.getD l9 4 0) h9.2).trans (show tk_wYear.getD 4 0 = (0 : Int) from rfl))) (by omega))⟩)
                              · exact absurd c97 (by omega)
                          · refine q_iconst cx dX8_isWord_46 ?_
                            refine W.widen (k := 0) (n := 0) (by decide) (by decide) ?_
                            refine vx_ret ?_
                            refine q_zret cx hr hlk hB dX8_isWord_47 (by decide) (by decide) ?_
                            exact (Or.inr ⟨rfl, rfl, (fun h9 => absurd ((t89).trans ((congrArg (fun l9 => List.getD l9 3 0) h9.2).trans (show tk_wYear.getD 3 0 = (114 : Int) from rfl))) (by omega))⟩)
                    · refine q_iconst cx dX8_isWord_46 ?_
                      refine W.widen (k := 0) (n := 0) (by decide) (by decide) ?_
                      refine vx_ret ?_
                      refine q_zret cx hr hlk hB dX8_isWord_47 (by decide) (by decide) ?_
                      exact (Or.inr ⟨rfl, rfl, (fun h9 => absurd ((t82).trans ((congrArg (fun l9 => List.getD l9 2 0) h9.2).trans (show tk_wYear.getD 2 0 = (97 : Int) from rfl))) (by omega))⟩)
              · refine q_iconst cx dX8_isWord_46 ?_
                refine W.widen (k := 0) (n := 0) (by decide) (by decide) ?_
                refine vx_ret ?_
                refine q_zret cx hr hlk hB dX8_isWord_47 (by decide) (by decide) ?_
                exact (Or.inr ⟨rfl, rfl, (fun h9 => absurd ((t75).trans ((congrArg (fun l9 => List.getD l9 1 0) h9.2).trans (show tk_wYear.getD 1 0 = (101 : Int) from rfl))) (by omega))⟩)
        · refine q_iconst cx dX8_isWord_46 ?_
          refine W.widen (k := 0) (n := 0) (by decide) (by decide) ?_
          refine vx_ret ?_
          refine q_zret cx hr hlk hB dX8_isWord_47 (by decide) (by decide) ?_
          exact (Or.inr ⟨rfl, rfl, (fun h9 => absurd ((t68).trans ((congrArg (fun l9 => List.getD l9 0 0) h9.2).trans (show tk_wYear.getD 0 0 = (121 : Int) from rfl))) (by omega))⟩)
  · refine q_iconst cx dX8_isWord_8 ?_
    refine W.widen (k := 0) (n := 0) (by decide) (by decide) ?_
    refine vx_ret ?_
    refine q_zret cx hr hlk hB dX8_isWord_9 (by decide) (by decide) ?_
    exact (Or.inr ⟨rfl, rfl, (fun h9 => absurd ((tk_tc_k htc hf1 ex61).trans h9.1) (by omega))⟩)
