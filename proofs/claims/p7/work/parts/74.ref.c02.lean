theorem f_mon (l : Launch) (g : q_G) {K : Nat → Nat} {L : List Nat} (hN : L.Nodup) {f : Nat → va_E} (hT : q_Ty g K L f) (B : Nat → Int) (mo : Nat) (hmo : mo ∈ L) (kmo : K mo = 12) (bu : Nat) (hbu : bu ∈ L) (kbu : K bu = 150) (tn : Int) (ltn : 0 ≤ tn) (utn : tn ≤ 600) (ss : Int) (lss : 0 ≤ ss) (uss : ss ≤ 600) (hf0 : q_is (q_z f mo 3) tn) (hf1 : q_is (q_z f mo 5) ss) (hr0 : q_ir (q_r f mo 1) bu) (htr : tk_tr f mo B tn) (hub : tk_ub f bu B tn) : q_Ct l g K L yX12_goOn cX12_goOn 3 none 1 21 [.ref mo] f [(12, 4, 7), (12, 12, 12)] (q_Pv (fun (f1 : Nat → va_E) => (q_z f1 mo 5 = tk_nx B tn ss) ∧ (tk_tr f1 mo B tn))) := by
  have a := tk_tr_n htr hf1
  exact q_Ct_mono (f_mgoOn l g hN hT B mo hmo kmo bu hbu kbu tn ltn utn (q_z f mo 4) (by have := a.1; omega) (by have := a.1; omega) hf0 rfl hr0 (by have := a.1; omega) hub) (fun r f1 _ h => ⟨h.1, h.2.1.trans (congrArg (tk_S B tn) a.1), h.2.2⟩)
set_option maxHeartbeats 4000000 in
set_option maxRecDepth 100000 in
theorem f_misGood (l : Launch) (g : q_G) {K : Nat → Nat} {L : List Nat} (hN : L.Nodup) {f : Nat → va_E} (hT : q_Ty g K L f) (mo : Nat) (hmo : mo ∈ L) (kmo : K mo = 12) (hf0 : q_is (q_z f mo 8) 0) : q_Ct l g K L yX12_isGood cX12_isGood 1 (some .boolean) 0 0 [.ref mo] f [] (q_Pi (fun (z : Int) (f1 : Nat → va_E) => f = f1 ∧ z = 1)) := by
  refine q_ofb (by decide +kernel) hN hT (Nat.le_of_ble_eq_true rfl) ?_
  intro p e s m below meth c ls cx hr hlk hB hl
  have hl : lv_has ls 1 [(0, .ref mo)] := hl
  obtain ⟨H, hH⟩ : ∃ H : Heap, H = s.heap := ⟨_, rfl⟩
  obtain ⟨locs, hlocs⟩ : ∃ z : List Loc, z = [] := ⟨_, rfl⟩
  rw [← hH, ← hlocs] at hB
  rw [← hH, ← hlocs]
  refine q_ald_n cx dX12_isGood_0 rfl (lv_at hl 0 rfl) ?_
  refine q_gX12_127 cx hB hmo kmo hf0 dX12_isGood_1 (fun lb3 ub3 => ?_)
  refine q_ifne (tgt := 11) cx ⟨by decide, by decide⟩ dX12_isGood_4 (by decide) (fun c4 => ?_) (fun c4 => ?_)
  · exact absurd c4 (by omega)
  · refine q_iconst cx dX12_isGood_7 ?_
    refine lv_goto (tgt := 12) cx.1 cx.2.1 dX12_isGood_8 (by decide) ?_
    refine q_zret cx hr hlk hB dX12_isGood_12 (by decide) (by decide) ?_
    exact ⟨rfl, rfl⟩
set_option maxHeartbeats 4000000 in
set_option maxRecDepth 100000 in
theorem f_mwrong1 (l : Launch) (g : q_G) {K : Nat → Nat} {L : List Nat} (hN : L.Nodup) {f : Nat → va_E} (hT : q_Ty g K L f) (mo : Nat) (hmo : mo ∈ L) (kmo : K mo = 12) (a0 : Int) (la0 : 1 ≤ a0) (ua0 : a0 ≤ 1) (ss : Int) (lss : 0 ≤ ss) (uss : ss ≤ 600) (hf0 : q_is (q_z f mo 5) ss) (hf1 : q_is (q_z f mo 8) 0) (hf2 : q_is (q_z f mo 9) (-1)) : q_Ct l g K L yX12_wrong cX12_wrong 2 none 0 0 [.ref mo, .int (q_i a0)] f [(12, 8, 9)] (q_Pv (fun (f1 : Nat → va_E) => q_is (q_z f1 mo 8) 1 ∧ q_is (q_z f1 mo 9) ss)) := by
  obtain rfl : a0 = 1 := by omega
  refine q_ofb (by decide +kernel) hN hT (Nat.le_of_ble_eq_true rfl) ?_
  intro p e s m below meth c ls cx hr hlk hB hl
  have hl : lv_has ls 2 [(0, .ref mo), (1, .int (q_i 1))] := hl
  obtain ⟨H, hH⟩ : ∃ H : Heap, H = s.heap := ⟨_, rfl⟩
  obtain ⟨locs, hlocs⟩ : ∃ z : List Loc, z = [] := ⟨_, rfl⟩
  rw [← hH, ← hlocs] at hB
  rw [← hH, ← hlocs]
  refine q_ald_n cx dX12_wrong_0 rfl (lv_at hl 0 rfl) ?_
  refine q_gX12_127 cx hB hmo kmo hf1 dX12_wrong_1 (fun lb28 ub28 => ?_)
  refine q_ifle (tgt := 8) cx ⟨by decide, by decide⟩ dX12_wrong_4 (by decide) (fun c29 => ?_) (fun c29 => ?_)
  · refine q_ald_n cx dX12_wrong_8 rfl (lv_at hl 0 rfl) ?_
    refine q_ald_n cx dX12_wrong_9 rfl (lv_at hl 0 rfl) ?_
    obtain ⟨x30, ex30⟩ : ∃ zz, q_is (q_z f mo 6) zz := ⟨_, q_isr _⟩
    refine q_gX12_117 cx hB hmo kmo ex30 dX12_wrong_10 (fun lb31 ub31 => ?_)
    refine q_iconst cx dX12_wrong_13 ?_
    refine q_icne (tgt := 21) cx ⟨by omega, by omega⟩ ⟨by decide, by decide⟩ dX12_wrong_14 (by decide) (fun c32 => ?_) (fun c32 => ?_)
    · refine q_ild_n cx dX12_wrong_21 rfl (lv_at hl 1 rfl) ?_
      refine q_pX12_127 cx hB hmo kmo ⟨by decide, by decide⟩ (by decide) (by decide) rfl dX12_wrong_22 (fun H locs f33 ef33 z34 hB => ?_)
      have z35 : q_is (q_z f33 mo 5) ss := by rw [ef33, q_setz (Or.inr (by decide))]; exact hf0
      have z36 : q_is (q_z f33 mo 9) (-1) := by rw [ef33, q_setz (Or.inr (by decide))]; exact hf2
      have z37 : q_is (q_z f33 mo 6) x30 := by rw [ef33, q_setz (Or.inr (by decide))]; exact ex30
      refine q_ald_n cx dX12_wrong_25 rfl (lv_at hl 0 rfl) ?_
      refine q_ald_n cx dX12_wrong_26 rfl (lv_at hl 0 rfl) ?_
      refine q_gX12_107 cx hB hmo kmo z35 dX12_wrong_27 (fun lb38 ub38 => ?_)
      refine q_pX12_13 cx hB hmo kmo ⟨by omega, by omega⟩ (by omega) (by omega) rfl dX12_wrong_30 (fun H locs f39 ef39 z40 hB => ?_)
      have z41 : q_is (q_z f39 mo 5) ss := by rw [ef39, q_setz (Or.inr (by decide))]; exact z35
      have z42 : q_is (q_z f39 mo 6) x30 := by rw [ef39, q_setz (Or.inr (by decide))]; exact z37
      have z43 : q_is (q_z f39 mo 8) 1 := by rw [ef39, q_setz (Or.inr (by decide))]; exact z34
      refine q_vret cx hr hlk hB dX12_wrong_33 ?_
      exact ⟨z43, z40⟩
    · refine q_iconst cx dX12_wrong_17 ?_
      refine lv_goto (tgt := 22) cx.1 cx.2.1 dX12_wrong_18 (by decide) ?_
      refine q_pX12_127 cx hB hmo kmo ⟨by decide, by decide⟩ (by decide) (by decide) rfl dX12_wrong_22 (fun H locs f44 ef44 z45 hB => ?_)
      have z46 : q_is (q_z f44 mo 5) ss := by rw [ef44, q_setz (Or.inr (by decide))]; exact hf0
      have z47 : q_is (q_z f44 mo 9) (-1) := by rw [ef44, q_setz (Or.inr (by decide))]; exact hf2
      have z48 : q_is (q_z f44 mo 6) x30 := by rw [ef44, q_setz (Or.inr (by decide))]; exact ex30
      refine q_ald_n cx dX12_wrong_25 rfl (lv_at hl 0 rfl) ?_
      refine q_ald_n cx dX12_wrong_26 rfl (lv_at hl 0 rfl) ?_
      refine q_gX12_107 cx hB hmo kmo z46 dX12_wrong_27 (fun lb49 ub49 => ?_)
      refine q_pX12_13 cx hB hmo kmo ⟨by omega, by omega⟩ (by omega) (by omega) rfl dX12_wrong_30 (fun H locs f50 ef50 z51 hB => ?_)
      have z52 : q_is (q_z f50 mo 5) ss := by rw [ef50, q_setz (Or.inr (by decide))]; exact z46
      have z53 : q_is (q_z f50 mo 6) x30 := by rw [ef50, q_setz (Or.inr (by decide))]; exact z48
      have z54 : q_is (q_z f50 mo 8) 1 := by rw [ef50, q_setz (Or.inr (by decide))]; exact z45
      refine q_vret cx hr hlk hB dX12_wrong_33 ?_
      exact ⟨z54, z51⟩
  · exact absurd c29 (by omega)
set_option maxHeartbeats 4000000 in
set_option maxRecDepth 100000 in
theorem f_mwrongk (l : Launch) (g : q_G) {K : Nat → Nat} {L : List Nat} (hN : L.Nodup) {f : Nat → va_E} (hT : q_Ty g K L f) (mo : Nat) (hmo : mo ∈ L) (kmo : K mo = 12) (a0 : Int) (la0 : 1 ≤ a0) (ua0 : a0 ≤ 5) (ss : Int) (lss : 0 ≤ ss) (uss : ss ≤ 600) (so9 : Int) (lso9 : 0 ≤ so9) (uso9 : so9 ≤ 3) (hf0 : q_is (q_z f mo 5) ss) (hf1 : q_is (q_z f mo 6) so9) (hf2 : q_is (q_z f mo 8) 0) (hf3 : q_is (q_z f mo 9) (-1)) : q_Ct l g K L yX12_wrong cX12_wrong 2 none 0 0 [.ref mo, .int (q_i a0)] f [(12, 8, 9)] (q_Pv (fun (f1 : Nat → va_E) => q_is (q_z f1 mo 8) a0 ∧ q_is (q_z f1 mo 9) ss)) := by
  refine q_ofb (by decide +kernel) hN hT (Nat.le_of_ble_eq_true rfl) ?_
  intro p e s m below meth c ls cx hr hlk hB hl
  have hl : lv_has ls 2 [(0, .ref mo), (1, .int (q_i a0))] := hl
  obtain ⟨H, hH⟩ : ∃ H : Heap, H = s.heap := ⟨_, rfl⟩
  obtain ⟨locs, hlocs⟩ : ∃ z : List Loc, z = [] := ⟨_, rfl⟩
  rw [← hH, ← hlocs] at hB
  rw [← hH, ← hlocs]
  refine q_ald_n cx dX12_wrong_0 rfl (lv_at hl 0 rfl) ?_
  refine q_gX12_127 cx hB hmo kmo hf2 dX12_wrong_1 (fun lb16 ub16 => ?_)
  refine q_ifle (tgt := 8) cx ⟨by decide, by decide⟩ dX12_wrong_4 (by decide) (fun c17 => ?_) (fun c17 => ?_)
  · refine q_ald_n cx dX12_wrong_8 rfl (lv_at hl 0 rfl) ?_
    refine q_ald_n cx dX12_wrong_9 rfl (lv_at hl 0 rfl) ?_
    refine q_gX12_117 cx hB hmo kmo hf1 dX12_wrong_10 (fun lb18 ub18 => ?_)
    refine q_iconst cx dX12_wrong_13 ?_
    refine q_icne (tgt := 21) cx ⟨by omega, by omega⟩ ⟨by decide, by decide⟩ dX12_wrong_14 (by decide) (fun c19 => ?_) (fun c19 => ?_)
    · refine q_ild_n cx dX12_wrong_21 rfl (lv_at hl 1 rfl) ?_
      refine q_pX12_127 cx hB hmo kmo ⟨by omega, by omega⟩ (by omega) (by omega) rfl dX12_wrong_22 (fun H locs f20 ef20 z21 hB => ?_)
      have z22 : q_is (q_z f20 mo 5) ss := by rw [ef20, q_setz (Or.inr (by decide))]; exact hf0
      have z23 : q_is (q_z f20 mo 6) so9 := by rw [ef20, q_setz (Or.inr (by decide))]; exact hf1
      have z24 : q_is (q_z f20 mo 9) (-1) := by rw [ef20, q_setz (Or.inr (by decide))]; exact hf3
      refine q_ald_n cx dX12_wrong_25 rfl (lv_at hl 0 rfl) ?_
      refine q_ald_n cx dX12_wrong_26 rfl (lv_at hl 0 rfl) ?_
      refine q_gX12_107 cx hB hmo kmo z22 dX12_wrong_27 (fun lb25 ub25 => ?_)
      refine q_pX12_13 cx hB hmo kmo ⟨by omega, by omega⟩ (by omega) (by omega) rfl dX12_wrong_30 (fun H locs f26 ef26 z27 hB => ?_)
      have z28 : q_is (q_z f26 mo 5) ss := by rw [ef26, q_setz (Or.inr (by decide))]; exact z22
      have z29 : q_is (q_z f26 mo 6) so9 := by rw [ef26, q_setz (Or.inr (by decide))]; exact z23
      have z30 : q_is (q_z f26 mo 8) a0 := by rw [ef26, q_setz (Or.inr (by decide))]; exact z21
      refine q_vret cx hr hlk hB dX12_wrong_33 ?_
      exact ⟨z30, z27⟩
    · exact absurd c19 (by omega)
  · exact absurd c17 (by omega)
set_option maxHeartbeats 4000000 in
set_option maxRecDepth 100000 in
theorem f_misWord (l : Launch) (g : q_G) {K : Nat → Nat} {L : List Nat} (hN : L.Nodup) {f : Nat → va_E} (hT : q_Ty g K L f) (B : Nat → Int) (wl : List Int) (mo : Nat) (hmo : mo ∈ L) (kmo : K mo = 12) (w0 : Int64) (bu : Nat) (hbu : bu ∈ L) (kbu : K bu = 150) (tn : Int) (ltn : 0 ≤ tn) (utn : tn ≤ 600) (ss : Int) (lss : 0 ≤ ss) (uss : ss ≤ 600) (hf0 : q_is (q_z f mo 3) tn) (hf1 : q_is (q_z f mo 5) ss) (hf2 : q_is (q_z f mo 8) 0) (hf3 : q_is (q_z f mo 9) (-1)) (hr0 : q_ir (q_r f mo 1) bu) (hp0 : w0 = tk_mw wl) (hp1 : tk_isw wl) (htr : tk_tr f mo B tn) (hub : tk_ub f bu B tn) : q_Ct l g K L yX12_isWord cX12_isWord 3 (some .boolean) 0 0 [.ref mo, .long w0] f [] (q_Pi (fun (z : Int) (f1 : Nat → va_E) => (f = f1 ∧ z = 1 ∧ q_is (q_z f1 mo 6) 1 ∧ (tk_isw9 B tn wl ss)) ∨ (f = f1 ∧ z = 0 ∧ (¬ tk_isw9 B tn wl ss)))) := by
  refine q_ofb (by decide +kernel) hN hT (Nat.le_of_ble_eq_true rfl) ?_
  intro p e s m below meth c ls cx hr hlk hB hl
  have hl : lv_has ls 3 [(0, .ref mo), (1, .long w0)] := hl
  obtain ⟨H, hH⟩ : ∃ H : Heap, H = s.heap := ⟨_, rfl⟩
  obtain ⟨locs, hlocs⟩ : ∃ z : List Loc, z = [] := ⟨_, rfl⟩
  rw [← hH, ← hlocs] at hB
  rw [← hH, ← hlocs]
  refine q_ald_n cx dX12_isWord_0 rfl (lv_at hl 0 rfl) ?_
  refine q_gX12_127 cx hB hmo kmo hf2 dX12_isWord_1 (fun lb9 ub9 => ?_)
  refine q_ifne (tgt := 28) cx ⟨by decide, by decide⟩ dX12_isWord_4 (by decide) (fun c10 => ?_) (fun c10 => ?_)
  · exact absurd c10 (by omega)
  · refine q_ald_n cx dX12_isWord_7 rfl (lv_at hl 0 rfl) ?_
    obtain ⟨x11, ex11⟩ : ∃ zz, q_is (q_z f mo 6) zz := ⟨_, q_isr _⟩
    refine q_gX12_117 cx hB hmo kmo ex11 dX12_isWord_8 (fun lb12 ub12 => ?_)
    refine q_iconst cx dX12_isWord_11 ?_
    refine q_icne (tgt := 28) cx ⟨by omega, by omega⟩ ⟨by decide, by decide⟩ dX12_isWord_12 (by decide) (fun c13 => ?_) (fun c13 => ?_)
    · refine q_iconst cx dX12_isWord_28 ?_
      refine q_zret cx hr hlk hB dX12_isWord_29 (by decide) (by decide) ?_
      exact (Or.inr ⟨rfl, rfl, (fun h9 => absurd h9.1 (tk_so_1n (tk_tr_s htr hf1 ex11) (by omega)))⟩)
    · refine q_ald_n cx dX12_isWord_15 rfl (lv_at hl 0 rfl) ?_
      obtain ⟨j14, ej14⟩ : ∃ zz, q_j f mo 12 = zz := ⟨_, rfl⟩
      refine q_gX12_110 cx hB hmo kmo ej14 dX12_isWord_16 ?_
      refine q_lld_n cx dX12_isWord_19 rfl (lv_at hl 1 rfl) ?_
      refine q_lcmp cx dX12_isWord_20 (fun y15 ly15 uy15 ey15 gy15 hy15 => ?_)
      refine q_ifne (tgt := 28) cx ⟨by omega, by omega⟩ dX12_isWord_21 (by decide) (fun c16 => ?_) (fun c16 => ?_)
      · refine q_iconst cx dX12_isWord_28 ?_
        refine q_zret cx hr hlk hB dX12_isWord_29 (by decide) (by decide) ?_
        exact (Or.inr ⟨rfl, rfl, (fun h9 => absurd (gy15.mpr (ej14.symm.trans ((tk_tr_w htr hf1 h9.1).trans ((congrArg tk_mw h9.2).trans hp0.symm)))) (by omega))⟩)
      · refine q_iconst cx dX12_isWord_24 ?_
        refine lv_goto (tgt := 29) cx.1 cx.2.1 dX12_isWord_25 (by decide) ?_
        refine q_zret cx hr hlk hB dX12_isWord_29 (by decide) (by decide) ?_
        exact (Or.inl ⟨rfl, rfl, (Eq.trans ex11 (by omega)), ⟨tk_so_1 (tk_tr_s htr hf1 ex11) (by omega), tk_mw_inj (tk_w_isw lss).2 hp1.2 (tk_w_isw lss).1 hp1.1 ((tk_tr_w htr hf1 (tk_so_1 (tk_tr_s htr hf1 ex11) (by omega))).symm.trans (ej14.trans ((gy15.mp (by omega)).trans hp0)))⟩⟩)
set_option maxHeartbeats 4000000 in
set_option maxRecDepth 100000 in
theorem f_misSign (l : Launch) (g : q_G) {K : Nat → Nat} {L : List Nat} (hN : L.Nodup) {f : Nat → va_E} (hT : q_Ty g K L f) (B : Nat → Int) (mo : Nat) (hmo : mo ∈ L) (kmo : K mo = 12) (a0 : Int) (la0 : 40 ≤ a0) (ua0 : a0 ≤ 59) (bu : Nat) (hbu : bu ∈ L) (kbu : K bu = 150) (tn : Int) (ltn : 0 ≤ tn) (utn : tn ≤ 600) (ss : Int) (lss : 0 ≤ ss) (uss : ss ≤ 600) (hf0 : q_is (q_z f mo 3) tn) (hf1 : q_is (q_z f mo 5) ss) (hf2 : q_is (q_z f mo 8) 0) (hf3 : q_is (q_z f mo 9) (-1)) (hr0 : q_ir (q_r f mo 1) bu) (hp0 : a0 = 59 ∨ a0 = 40 ∨ a0 = 41) (htr : tk_tr f mo B tn) (hub : tk_ub f bu B tn) : q_Ct l g K L yX12_isSign cX12_isSign 2 (some .boolean) 0 0 [.ref mo, .int (q_i a0)] f [] (q_Pi (fun (z : Int) (f1 : Nat → va_E) => (f = f1 ∧ z = 1 ∧ (tk_k B tn ss = a0)) ∨ (f = f1 ∧ z = 0 ∧ (tk_k B tn ss ≠ a0)))) := by
  refine q_ofb (by decide +kernel) hN hT (Nat.le_of_ble_eq_true rfl) ?_
  intro p e s m below meth c ls cx hr hlk hB hl
  have hl : lv_has ls 2 [(0, .ref mo), (1, .int (q_i a0))] := hl
  obtain ⟨H, hH⟩ : ∃ H : Heap, H = s.heap := ⟨_, rfl⟩
  obtain ⟨locs, hlocs⟩ : ∃ z : List Loc, z = [] := ⟨_, rfl⟩
  rw [← hH, ← hlocs] at hB
  rw [← hH, ← hlocs]
  refine q_ald_n cx dX12_isSign_0 rfl (lv_at hl 0 rfl) ?_
  refine q_gX12_127 cx hB hmo kmo hf2 dX12_isSign_1 (fun lb9 ub9 => ?_)
  refine q_ifne (tgt := 27) cx ⟨by decide, by decide⟩ dX12_isSign_4 (by decide) (fun c10 => ?_) (fun c10 => ?_)
  · exact absurd c10 (by omega)
  · refine q_ald_n cx dX12_isSign_7 rfl (lv_at hl 0 rfl) ?_
    obtain ⟨x11, ex11⟩ : ∃ zz, q_is (q_z f mo 6) zz := ⟨_, q_isr _⟩
    refine q_gX12_117 cx hB hmo kmo ex11 dX12_isSign_8 (fun lb12 ub12 => ?_)
    refine q_iconst cx dX12_isSign_11 ?_
    refine q_icne (tgt := 27) cx ⟨by omega, by omega⟩ ⟨by decide, by decide⟩ dX12_isSign_12 (by decide) (fun c13 => ?_) (fun c13 => ?_)
    · refine q_iconst cx dX12_isSign_27 ?_
      refine q_zret cx hr hlk hB dX12_isSign_28 (by decide) (by decide) ?_
      exact (Or.inr ⟨rfl, rfl, (tk_so_n (tk_tr_s htr hf1 ex11) hp0 (by omega))⟩)
    · refine q_ald_n cx dX12_isSign_15 rfl (lv_at hl 0 rfl) ?_
      obtain ⟨x14, ex14⟩ : ∃ zz, q_is (q_z f mo 7) zz := ⟨_, q_isr _⟩
      refine q_gX12_114 cx hB hmo kmo ex14 dX12_isSign_16 (fun lb15 ub15 => ?_)
      refine q_ild_n cx dX12_isSign_19 rfl (lv_at hl 1 rfl) ?_
      refine q_icne (tgt := 27) cx ⟨by omega, by omega⟩ ⟨by omega, by omega⟩ dX12_isSign_20 (by decide) (fun c16 => ?_) (fun c16 => ?_)
      · refine q_iconst cx dX12_isSign_27 ?_
        refine q_zret cx hr hlk hB dX12_isSign_28 (by decide) (by decide) ?_
        exact (Or.inr ⟨rfl, rfl, (tk_so_n (tk_tr_so htr hf1 ex11 ex14) hp0 (by omega))⟩)
      · refine q_iconst cx dX12_isSign_23 ?_
        refine lv_goto (tgt := 28) cx.1 cx.2.1 dX12_isSign_24 (by decide) ?_
        refine q_zret cx hr hlk hB dX12_isSign_28 (by decide) (by decide) ?_
        exact (Or.inl ⟨rfl, rfl, (tk_so_y (tk_tr_so htr hf1 ex11 ex14) (by omega) (by omega))⟩)
set_option maxHeartbeats 4000000 in
set_option maxRecDepth 100000 in
theorem f_mmustSign (l : Launch) (g : q_G) {K : Nat → Nat} {L : List Nat} (hN : L.Nodup) {f : Nat → va_E} (hT : q_Ty g K L f) (B : Nat → Int) (mo : Nat) (hmo : mo ∈ L) (kmo : K mo = 12) (a0 : Int) (la0 : 40 ≤ a0) (ua0 : a0 ≤ 59) (bu : Nat) (hbu : bu ∈ L) (kbu : K bu = 150) (tn : Int) (ltn : 0 ≤ tn) (utn : tn ≤ 600) (ss : Int) (lss : 0 ≤ ss) (uss : ss ≤ 600) (hf0 : q_is (q_z f mo 3) tn) (hf1 : q_is (q_z f mo 5) ss) (hf2 : q_is (q_z f mo 8) 0) (hf3 : q_is (q_z f mo 9) (-1)) (hr0 : q_ir (q_r f mo 1) bu) (hp0 : a0 = 59 ∨ a0 = 40 ∨ a0 = 41) (htr : tk_tr f mo B tn) (hub : tk_ub f bu B tn) : q_Ct l g K L yX12_mustSign cX12_mustSign 2 none 2 43 [.ref mo, .int (q_i a0)] f [(12, 4, 9), (12, 12, 12)] (q_Pv (fun (f1 : Nat → va_E) => (q_is (q_z f1 mo 8) 0 ∧ q_is (q_z f1 mo 9) (-1) ∧ (tk_mk B tn a0 ss = tk_ok (q_z f1 mo 5)) ∧ (tk_tr f1 mo B tn)) ∨ (1 ≤ q_z f1 mo 8 ∧ q_z f1 mo 8 ≤ 5 ∧ (tk_mk B tn a0 ss = tk_er (q_z f1 mo 8) (q_z f1 mo 9)) ∧ (tk_tr f1 mo B tn)))) := by
  refine q_ofb (by decide +kernel) hN hT (Nat.le_of_ble_eq_true rfl) ?_
  intro p e s m below meth c ls cx hr hlk hB hl
  have hl : lv_has ls 2 [(0, .ref mo), (1, .int (q_i a0))] := hl
  obtain ⟨H, hH⟩ : ∃ H : Heap, H = s.heap := ⟨_, rfl⟩
  obtain ⟨locs, hlocs⟩ : ∃ z : List Loc, z = [] := ⟨_, rfl⟩
  rw [← hH, ← hlocs] at hB
  rw [← hH, ← hlocs]
  refine q_ald_n cx dX12_mustSign_0 rfl (lv_at hl 0 rfl) ?_
  refine q_cVi (As := []) (rest := []) cx hB (fun _ h => h) hN hmo kmo (by decide) rfl (f_misGood l g hN hB.2.1 mo hmo kmo hf2) q_cX12_130 q_dX12_isGood (by decide) rfl rfl hl.1 rfl (Nat.le_of_ble_eq_true rfl) dX12_mustSign_1 (fun y44 H locs f43 ry44 h45 hF hB => ?_)
  obtain ⟨rfl, qy44⟩ := h45
  subst qy44
  refine q_ifeq (tgt := 20) cx ⟨by decide, by decide⟩ dX12_mustSign_4 (by decide) (fun c46 => ?_) (fun c46 => ?_)
  · exact absurd c46 (by omega)
  · refine q_ald_n cx dX12_mustSign_7 rfl (lv_at hl 0 rfl) ?_
    refine q_ild_n cx dX12_mustSign_8 rfl (lv_at hl 1 rfl) ?_
    refine q_cVi (As := [.int (q_i a0)]) (rest := []) cx hB (fun _ h => h) hN hmo kmo (by decide) rfl (f_misSign l g hN hB.2.1 B mo hmo kmo a0 (by omega) (by omega) bu hbu kbu tn (by omega) (by omega) ss (by omega) (by omega) hf0 hf1 hf2 hf3 hr0 (by omega) htr hub) q_cX12_134 q_dX12_isSign (by decide) rfl rfl hl.1 rfl (Nat.le_of_ble_eq_true rfl) dX12_mustSign_9 (fun y48 H locs f47 ry48 h49 hF hB => ?_)
    rcases h49 with h50 | h51
    · obtain ⟨rfl, qy48, t52⟩ := h50
      subst qy48
      refine q_ifne (tgt := 20) cx ⟨by decide, by decide⟩ dX12_mustSign_12 (by decide) (fun c53 => ?_) (fun c53 => ?_)
      · refine q_ald_n cx dX12_mustSign_20 rfl (lv_at hl 0 rfl) ?_
        refine q_cVi (As := []) (rest := []) cx hB (fun _ h => h) hN hmo kmo (by decide) rfl (f_misGood l g hN hB.2.1 mo hmo kmo hf2) q_cX12_130 q_dX12_isGood (by decide) rfl rfl hl.1 rfl (Nat.le_of_ble_eq_true rfl) dX12_mustSign_21 (fun y55 H locs f54 ry55 h56 hF hB => ?_)
        obtain ⟨rfl, qy55⟩ := h56
        subst qy55
        refine q_ifeq (tgt := 31) cx ⟨by decide, by decide⟩ dX12_mustSign_24 (by decide) (fun c57 => ?_) (fun c57 => ?_)
        · exact absurd c57 (by omega)
        · refine q_ald_n cx dX12_mustSign_27 rfl (lv_at hl 0 rfl) ?_
          refine q_cVv (As := []) (rest := []) cx hB (fun _ h => h) hN hmo kmo (by decide) rfl (f_mon l g hN hB.2.1 B mo hmo kmo bu hbu kbu tn (by omega) (by omega) ss (by omega) (by omega) hf0 hf1 hr0 htr hub) q_cX12_140 q_dX12_goOn (by decide) rfl rfl hl.1 rfl (Nat.le_of_ble_eq_true rfl) dX12_mustSign_28 (fun H locs f58 h60 hF hB => ?_)
          obtain ⟨t61, g62⟩ := h60
          have z63 : q_is (q_z f58 mo 3) tn := Eq.trans (hF.z hmo (by rw [kmo]; rfl)) hf0
          have z64 : q_is (q_z f58 mo 8) 0 := Eq.trans (hF.z hmo (by rw [kmo]; rfl)) hf2
          have z65 : q_is (q_z f58 mo 9) (-1) := Eq.trans (hF.z hmo (by rw [kmo]; rfl)) hf3
          have z66 : q_ir (q_r f58 mo 1) bu := Eq.trans (hF.r hmo (by rw [kmo]; rfl)) hr0
          have g67 : tk_ub f58 bu B tn := tk_ub_tr hub (fun i9 => hF.z hbu (by rw [kbu]; rfl))
          obtain ⟨x68, ex68⟩ : ∃ zz, q_is (q_z f58 mo 5) zz := ⟨_, q_isr _⟩
          obtain ⟨lx68, ux68⟩ := q_isb ex68 (q_fib hB.2.1 hmo kmo (by decide) rfl)
          obtain ⟨-, l0x68, u0x68, -, -⟩ := tk_tr_n g62 ex68
          refine q_vret cx hr hlk hB dX12_mustSign_31 ?_
          exact (Or.inl ⟨z64, z65, (tk_mk_ok t52 t61), g62⟩)
      · exact absurd c53 (by omega)
    · obtain ⟨rfl, qy48, t69⟩ := h51
      subst qy48
      refine q_ifne (tgt := 20) cx ⟨by decide, by decide⟩ dX12_mustSign_12 (by decide) (fun c70 => ?_) (fun c70 => ?_)
      · exact absurd c70 (by omega)
      · refine q_ald_n cx dX12_mustSign_15 rfl (lv_at hl 0 rfl) ?_
        refine q_iconst cx dX12_mustSign_16 ?_
        refine q_cVv (As := [.int (q_i 1)]) (rest := []) cx hB (fun _ h => h) hN hmo kmo (by decide) rfl (f_mwrong1 l g hN hB.2.1 mo hmo kmo 1 (by decide) (by decide) ss (by omega) (by omega) hf1 hf2 hf3) q_cX12_137 q_dX12_wrong (by decide) rfl rfl hl.1 rfl (Nat.le_of_ble_eq_true rfl) dX12_mustSign_17 (fun H locs f71 h73 hF hB => ?_)
        obtain ⟨z74, z75⟩ := h73
        have z76 : q_is (q_z f71 mo 3) tn := Eq.trans (hF.z hmo (by rw [kmo]; rfl)) hf0
        have z77 : q_is (q_z f71 mo 5) ss := Eq.trans (hF.z hmo (by rw [kmo]; rfl)) hf1
        have z78 : q_ir (q_r f71 mo 1) bu := Eq.trans (hF.r hmo (by rw [kmo]; rfl)) hr0
        have g79 : tk_tr f71 mo B tn := tk_tr_tr htr (hF.z hmo (by rw [kmo]; rfl)) (hF.z hmo (by rw [kmo]; rfl)) (hF.z hmo (by rw [kmo]; rfl)) (hF.z hmo (by rw [kmo]; rfl)) (hF.j hmo (by rw [kmo]; rfl))
        have g80 : tk_ub f71 bu B tn := tk_ub_tr hub (fun i9 => hF.z hbu (by rw [kbu]; rfl))
        refine q_ald_n cx dX12_mustSign_20 rfl (lv_at hl 0 rfl) ?_
        refine q_cVi (As := []) (rest := []) cx hB (fun _ h => h) hN hmo kmo (by decide) rfl (r_isGood1 l g hN hB.2.1 mo hmo kmo 1 (by decide) (by decide) z74) q_cX12_130 q_dX12_isGood (by decide) rfl rfl hl.1 rfl (Nat.le_of_ble_eq_true rfl) dX12_mustSign_21 (fun y82 H locs f81 ry82 h83 hF hB => ?_)
        obtain ⟨rfl, qy82⟩ := h83
        subst qy82
        refine q_ifeq (tgt := 31) cx ⟨by decide, by decide⟩ dX12_mustSign_24 (by decide) (fun c84 => ?_) (fun c84 => ?_)
        · refine q_vret cx hr hlk hB dX12_mustSign_31 ?_
          exact (Or.inr ⟨(q_isl z74 (by omega)), (q_isu z74 (by omega)), (tk_mk_er t69 z74 z75), g79⟩)
        · exact absurd c84 (by omega)
set_option maxHeartbeats 4000000 in
set_option maxRecDepth 100000 in
theorem f_mmustWord (l : Launch) (g : q_G) {K : Nat → Nat} {L : List Nat} (hN : L.Nodup) {f : Nat → va_E} (hT : q_Ty g K L f) (B : Nat → Int) (wl : List Int) (mo : Nat) (hmo : mo ∈ L) (kmo : K mo = 12) (w0 : Int64) (bu : Nat) (hbu : bu ∈ L) (kbu : K bu = 150) (tn : Int) (ltn : 0 ≤ tn) (utn : tn ≤ 600) (ss : Int) (lss : 0 ≤ ss) (uss : ss ≤ 600) (hf0 : q_is (q_z f mo 3) tn) (hf1 : q_is (q_z f mo 5) ss) (hf2 : q_is (q_z f mo 8) 0) (hf3 : q_is (q_z f mo 9) (-1)) (hr0 : q_ir (q_r f mo 1) bu) (hp0 : w0 = tk_mw wl) (hp1 : tk_isw wl) (htr : tk_tr f mo B tn) (hub : tk_ub f bu B tn) : q_Ct l g K L yX12_mustWord cX12_mustWord 3 none 2 43 [.ref mo, .long w0] f [(12, 4, 9), (12, 12, 12)] (q_Pv (fun (f1 : Nat → va_E) => (q_is (q_z f1 mo 8) 0 ∧ q_is (q_z f1 mo 9) (-1) ∧ (tk_wd B tn wl ss = tk_ok (q_z f1 mo 5)) ∧ (tk_tr f1 mo B tn)) ∨ (1 ≤ q_z f1 mo 8 ∧ q_z f1 mo 8 ≤ 5 ∧ (tk_wd B tn wl ss = tk_er (q_z f1 mo 8) (q_z f1 mo 9)) ∧ (tk_tr f1 mo B tn)))) := by
  refine q_ofb (by decide +kernel) hN hT (Nat.le_of_ble_eq_true rfl) ?_
  intro p e s m below meth c ls cx hr hlk hB hl
  have hl : lv_has ls 3 [(0, .ref mo), (1, .long w0)] := hl
  obtain ⟨H, hH⟩ : ∃ H : Heap, H = s.heap := ⟨_, rfl⟩
  obtain ⟨locs, hlocs⟩ : ∃ z : List Loc, z = [] := ⟨_, rfl⟩
  rw [← hH, ← hlocs] at hB
  rw [← hH, ← hlocs]
  refine q_ald_n cx dX12_mustWord_0 rfl (lv_at hl 0 rfl) ?_
  refine q_cVi (As := []) (rest := []) cx hB (fun _ h => h) hN hmo kmo (by decide) rfl (f_misGood l g hN hB.2.1 mo hmo kmo hf2) q_cX12_130 q_dX12_isGood (by decide) rfl rfl hl.1 rfl (Nat.le_of_ble_eq_true rfl) dX12_mustWord_1 (fun y45 H locs f44 ry45 h46 hF hB => ?_)
  obtain ⟨rfl, qy45⟩ := h46
  subst qy45
  refine q_ifeq (tgt := 20) cx ⟨by decide, by decide⟩ dX12_mustWord_4 (by decide) (fun c47 => ?_) (fun c47 => ?_)
  · exact absurd c47 (by omega)
  · refine q_ald_n cx dX12_mustWord_7 rfl (lv_at hl 0 rfl) ?_
    refine q_lld_n cx dX12_mustWord_8 rfl (lv_at hl 1 rfl) ?_
    refine q_cVi (As := [.long w0]) (rest := []) cx hB (fun _ h => h) hN hmo kmo (by decide) rfl (f_misWord l g hN hB.2.1 B wl mo hmo kmo w0 bu hbu kbu tn (by omega) (by omega) ss (by omega) (by omega) hf0 hf1 hf2 hf3 hr0 hp0 hp1 htr hub) q_cX12_143 q_dX12_isWord (by decide) rfl rfl hl.1 rfl (Nat.le_of_ble_eq_true rfl) dX12_mustWord_9 (fun y49 H locs f48 ry49 h50 hF hB => ?_)
    rcases h50 with h51 | h52
    · obtain ⟨rfl, qy49, z53, t54⟩ := h51
      subst qy49
      refine q_ifne (tgt := 20) cx ⟨by decide, by decide⟩ dX12_mustWord_12 (by decide) (fun c55 => ?_) (fun c55 => ?_)
      · refine q_ald_n cx dX12_mustWord_20 rfl (lv_at hl 0 rfl) ?_
        refine q_cVi (As := []) (rest := []) cx hB (fun _ h => h) hN hmo kmo (by decide) rfl (f_misGood l g hN hB.2.1 mo hmo kmo hf2) q_cX12_130 q_dX12_isGood (by decide) rfl rfl hl.1 rfl (Nat.le_of_ble_eq_true rfl) dX12_mustWord_21 (fun y57 H locs f56 ry57 h58 hF hB => ?_)
        obtain ⟨rfl, qy57⟩ := h58
        subst qy57
        refine q_ifeq (tgt := 31) cx ⟨by decide, by decide⟩ dX12_mustWord_24 (by decide) (fun c59 => ?_) (fun c59 => ?_)
        · exact absurd c59 (by omega)
        · refine q_ald_n cx dX12_mustWord_27 rfl (lv_at hl 0 rfl) ?_
          refine q_cVv (As := []) (rest := []) cx hB (fun _ h => h) hN hmo kmo (by decide) rfl (f_mon l g hN hB.2.1 B mo hmo kmo bu hbu kbu tn (by omega) (by omega) ss (by omega) (by omega) hf0 hf1 hr0 htr hub) q_cX12_140 q_dX12_goOn (by decide) rfl rfl hl.1 rfl (Nat.le_of_ble_eq_true rfl) dX12_mustWord_28 (fun H locs f60 h62 hF hB => ?_)
          obtain ⟨t63, g64⟩ := h62
          have z65 : q_is (q_z f60 mo 3) tn := Eq.trans (hF.z hmo (by rw [kmo]; rfl)) hf0
          have z66 : q_is (q_z f60 mo 8) 0 := Eq.trans (hF.z hmo (by rw [kmo]; rfl)) hf2
          have z67 : q_is (q_z f60 mo 9) (-1) := Eq.trans (hF.z hmo (by rw [kmo]; rfl)) hf3
          have z68 : q_ir (q_r f60 mo 1) bu := Eq.trans (hF.r hmo (by rw [kmo]; rfl)) hr0
          have g69 : tk_ub f60 bu B tn := tk_ub_tr hub (fun i9 => hF.z hbu (by rw [kbu]; rfl))
          obtain ⟨x70, ex70⟩ : ∃ zz, q_is (q_z f60 mo 5) zz := ⟨_, q_isr _⟩
          obtain ⟨lx70, ux70⟩ := q_isb ex70 (q_fib hB.2.1 hmo kmo (by decide) rfl)
          obtain ⟨-, l0x70, u0x70, -, -⟩ := tk_tr_n g64 ex70
          refine q_vret cx hr hlk hB dX12_mustWord_31 ?_
          exact (Or.inl ⟨z66, z67, (tk_wd_ok t54 t63), g64⟩)
      · exact absurd c55 (by omega)
    · obtain ⟨rfl, qy49, t71⟩ := h52
      subst qy49
      refine q_ifne (tgt := 20) cx ⟨by decide, by decide⟩ dX12_mustWord_12 (by decide) (fun c72 => ?_) (fun c72 => ?_)
      · exact absurd c72 (by omega)
      · refine q_ald_n cx dX12_mustWord_15 rfl (lv_at hl 0 rfl) ?_
        refine q_iconst cx dX12_mustWord_16 ?_
        refine q_cVv (As := [.int (q_i 1)]) (rest := []) cx hB (fun _ h => h) hN hmo kmo (by decide) rfl (f_mwrong1 l g hN hB.2.1 mo hmo kmo 1 (by decide) (by decide) ss (by omega) (by omega) hf1 hf2 hf3) q_cX12_137 q_dX12_wrong (by decide) rfl rfl hl.1 rfl (Nat.le_of_ble_eq_true rfl) dX12_mustWord_17 (fun H locs f73 h75 hF hB => ?_)
        obtain ⟨z76, z77⟩ := h75
        have z78 : q_is (q_z f73 mo 3) tn := Eq.trans (hF.z hmo (by rw [kmo]; rfl)) hf0
        have z79 : q_is (q_z f73 mo 5) ss := Eq.trans (hF.z hmo (by rw [kmo]; rfl)) hf1
        have z80 : q_ir (q_r f73 mo 1) bu := Eq.trans (hF.r hmo (by rw [kmo]; rfl)) hr0
        have g81 : tk_tr f73 mo B tn := tk_tr_tr htr (hF.z hmo (by rw [kmo]; rfl)) (hF.z hmo (by rw [kmo]; rfl)) (hF.z hmo (by rw [kmo]; rfl)) (hF.z hmo (by rw [kmo]; rfl)) (hF.j hmo (by rw [kmo]; rfl))
        have g82 : tk_ub f73 bu B tn := tk_ub_tr hub (fun i9 => hF.z hbu (by rw [kbu]; rfl))
        refine q_ald_n cx dX12_mustWord_20 rfl (lv_at hl 0 rfl) ?_
        refine q_cVi (As := []) (rest := []) cx hB (fun _ h => h) hN hmo kmo (by decide) rfl (r_isGood1 l g hN hB.2.1 mo hmo kmo 1 (by decide) (by decide) z76) q_cX12_130 q_dX12_isGood (by decide) rfl rfl hl.1 rfl (Nat.le_of_ble_eq_true rfl) dX12_mustWord_21 (fun y84 H locs f83 ry84 h85 hF hB => ?_)
        obtain ⟨rfl, qy84⟩ := h85
        subst qy84
        refine q_ifeq (tgt := 31) cx ⟨by decide, by decide⟩ dX12_mustWord_24 (by decide) (fun c86 => ?_) (fun c86 => ?_)
        · refine q_vret cx hr hlk hB dX12_mustWord_31 ?_
          exact (Or.inr ⟨(q_isl z76 (by omega)), (q_isu z76 (by omega)), (tk_wd_er t71 z76 z77), g81⟩)
        · exact absurd c86 (by omega)
set_option maxHeartbeats 4000000 in
set_option maxRecDepth 100000 in
theorem f_mlooks (l : Launch) (g : q_G) {K : Nat → Nat} {L : List Nat} (hN : L.Nodup) {f : Nat → va_E} (hT : q_Ty g K L f) (B : Nat → Int) (mo : Nat) (hmo : mo ∈ L) (kmo : K mo = 12) (a0 : Int) (la0 : 0 ≤ a0) (ua0 : a0 ≤ 999) (b0 : Int) (lb0 : 0 ≤ b0) (ub0 : b0 ≤ 999) (bu : Nat) (hbu : bu ∈ L) (kbu : K bu = 150) (tn : Int) (ltn : 0 ≤ tn) (utn : tn ≤ 600) (ss : Int) (lss : 0 ≤ ss) (uss : ss ≤ 600) (hf0 : q_is (q_z f mo 3) tn) (hf1 : q_is (q_z f mo 5) ss) (hf2 : q_is (q_z f mo 8) 0) (hf3 : q_is (q_z f mo 9) (-1)) (hr0 : q_ir (q_r f mo 1) bu) (htr : tk_tr f mo B tn) (hub : tk_ub f bu B tn) : q_Ct l g K L yX12_looks cX12_looks 3 (some .int) 1 25 [.ref mo, .int (q_i a0), .int (q_i b0)] f [(12, 8, 9)] (q_Pi (fun (z : Int) (f1 : Nat → va_E) => (q_is (q_z f1 mo 8) 0 ∧ q_is (q_z f1 mo 9) (-1) ∧ q_is (q_z f1 mo 5) ss ∧ (tk_k B tn ss = 2) ∧ (a0 ≤ z) ∧ (z ≤ b0) ∧ (z = tk_v B tn ss) ∧ (tk_tr f1 mo B tn)) ∨ (1 ≤ q_z f1 mo 8 ∧ q_z f1 mo 8 ≤ 5 ∧ (tk_nm B tn a0 b0 ss = tk_er (q_z f1 mo 8) (q_z f1 mo 9)) ∧ (tk_tr f1 mo B tn)))) := by
  refine q_ofb (by decide +kernel) hN hT (Nat.le_of_ble_eq_true rfl) ?_
  intro p e s m below meth c ls cx hr hlk hB hl
  have hl : lv_has ls 3 [(0, .ref mo), (1, .int (q_i a0)), (2, .int (q_i b0))] := hl
  obtain ⟨H, hH⟩ : ∃ H : Heap, H = s.heap := ⟨_, rfl⟩
  obtain ⟨locs, hlocs⟩ : ∃ z : List Loc, z = [] := ⟨_, rfl⟩
  rw [← hH, ← hlocs] at hB
  rw [← hH, ← hlocs]
  refine q_ald_n cx dX12_looks_0 rfl (lv_at hl 0 rfl) ?_
  refine q_cVi (As := []) (rest := []) cx hB (fun _ h => h) hN hmo kmo (by decide) rfl (f_misGood l g hN hB.2.1 mo hmo kmo hf2) q_cX12_130 q_dX12_isGood (by decide) rfl rfl hl.1 rfl (Nat.le_of_ble_eq_true rfl) dX12_looks_1 (fun y56 H locs f55 ry56 h57 hF hB => ?_)
  obtain ⟨rfl, qy56⟩ := h57
  subst qy56
  refine q_ifeq (tgt := 20) cx ⟨by decide, by decide⟩ dX12_looks_4 (by decide) (fun c58 => ?_) (fun c58 => ?_)
  · exact absurd c58 (by omega)
  · refine q_ald_n cx dX12_looks_7 rfl (lv_at hl 0 rfl) ?_
    obtain ⟨x59, ex59⟩ : ∃ zz, q_is (q_z f mo 6) zz := ⟨_, q_isr _⟩
    refine q_gX12_117 cx hB hmo kmo ex59 dX12_looks_8 (fun lb60 ub60 => ?_)
    refine q_iconst cx dX12_looks_11 ?_
    refine q_iceq (tgt := 20) cx ⟨by omega, by omega⟩ ⟨by decide, by decide⟩ dX12_looks_12 (by decide) (fun c61 => ?_) (fun c61 => ?_)
    · refine q_ald_n cx dX12_looks_20 rfl (lv_at hl 0 rfl) ?_
      refine q_cVi (As := []) (rest := []) cx hB (fun _ h => h) hN hmo kmo (by decide) rfl (f_misGood l g hN hB.2.1 mo hmo kmo hf2) q_cX12_130 q_dX12_isGood (by decide) rfl rfl hl.1 rfl (Nat.le_of_ble_eq_true rfl) dX12_looks_21 (fun y63 H locs f62 ry63 h64 hF hB => ?_)
      obtain ⟨rfl, qy63⟩ := h64
      subst qy63
      refine q_ifeq (tgt := 47) cx ⟨by decide, by decide⟩ dX12_looks_24 (by decide) (fun c65 => ?_) (fun c65 => ?_)
      · exact absurd c65 (by omega)
      · refine q_ald_n cx dX12_looks_27 rfl (lv_at hl 0 rfl) ?_
        obtain ⟨x66, ex66⟩ : ∃ zz, q_is (q_z f mo 7) zz := ⟨_, q_isr _⟩
        refine q_gX12_114 cx hB hmo kmo ex66 dX12_looks_28 (fun lb67 ub67 => ?_)
        refine q_i2l cx ⟨by omega, by omega⟩ dX12_looks_31 ?_
        refine q_ild_n cx dX12_looks_32 rfl (lv_at hl 1 rfl) ?_
        refine q_i2l cx ⟨by omega, by omega⟩ dX12_looks_33 ?_
        refine q_ild_n cx dX12_looks_34 rfl (lv_at hl 2 rfl) ?_
        refine q_i2l cx ⟨by omega, by omega⟩ dX12_looks_35 ?_
        refine q_cSi (As := [.long (q_l x66), .long (q_l a0), .long (q_l b0)]) (rest := []) cx hB (fun _ h => h) hN (r_isIn l g hN hB.2.1 x66 (by omega) (by omega) a0 (by omega) (by omega) b0 (by omega) (by omega)) q_cX12_93 q_dX12_isIn (by decide) rfl rfl hl.1 rfl (Nat.le_of_ble_eq_true rfl) dX12_looks_36 (fun y69 H locs f68 ry69 h70 hF hB => ?_)
        rcases h70 with h71 | h72
        · obtain ⟨rfl, qy69, t73, t74⟩ := h71
          subst qy69
          refine q_ifne (tgt := 47) cx ⟨by decide, by decide⟩ dX12_looks_39 (by decide) (fun c75 => ?_) (fun c75 => ?_)
          · refine q_ald_n cx dX12_looks_47 rfl (lv_at hl 0 rfl) ?_
            refine q_gX12_114 cx hB hmo kmo ex66 dX12_looks_48 (fun lb76 ub76 => ?_)
            refine q_iret cx hr hlk hB dX12_looks_51 ⟨by omega, by omega⟩ ?_
            exact (Or.inl ⟨hf2, hf3, hf1, (tk_so_2 (tk_tr_s htr hf1 ex59) (by omega)), (by omega), (by omega), (tk_tr_v htr hf1 (tk_so_2 (tk_tr_s htr hf1 ex59) (by omega)) ex66), htr⟩)
          · exact absurd c75 (by omega)
        · obtain ⟨rfl, qy69, t77⟩ := h72
          subst qy69
          refine q_ifne (tgt := 47) cx ⟨by decide, by decide⟩ dX12_looks_39 (by decide) (fun c78 => ?_) (fun c78 => ?_)
          · exact absurd c78 (by omega)
          · refine q_ald_n cx dX12_looks_42 rfl (lv_at hl 0 rfl) ?_
            refine q_iconst cx dX12_looks_43 ?_
            refine q_cVv (As := [.int (q_i 2)]) (rest := []) cx hB (fun _ h => h) hN hmo kmo (by decide) rfl (f_mwrongk l g hN hB.2.1 mo hmo kmo 2 (by decide) (by decide) ss (by omega) (by omega) x59 (by omega) (by omega) hf1 ex59 hf2 hf3) q_cX12_137 q_dX12_wrong (by decide) rfl rfl hl.1 rfl (Nat.le_of_ble_eq_true rfl) dX12_looks_44 (fun H locs f79 h81 hF hB => ?_)
            obtain ⟨z82, z83⟩ := h81
            have z84 : q_is (q_z f79 mo 3) tn := Eq.trans (hF.z hmo (by rw [kmo]; rfl)) hf0
            have z85 : q_is (q_z f79 mo 5) ss := Eq.trans (hF.z hmo (by rw [kmo]; rfl)) hf1
            have z86 : q_is (q_z f79 mo 6) x59 := Eq.trans (hF.z hmo (by rw [kmo]; rfl)) ex59
            have z87 : q_is (q_z f79 mo 7) x66 := Eq.trans (hF.z hmo (by rw [kmo]; rfl)) ex66
            have z88 : q_ir (q_r f79 mo 1) bu := Eq.trans (hF.r hmo (by rw [kmo]; rfl)) hr0
            have g89 : tk_tr f79 mo B tn := tk_tr_tr htr (hF.z hmo (by rw [kmo]; rfl)) (hF.z hmo (by rw [kmo]; rfl)) (hF.z hmo (by rw [kmo]; rfl)) (hF.z hmo (by rw [kmo]; rfl)) (hF.j hmo (by rw [kmo]; rfl))
            have g90 : tk_ub f79 bu B tn := tk_ub_tr hub (fun i9 => hF.z hbu (by rw [kbu]; rfl))
            refine q_ald_n cx dX12_looks_47 rfl (lv_at hl 0 rfl) ?_
            refine q_gX12_114 cx hB hmo kmo z87 dX12_looks_48 (fun lb91 ub91 => ?_)
            refine q_iret cx hr hlk hB dX12_looks_51 ⟨by omega, by omega⟩ ?_
            exact (Or.inr ⟨(q_isl z82 (by omega)), (q_isu z82 (by omega)), (tk_nm_er2 rfl (tk_so_2 (tk_tr_s htr hf1 ex59) (by omega)) (tk_tr_v htr hf1 (tk_so_2 (tk_tr_s htr hf1 ex59) (by omega)) ex66) (k_nin_n t77) z82 z83), g89⟩)
    · refine q_ald_n cx dX12_looks_15 rfl (lv_at hl 0 rfl) ?_
      refine q_iconst cx dX12_looks_16 ?_
      refine q_cVv (As := [.int (q_i 1)]) (rest := []) cx hB (fun _ h => h) hN hmo kmo (by decide) rfl (f_mwrong1 l g hN hB.2.1 mo hmo kmo 1 (by decide) (by decide) ss (by omega) (by omega) hf1 hf2 hf3) q_cX12_137 q_dX12_wrong (by decide) rfl rfl hl.1 rfl (Nat.le_of_ble_eq_true rfl) dX12_looks_17 (fun H locs f92 h94 hF hB => ?_)
      obtain ⟨z95, z96⟩ := h94
      have z97 : q_is (q_z f92 mo 3) tn := Eq.trans (hF.z hmo (by rw [kmo]; rfl)) hf0
      have z98 : q_is (q_z f92 mo 5) ss := Eq.trans (hF.z hmo (by rw [kmo]; rfl)) hf1
      have z99 : q_is (q_z f92 mo 6) x59 := Eq.trans (hF.z hmo (by rw [kmo]; rfl)) ex59
      have z100 : q_ir (q_r f92 mo 1) bu := Eq.trans (hF.r hmo (by rw [kmo]; rfl)) hr0
      have g101 : tk_tr f92 mo B tn := tk_tr_tr htr (hF.z hmo (by rw [kmo]; rfl)) (hF.z hmo (by rw [kmo]; rfl)) (hF.z hmo (by rw [kmo]; rfl)) (hF.z hmo (by rw [kmo]; rfl)) (hF.j hmo (by rw [kmo]; rfl))
      have g102 : tk_ub f92 bu B tn := tk_ub_tr hub (fun i9 => hF.z hbu (by rw [kbu]; rfl))
      refine q_ald_n cx dX12_looks_20 rfl (lv_at hl 0 rfl) ?_
      refine q_cVi (As := []) (rest := []) cx hB (fun _ h => h) hN hmo kmo (by decide) rfl (r_isGood1 l g hN hB.2.1 mo hmo kmo 1 (by decide) (by decide) z95) q_cX12_130 q_dX12_isGood (by decide) rfl rfl hl.1 rfl (Nat.le_of_ble_eq_true rfl) dX12_looks_21 (fun y104 H locs f103 ry104 h105 hF hB => ?_)
      obtain ⟨rfl, qy104⟩ := h105
      subst qy104
      refine q_ifeq (tgt := 47) cx ⟨by decide, by decide⟩ dX12_looks_24 (by decide) (fun c106 => ?_) (fun c106 => ?_)
      · refine q_ald_n cx dX12_looks_47 rfl (lv_at hl 0 rfl) ?_
        obtain ⟨x107, ex107⟩ : ∃ zz, q_is (q_z f92 mo 7) zz := ⟨_, q_isr _⟩
        refine q_gX12_114 cx hB hmo kmo ex107 dX12_looks_48 (fun lb108 ub108 => ?_)
        refine q_iret cx hr hlk hB dX12_looks_51 ⟨by omega, by omega⟩ ?_
        exact (Or.inr ⟨(q_isl z95 (by omega)), (q_isu z95 (by omega)), (tk_nm_er1 rfl (tk_so_2n (tk_tr_s htr hf1 ex59) (by omega)) z95 z96), g101⟩)
      · exact absurd c106 (by omega)
set_option maxHeartbeats 4000000 in
set_option maxRecDepth 100000 in
theorem f_mnumber (l : Launch) (g : q_G) {K : Nat → Nat} {L : List Nat} (hN : L.Nodup) {f : Nat → va_E} (hT : q_Ty g K L f) (B : Nat → Int) (mo : Nat) (hmo : mo ∈ L) (kmo : K mo = 12) (a0 : Int) (la0 : 0 ≤ a0) (ua0 : a0 ≤ 999) (b0 : Int) (lb0 : 0 ≤ b0) (ub0 : b0 ≤ 999) (bu : Nat) (hbu : bu ∈ L) (kbu : K bu = 150) (tn : Int) (ltn : 0 ≤ tn) (utn : tn ≤ 600) (ss : Int) (lss : 0 ≤ ss) (uss : ss ≤ 600) (hf0 : q_is (q_z f mo 3) tn) (hf1 : q_is (q_z f mo 5) ss) (hf2 : q_is (q_z f mo 8) 0) (hf3 : q_is (q_z f mo 9) (-1)) (hr0 : q_ir (q_r f mo 1) bu) (htr : tk_tr f mo B tn) (hub : tk_ub f bu B tn) : q_Ct l g K L yX12_number cX12_number 4 (some .int) 2 47 [.ref mo, .int (q_i a0), .int (q_i b0)] f [(12, 4, 9), (12, 12, 12)] (q_Pi (fun (z : Int) (f1 : Nat → va_E) => (q_is (q_z f1 mo 8) 0 ∧ q_is (q_z f1 mo 9) (-1) ∧ (tk_nm B tn a0 b0 ss = tk_ok (q_z f1 mo 5)) ∧ (a0 ≤ z) ∧ (z ≤ b0) ∧ (tk_tr f1 mo B tn)) ∨ (1 ≤ q_z f1 mo 8 ∧ q_z f1 mo 8 ≤ 5 ∧ (tk_nm B tn a0 b0 ss = tk_er (q_z f1 mo 8) (q_z f1 mo 9)) ∧ (tk_tr f1 mo B tn)))) := by
  refine q_ofb (by decide +kernel) hN hT (Nat.le_of_ble_eq_true rfl) ?_
  intro p e s m below meth c ls cx hr hlk hB hl
  have hl : lv_has ls 4 [(0, .ref mo), (1, .int (q_i a0)), (2, .int (q_i b0))] := hl
  obtain ⟨H, hH⟩ : ∃ H : Heap, H = s.heap := ⟨_, rfl⟩
  obtain ⟨locs, hlocs⟩ : ∃ z : List Loc, z = [] := ⟨_, rfl⟩
  rw [← hH, ← hlocs] at hB
  rw [← hH, ← hlocs]
  refine q_ald_n cx dX12_number_0 rfl (lv_at hl 0 rfl) ?_
  refine q_ild_n cx dX12_number_1 rfl (lv_at hl 1 rfl) ?_
  refine q_ild_n cx dX12_number_2 rfl (lv_at hl 2 rfl) ?_
  refine q_cVi (As := [.int (q_i a0), .int (q_i b0)]) (rest := []) cx hB (fun _ h => h) hN hmo kmo (by decide) rfl (f_mlooks l g hN hB.2.1 B mo hmo kmo a0 (by omega) (by omega) b0 (by omega) (by omega) bu hbu kbu tn (by omega) (by omega) ss (by omega) (by omega) hf0 hf1 hf2 hf3 hr0 htr hub) q_cX12_147 q_dX12_looks (by decide) rfl rfl hl.1 rfl (Nat.le_of_ble_eq_true rfl) dX12_number_3 (fun y49 H locs f48 ry49 h50 hF hB => ?_)
  rcases h50 with h51 | h52
  · obtain ⟨z53, z54, z55, t56, t57, t58, t59, g60⟩ := h51
    have z61 : q_is (q_z f48 mo 3) tn := Eq.trans (hF.z hmo (by rw [kmo]; rfl)) hf0
    have z62 : q_is (q_z f48 mo 5) ss := Eq.trans (hF.z hmo (by rw [kmo]; rfl)) hf1
    have z63 : q_ir (q_r f48 mo 1) bu := Eq.trans (hF.r hmo (by rw [kmo]; rfl)) hr0
    have g64 : tk_tr f48 mo B tn := tk_tr_tr htr (hF.z hmo (by rw [kmo]; rfl)) (hF.z hmo (by rw [kmo]; rfl)) (hF.z hmo (by rw [kmo]; rfl)) (hF.z hmo (by rw [kmo]; rfl)) (hF.j hmo (by rw [kmo]; rfl))
    have g65 : tk_ub f48 bu B tn := tk_ub_tr hub (fun i9 => hF.z hbu (by rw [kbu]; rfl))
    refine lv_istore_n (lv' := [(3, .int (q_i y49)), (0, .ref mo), (1, .int (q_i a0)), (2, .int (q_i b0))]) cx.1 cx.2.1 dX12_number_6 rfl hl (by decide) rfl (fun ls hl => ?_)
    refine q_ald_n cx dX12_number_7 rfl (lv_at hl 1 rfl) ?_
    refine q_cVi (As := []) (rest := []) cx hB (fun _ h => h) hN hmo kmo (by decide) rfl (f_misGood l g hN hB.2.1 mo hmo kmo z53) q_cX12_130 q_dX12_isGood (by decide) rfl rfl hl.1 rfl (Nat.le_of_ble_eq_true rfl) dX12_number_8 (fun y67 H locs f66 ry67 h68 hF hB => ?_)
    obtain ⟨rfl, qy67⟩ := h68
    subst qy67
    refine q_ifeq (tgt := 18) cx ⟨by decide, by decide⟩ dX12_number_11 (by decide) (fun c69 => ?_) (fun c69 => ?_)
    · exact absurd c69 (by omega)
    · refine q_ald_n cx dX12_number_14 rfl (lv_at hl 1 rfl) ?_
      refine q_cVv (As := []) (rest := []) cx hB (fun _ h => h) hN hmo kmo (by decide) rfl (f_mon l g hN hB.2.1 B mo hmo kmo bu hbu kbu tn (by omega) (by omega) ss (by omega) (by omega) z61 z55 z63 g60 g65) q_cX12_140 q_dX12_goOn (by decide) rfl rfl hl.1 rfl (Nat.le_of_ble_eq_true rfl) dX12_number_15 (fun H locs f70 h72 hF hB => ?_)
      obtain ⟨t73, g74⟩ := h72
      have z75 : q_is (q_z f70 mo 3) tn := Eq.trans (hF.z hmo (by rw [kmo]; rfl)) z61
      have z76 : q_is (q_z f70 mo 8) 0 := Eq.trans (hF.z hmo (by rw [kmo]; rfl)) z53
      have z77 : q_is (q_z f70 mo 9) (-1) := Eq.trans (hF.z hmo (by rw [kmo]; rfl)) z54
      have z78 : q_ir (q_r f70 mo 1) bu := Eq.trans (hF.r hmo (by rw [kmo]; rfl)) z63
      have g79 : tk_ub f70 bu B tn := tk_ub_tr g65 (fun i9 => hF.z hbu (by rw [kbu]; rfl))
      obtain ⟨x80, ex80⟩ : ∃ zz, q_is (q_z f70 mo 5) zz := ⟨_, q_isr _⟩
      obtain ⟨lx80, ux80⟩ := q_isb ex80 (q_fib hB.2.1 hmo kmo (by decide) rfl)
      obtain ⟨-, l0x80, u0x80, -, -⟩ := tk_tr_n g74 ex80
      refine q_ild_n cx dX12_number_18 rfl (lv_at hl 0 rfl) ?_
      refine q_iret cx hr hlk hB dX12_number_19 ⟨by omega, by omega⟩ ?_
      exact (Or.inl ⟨z76, z77, (tk_nm_ok rfl t56 t59 t57 t58 t73), (by omega), (by omega), g74⟩)
  · obtain ⟨lz81, uz81, t82, g83⟩ := h52
    have z84 : q_is (q_z f48 mo 3) tn := Eq.trans (hF.z hmo (by rw [kmo]; rfl)) hf0
    have z85 : q_is (q_z f48 mo 5) ss := Eq.trans (hF.z hmo (by rw [kmo]; rfl)) hf1
    have z86 : q_ir (q_r f48 mo 1) bu := Eq.trans (hF.r hmo (by rw [kmo]; rfl)) hr0
    have g87 : tk_tr f48 mo B tn := tk_tr_tr htr (hF.z hmo (by rw [kmo]; rfl)) (hF.z hmo (by rw [kmo]; rfl)) (hF.z hmo (by rw [kmo]; rfl)) (hF.z hmo (by rw [kmo]; rfl)) (hF.j hmo (by rw [kmo]; rfl))
    have g88 : tk_ub f48 bu B tn := tk_ub_tr hub (fun i9 => hF.z hbu (by rw [kbu]; rfl))
    obtain ⟨x89, ex89⟩ : ∃ zz, q_is (q_z f48 mo 8) zz := ⟨_, q_isr _⟩
    obtain ⟨lx89, ux89⟩ := q_isb ex89 ⟨lz81, uz81⟩
    obtain ⟨x90, ex90⟩ : ∃ zz, q_is (q_z f48 mo 9) zz := ⟨_, q_isr _⟩
    obtain ⟨lx90, ux90⟩ := q_isb ex90 (q_fib hB.2.1 hmo kmo (by decide) rfl)
    refine lv_istore_n (lv' := [(3, .int (q_i y49)), (0, .ref mo), (1, .int (q_i a0)), (2, .int (q_i b0))]) cx.1 cx.2.1 dX12_number_6 rfl hl (by decide) rfl (fun ls hl => ?_)
    refine q_ald_n cx dX12_number_7 rfl (lv_at hl 1 rfl) ?_
    refine q_cVi (As := []) (rest := []) cx hB (fun _ h => h) hN hmo kmo (by decide) rfl (r_isGood1 l g hN hB.2.1 mo hmo kmo x89 (by omega) (by omega) ex89) q_cX12_130 q_dX12_isGood (by decide) rfl rfl hl.1 rfl (Nat.le_of_ble_eq_true rfl) dX12_number_8 (fun y92 H locs f91 ry92 h93 hF hB => ?_)
    obtain ⟨rfl, qy92⟩ := h93
    subst qy92
    refine q_ifeq (tgt := 18) cx ⟨by decide, by decide⟩ dX12_number_11 (by decide) (fun c94 => ?_) (fun c94 => ?_)
    · refine q_ild_n cx dX12_number_18 rfl (lv_at hl 0 rfl) ?_
      refine q_iret cx hr hlk hB dX12_number_19 ⟨by omega, by omega⟩ ?_
      exact (Or.inr ⟨(q_isl ex89 (by omega)), (q_isu ex89 (by omega)), t82, g83⟩)
    · exact absurd c94 (by omega)
set_option maxHeartbeats 4000000 in
set_option maxRecDepth 100000 in
theorem f_mmustBeWord (l : Launch) (g : q_G) {K : Nat → Nat} {L : List Nat} (hN : L.Nodup) {f : Nat → va_E} (hT : q_Ty g K L f) (B : Nat → Int) (mo : Nat) (hmo : mo ∈ L) (kmo : K mo = 12) (bu : Nat) (hbu : bu ∈ L) (kbu : K bu = 150) (tn : Int) (ltn : 0 ≤ tn) (utn : tn ≤ 600) (ss : Int) (lss : 0 ≤ ss) (uss : ss ≤ 600) (hf0 : q_is (q_z f mo 3) tn) (hf1 : q_is (q_z f mo 5) ss) (hf2 : q_is (q_z f mo 8) 0) (hf3 : q_is (q_z f mo 9) (-1)) (hr0 : q_ir (q_r f mo 1) bu) (htr : tk_tr f mo B tn) (hub : tk_ub f bu B tn) : q_Ct l g K L yX12_mustBeWord cX12_mustBeWord 1 none 1 21 [.ref mo] f [(12, 8, 9)] (q_Pv (fun (f1 : Nat → va_E) => (q_is (q_z f1 mo 8) 0 ∧ q_is (q_z f1 mo 9) (-1) ∧ q_is (q_z f1 mo 5) ss ∧ q_is (q_z f1 mo 6) 1 ∧ (tk_k B tn ss = 1) ∧ (tk_tr f1 mo B tn)) ∨ (q_is (q_z f1 mo 8) 1 ∧ q_is (q_z f1 mo 9) ss ∧ (tk_k B tn ss ≠ 1) ∧ (tk_tr f1 mo B tn)))) := by
  refine q_ofb (by decide +kernel) hN hT (Nat.le_of_ble_eq_true rfl) ?_
  intro p e s m below meth c ls cx hr hlk hB hl
  have hl : lv_has ls 1 [(0, .ref mo)] := hl
  obtain ⟨H, hH⟩ : ∃ H : Heap, H = s.heap := ⟨_, rfl⟩
  obtain ⟨locs, hlocs⟩ : ∃ z : List Loc, z = [] := ⟨_, rfl⟩
  rw [← hH, ← hlocs] at hB
  rw [← hH, ← hlocs]
  refine q_ald_n cx dX12_mustBeWord_0 rfl (lv_at hl 0 rfl) ?_
  refine q_cVi (As := []) (rest := []) cx hB (fun _ h => h) hN hmo kmo (by decide) rfl (f_misGood l g hN hB.2.1 mo hmo kmo hf2) q_cX12_130 q_dX12_isGood (by decide) rfl rfl hl.1 rfl (Nat.le_of_ble_eq_true rfl) dX12_mustBeWord_1 (fun y20 H locs f19 ry20 h21 hF hB => ?_)
  obtain ⟨rfl, qy20⟩ := h21
  subst qy20
  refine q_ifeq (tgt := 20) cx ⟨by decide, by decide⟩ dX12_mustBeWord_4 (by decide) (fun c22 => ?_) (fun c22 => ?_)
  · exact absurd c22 (by omega)
  · refine q_ald_n cx dX12_mustBeWord_7 rfl (lv_at hl 0 rfl) ?_
    obtain ⟨x23, ex23⟩ : ∃ zz, q_is (q_z f mo 6) zz := ⟨_, q_isr _⟩
    refine q_gX12_117 cx hB hmo kmo ex23 dX12_mustBeWord_8 (fun lb24 ub24 => ?_)
    refine q_iconst cx dX12_mustBeWord_11 ?_
    refine q_iceq (tgt := 20) cx ⟨by omega, by omega⟩ ⟨by decide, by decide⟩ dX12_mustBeWord_12 (by decide) (fun c25 => ?_) (fun c25 => ?_)
    · refine q_vret cx hr hlk hB dX12_mustBeWord_20 ?_
      exact (Or.inl ⟨hf2, hf3, hf1, (Eq.trans ex23 (by omega)), (tk_so_1 (tk_tr_s htr hf1 ex23) (by omega)), htr⟩)
    · refine q_ald_n cx dX12_mustBeWord_15 rfl (lv_at hl 0 rfl) ?_
      refine q_iconst cx dX12_mustBeWord_16 ?_
      refine q_cVv (As := [.int (q_i 1)]) (rest := []) cx hB (fun _ h => h) hN hmo kmo (by decide) rfl (f_mwrong1 l g hN hB.2.1 mo hmo kmo 1 (by decide) (by decide) ss (by omega) (by omega) hf1 hf2 hf3) q_cX12_137 q_dX12_wrong (by decide) rfl rfl hl.1 rfl (Nat.le_of_ble_eq_true rfl) dX12_mustBeWord_17 (fun H locs f26 h28 hF hB => ?_)
      obtain ⟨z29, z30⟩ := h28
      have z31 : q_is (q_z f26 mo 3) tn := Eq.trans (hF.z hmo (by rw [kmo]; rfl)) hf0
      have z32 : q_is (q_z f26 mo 5) ss := Eq.trans (hF.z hmo (by rw [kmo]; rfl)) hf1
      have z33 : q_is (q_z f26 mo 6) x23 := Eq.trans (hF.z hmo (by rw [kmo]; rfl)) ex23
      have z34 : q_ir (q_r f26 mo 1) bu := Eq.trans (hF.r hmo (by rw [kmo]; rfl)) hr0
      have g35 : tk_tr f26 mo B tn := tk_tr_tr htr (hF.z hmo (by rw [kmo]; rfl)) (hF.z hmo (by rw [kmo]; rfl)) (hF.z hmo (by rw [kmo]; rfl)) (hF.z hmo (by rw [kmo]; rfl)) (hF.j hmo (by rw [kmo]; rfl))
      have g36 : tk_ub f26 bu B tn := tk_ub_tr hub (fun i9 => hF.z hbu (by rw [kbu]; rfl))
      refine q_vret cx hr hlk hB dX12_mustBeWord_20 ?_
      exact (Or.inr ⟨z29, z30, (tk_so_1n (tk_tr_s htr hf1 ex23) (by omega)), g35⟩)
set_option maxHeartbeats 4000000 in
set_option maxRecDepth 100000 in
theorem f_mafter (l : Launch) (g : q_G) {K : Nat → Nat} {L : List Nat} (hN : L.Nodup) {f : Nat → va_E} (hT : q_Ty g K L f) (B : Nat → Int) (wl : List Int) (mo : Nat) (hmo : mo ∈ L) (kmo : K mo = 12) (w0 : Int64) (a1 : Int) (la1 : 0 ≤ a1) (ua1 : a1 ≤ 999) (b1 : Int) (lb1 : 0 ≤ b1) (ub1 : b1 ≤ 999) (bu : Nat) (hbu : bu ∈ L) (kbu : K bu = 150) (tn : Int) (ltn : 0 ≤ tn) (utn : tn ≤ 600) (ss : Int) (lss : 0 ≤ ss) (uss : ss ≤ 600) (hf0 : q_is (q_z f mo 3) tn) (hf1 : q_is (q_z f mo 5) ss) (hf2 : q_is (q_z f mo 8) 0) (hf3 : q_is (q_z f mo 9) (-1)) (hr0 : q_ir (q_r f mo 1) bu) (hp0 : w0 = tk_mw wl) (hp1 : tk_isw wl) (htr : tk_tr f mo B tn) (hub : tk_ub f bu B tn) : q_Ct l g K L yX12_after cX12_after 5 (some .int) 3 70 [.ref mo, .long w0, .int (q_i a1), .int (q_i b1)] f [(12, 4, 9), (12, 12, 12)] (q_Pi (fun (z : Int) (f1 : Nat → va_E) => (q_is (q_z f1 mo 8) 0 ∧ q_is (q_z f1 mo 9) (-1) ∧ (tk_af B tn wl a1 b1 ss = tk_ok (q_z f1 mo 5)) ∧ (a1 ≤ z) ∧ (z ≤ b1) ∧ (tk_tr f1 mo B tn)) ∨ (1 ≤ q_z f1 mo 8 ∧ q_z f1 mo 8 ≤ 5 ∧ (tk_af B tn wl a1 b1 ss = tk_er (q_z f1 mo 8) (q_z f1 mo 9)) ∧ (tk_tr f1 mo B tn)))) := by
  refine q_ofb (by decide +kernel) hN hT (Nat.le_of_ble_eq_true rfl) ?_
  intro p e s m below meth c ls cx hr hlk hB hl
  have hl : lv_has ls 5 [(0, .ref mo), (1, .long w0), (3, .int (q_i a1)), (4, .int (q_i b1))] := hl
  obtain ⟨H, hH⟩ : ∃ H : Heap, H = s.heap := ⟨_, rfl⟩
  obtain ⟨locs, hlocs⟩ : ∃ z : List Loc, z = [] := ⟨_, rfl⟩
  rw [← hH, ← hlocs] at hB
  rw [← hH, ← hlocs]
  refine q_ald_n cx dX12_after_0 rfl (lv_at hl 0 rfl) ?_
  refine q_lld_n cx dX12_after_1 rfl (lv_at hl 1 rfl) ?_
  refine q_cVv (As := [.long w0]) (rest := []) cx hB (fun _ h => h) hN hmo kmo (by decide) rfl (f_mmustWord l g hN hB.2.1 B wl mo hmo kmo w0 bu hbu kbu tn (by omega) (by omega) ss (by omega) (by omega) hf0 hf1 hf2 hf3 hr0 hp0 hp1 htr hub) q_cX12_189 q_dX12_mustWord (by decide) rfl rfl hl.1 rfl (Nat.le_of_ble_eq_true rfl) dX12_after_2 (fun H locs f50 h52 hF hB => ?_)
  rcases h52 with h53 | h54
  · obtain ⟨z55, z56, t57, g58⟩ := h53
    have z59 : q_is (q_z f50 mo 3) tn := Eq.trans (hF.z hmo (by rw [kmo]; rfl)) hf0
    have z60 : q_ir (q_r f50 mo 1) bu := Eq.trans (hF.r hmo (by rw [kmo]; rfl)) hr0
    have g61 : tk_ub f50 bu B tn := tk_ub_tr hub (fun i9 => hF.z hbu (by rw [kbu]; rfl))
    obtain ⟨x62, ex62⟩ : ∃ zz, q_is (q_z f50 mo 5) zz := ⟨_, q_isr _⟩
    obtain ⟨lx62, ux62⟩ := q_isb ex62 (q_fib hB.2.1 hmo kmo (by decide) rfl)
    obtain ⟨-, l0x62, u0x62, -, -⟩ := tk_tr_n g58 ex62
    refine q_ald_n cx dX12_after_5 rfl (lv_at hl 0 rfl) ?_
    refine q_ild_n cx dX12_after_6 rfl (lv_at hl 2 rfl) ?_
    refine lv_iload cx.1 cx.2.1 dX12_after_7 (lv_at hl 3 rfl) ?_
    refine q_cVi (As := [.int (q_i a1), .int (q_i b1)]) (rest := []) cx hB (fun _ h => h) hN hmo kmo (by decide) rfl (f_mnumber l g hN hB.2.1 B mo hmo kmo a1 (by omega) (by omega) b1 (by omega) (by omega) bu hbu kbu tn (by omega) (by omega) x62 (by omega) (by omega) z59 ex62 z55 z56 z60 g58 g61) q_cX12_193 q_dX12_number (by decide) rfl rfl hl.1 rfl (Nat.le_of_ble_eq_true rfl) dX12_after_9 (fun y64 H locs f63 ry64 h65 hF hB => ?_)
    rcases h65 with h66 | h67
    · obtain ⟨z68, z69, t70, t71, t72, g73⟩ := h66
      have z74 : q_is (q_z f63 mo 3) tn := Eq.trans (hF.z hmo (by rw [kmo]; rfl)) z59
      have z75 : q_ir (q_r f63 mo 1) bu := Eq.trans (hF.r hmo (by rw [kmo]; rfl)) z60
      have g76 : tk_ub f63 bu B tn := tk_ub_tr g61 (fun i9 => hF.z hbu (by rw [kbu]; rfl))
      obtain ⟨x77, ex77⟩ : ∃ zz, q_is (q_z f63 mo 5) zz := ⟨_, q_isr _⟩
      obtain ⟨lx77, ux77⟩ := q_isb ex77 (q_fib hB.2.1 hmo kmo (by decide) rfl)
      obtain ⟨-, l0x77, u0x77, -, -⟩ := tk_tr_n g73 ex77
      refine q_iret cx hr hlk hB dX12_after_12 ⟨by omega, by omega⟩ ?_
      exact (Or.inl ⟨z68, z69, (tk_af_ok (tk_okx t57 ex62) t70), (by omega), (by omega), g73⟩)
    · obtain ⟨lz78, uz78, t79, g80⟩ := h67
      have z81 : q_is (q_z f63 mo 3) tn := Eq.trans (hF.z hmo (by rw [kmo]; rfl)) z59
      have z82 : q_ir (q_r f63 mo 1) bu := Eq.trans (hF.r hmo (by rw [kmo]; rfl)) z60
      have g83 : tk_ub f63 bu B tn := tk_ub_tr g61 (fun i9 => hF.z hbu (by rw [kbu]; rfl))
      obtain ⟨x84, ex84⟩ : ∃ zz, q_is (q_z f63 mo 8) zz := ⟨_, q_isr _⟩
      obtain ⟨lx84, ux84⟩ := q_isb ex84 ⟨lz78, uz78⟩
      obtain ⟨x85, ex85⟩ : ∃ zz, q_is (q_z f63 mo 5) zz := ⟨_, q_isr _⟩
      obtain ⟨lx85, ux85⟩ := q_isb ex85 (q_fib hB.2.1 hmo kmo (by decide) rfl)
      obtain ⟨x86, ex86⟩ : ∃ zz, q_is (q_z f63 mo 9) zz := ⟨_, q_isr _⟩
      obtain ⟨lx86, ux86⟩ := q_isb ex86 (q_fib hB.2.1 hmo kmo (by decide) rfl)
      obtain ⟨-, l0x85, u0x85, -, -⟩ := tk_tr_n g80 ex85
      refine q_iret cx hr hlk hB dX12_after_12 ⟨by omega, by omega⟩ ?_
      exact (Or.inr ⟨(q_isl ex84 (by omega)), (q_isu ex84 (by omega)), (tk_af_e2 (tk_okx t57 ex62) t79), g80⟩)
  · obtain ⟨lz87, uz87, t88, g89⟩ := h54
    have z90 : q_is (q_z f50 mo 3) tn := Eq.trans (hF.z hmo (by rw [kmo]; rfl)) hf0
    have z91 : q_ir (q_r f50 mo 1) bu := Eq.trans (hF.r hmo (by rw [kmo]; rfl)) hr0
    have g92 : tk_ub f50 bu B tn := tk_ub_tr hub (fun i9 => hF.z hbu (by rw [kbu]; rfl))
    obtain ⟨x93, ex93⟩ : ∃ zz, q_is (q_z f50 mo 8) zz := ⟨_, q_isr _⟩
    obtain ⟨lx93, ux93⟩ := q_isb ex93 ⟨lz87, uz87⟩
    obtain ⟨x94, ex94⟩ : ∃ zz, q_is (q_z f50 mo 5) zz := ⟨_, q_isr _⟩
    obtain ⟨lx94, ux94⟩ := q_isb ex94 (q_fib hB.2.1 hmo kmo (by decide) rfl)
    obtain ⟨x95, ex95⟩ : ∃ zz, q_is (q_z f50 mo 9) zz := ⟨_, q_isr _⟩
    obtain ⟨lx95, ux95⟩ := q_isb ex95 (q_fib hB.2.1 hmo kmo (by decide) rfl)
    obtain ⟨-, l0x94, u0x94, -, -⟩ := tk_tr_n g89 ex94
    refine q_ald_n cx dX12_after_5 rfl (lv_at hl 0 rfl) ?_
    refine q_ild_n cx dX12_after_6 rfl (lv_at hl 2 rfl) ?_
    refine lv_iload cx.1 cx.2.1 dX12_after_7 (lv_at hl 3 rfl) ?_
    refine q_cVi (As := [.int (q_i a1), .int (q_i b1)]) (rest := []) cx hB (fun _ h => h) hN hmo kmo (by decide) rfl (r_number1 l g hN hB.2.1 mo hmo kmo a1 (by omega) (by omega) b1 (by omega) (by omega) x93 (by omega) (by omega) ex93) q_cX12_193 q_dX12_number (by decide) rfl rfl hl.1 rfl (Nat.le_of_ble_eq_true rfl) dX12_after_9 (fun y97 H locs f96 ry97 h98 hF hB => ?_)
    obtain rfl := h98
    refine q_iret cx hr hlk hB dX12_after_12 ⟨by omega, by omega⟩ ?_
    exact (Or.inr ⟨(q_isl ex93 (by omega)), (q_isu ex93 (by omega)), (tk_af_e1 t88), g89⟩)
set_option maxHeartbeats 4000000 in
set_option maxRecDepth 100000 in
theorem f_mnamed (l : Launch) (g : q_G) {K : Nat → Nat} {L : List Nat} (hN : L.Nodup) {f : Nat → va_E} (hT : q_Ty g K L f) (B : Nat → Int) (tA : tk_A) (mo : Nat) (hmo : mo ∈ L) (kmo : K mo = 12) (sr : Nat) (hsr : sr ∈ L) (ksr : K sr = 151) (nm : Nat) (hnm : nm ∈ L) (knm : K nm = 156) (tn : Int) (ltn : 0 ≤ tn) (utn : tn ≤ 600) (ss : Int) (lss : 0 ≤ ss) (uss : ss ≤ 600) (nn : Int) (lnn : 0 ≤ nn) (unn : nn ≤ 10) (hf0 : q_is (q_z f mo 3) tn) (hf1 : q_is (q_z f mo 5) ss) (hf2 : q_is (q_z f sr 0) nn) (hr0 : q_ir (q_r f mo 13) sr) (hr1 : q_ir (q_r f mo 18) nm) (hp0 : tk_k B tn ss = 1) (htr : tk_tr f mo B tn) (htm : tk_tm f mo sr nm tA) : q_Ct l g K L yX12_named cX12_named 3 (some .int) 0 0 [.ref mo] f [] (q_Pi (fun (z : Int) (f1 : Nat → va_E) => (f = f1 ∧ 0 ≤ z ∧ z ≤ 9 ∧ (tk_ix (tk_nd tA) (tk_w B tn ss) = some (Int.toNat z)) ∧ (z < nn)) ∨ (f = f1 ∧ z = (-1) ∧ (tk_ix (tk_nd tA) (tk_w B tn ss) = none)))) := by
  refine q_ofb (by decide +kernel) hN hT (Nat.le_of_ble_eq_true rfl) ?_
  intro p e s m below meth c ls cx hr hlk hB hl
  have hl : lv_has ls 3 [(0, .ref mo)] := hl
  have J4 : ∀ (n : Nat) (v4_1 : Int) (lv4_1 : (-1) ≤ v4_1) (uv4_1 : v4_1 ≤ 9) (v4_2 : Int) (lv4_2 : 0 ≤ v4_2) (uv4_2 : v4_2 ≤ 10) (hj_mo_3 : q_is (q_z f mo 3) tn) (hj_mo_5 : q_is (q_z f mo 5) ss) (hj_sr_0 : q_is (q_z f sr 0) nn) (hq_mo_13 : q_ir (q_r f mo 13) sr) (hq_mo_18 : q_ir (q_r f mo 18) nm) (htm4 : tk_tm f mo sr nm tA) (htr4 : tk_tr f mo B tn) (hrl4_0 : 0 ≤ 1 * nn + -1 * v4_2 + 0) (hrl4_1 : 1 ≤ 1 * v4_2 + -1 * v4_1 + 0) (hnl9 : tk_lm (tk_nd tA) (tk_w B tn ss) v4_2 v4_1) (hmu : (Int.toNat (2147483647 - v4_2)) < n) (H : Heap) (locs : List Loc) (hB : q_B g K L (fun q => q ∈ L) [] f f s H locs) (ls : Array Slot) (hl : lv_has ls 3 [(0, .ref mo), (1, .int (q_i v4_1)), (2, .int (q_i v4_2))]), W p l e { frames := 0, cells := 0, slots := 0, locals := 0 } s m ([.ref mo] : List Value).toArray below meth c H locs 0 0 (MQ below (q_Q g K L [] f (q_Pi (fun (z : Int) (f1 : Nat → va_E) => (f = f1 ∧ 0 ≤ z ∧ z ≤ 9 ∧ (tk_ix (tk_nd tA) (tk_w B tn ss) = some (Int.toNat z)) ∧ (z < nn)) ∨ (f = f1 ∧ z = (-1) ∧ (tk_ix (tk_nd tA) (tk_w B tn ss) = none))))) ([.ref mo] : List Value).toArray s 0 0 (fun q => q ∈ L)) (F0 m 4 ls []) := by
    intro n
    induction n with
    | zero =>
      intro v4_1 lv4_1 uv4_1 v4_2 lv4_2 uv4_2 hj_mo_3 hj_mo_5 hj_sr_0 hq_mo_13 hq_mo_18 htm4 htr4 hrl4_0 hrl4_1 hnl9 hmu
      exact absurd hmu (Nat.not_lt_zero _)
    | succ n ih4 =>
      intro v4_1 lv4_1 uv4_1 v4_2 lv4_2 uv4_2 hj_mo_3 hj_mo_5 hj_sr_0 hq_mo_13 hq_mo_18 htm4 htr4 hrl4_0 hrl4_1 hnl9 hmu H locs hB ls hl
      refine q_ild_n cx dX12_named_4 rfl (lv_at hl 2 rfl) ?_
      refine q_ald_n cx dX12_named_5 rfl (lv_at hl 0 rfl) ?_
      refine q_gX12_20 cx hB hmo kmo hq_mo_13 dX12_named_6 (fun hb100 kb100 => ?_)
      refine q_iconst cx dX12_named_9 ?_
      refine q_iald (lo := 0) (hi := 10) (n := 658) cx hB hsr ksr (by decide) rfl rfl (by decide) (by decide) (by decide) rfl hj_sr_0 dX12_named_10 (fun lb102 ub102 => ?_)
      refine q_icge (tgt := 40) cx ⟨by omega, by omega⟩ ⟨by omega, by omega⟩ dX12_named_11 (by decide) (fun c103 => ?_) (fun c103 => ?_)
      · refine q_ild_n cx dX12_named_40 rfl (lv_at hl 1 rfl) ?_
        by_cases c104 : v4_1 ≤ (-1)
        · refine q_iret cx hr hlk hB dX12_named_41 ⟨by omega, by omega⟩ ?_
          exact (Or.inr ⟨rfl, (by omega), (tk_lm_none hnl9 (by omega) (by have h7 := tk_tm_nn htm4 hj_sr_0; omega))⟩)
        · refine q_iret cx hr hlk hB dX12_named_41 ⟨by omega, by omega⟩ ?_
          exact (Or.inl ⟨rfl, (by omega), (by omega), (tk_lm_some hnl9 htm4 (by omega) (by have h7 := tk_tm_nn htm4 hj_sr_0; omega)), (by omega)⟩)
      · refine q_ald_n cx dX12_named_14 rfl (lv_at hl 0 rfl) ?_
        refine q_gX12_35 cx hB hmo kmo hq_mo_18 dX12_named_15 (fun hb105 kb105 => ?_)
        refine q_ild_n cx dX12_named_18 rfl (lv_at hl 2 rfl) ?_
        obtain ⟨j106, ej106⟩ : ∃ zz, q_j f nm (Int.toNat v4_2) = zz := ⟨_, rfl⟩
        refine q_lald (n := 10) cx hB hnm knm (by decide) rfl rfl (by omega) (by omega) (by decide) rfl ej106 dX12_named_19 ?_
        refine q_ald_n cx dX12_named_20 rfl (lv_at hl 0 rfl) ?_
        obtain ⟨j107, ej107⟩ : ∃ zz, q_j f mo 12 = zz := ⟨_, rfl⟩
        refine q_gX12_110 cx hB hmo kmo ej107 dX12_named_21 ?_
        refine q_lcmp cx dX12_named_24 (fun y108 ly108 uy108 ey108 gy108 hy108 => ?_)
        refine q_ifne (tgt := 32) cx ⟨by omega, by omega⟩ dX12_named_25 (by decide) (fun c109 => ?_) (fun c109 => ?_)
        · refine q_ild_n cx dX12_named_32 rfl (lv_at hl 1 rfl) ?_
          refine lv_istore_n (lv' := [(1, .int (q_i v4_1)), (0, .ref mo), (2, .int (q_i v4_2))]) cx.1 cx.2.1 dX12_named_33 rfl hl (by decide) rfl (fun ls hl => ?_)
          refine q_iinc (lv' := [(2, .int (q_i (v4_2 + 1))), (1, .int (q_i v4_1)), (0, .ref mo)]) cx dX12_named_34 hl (k := 2) rfl (by decide) rfl (fun ls hl => ?_)
          refine lv_goto (tgt := 4) cx.1 cx.2.1 dX12_named_37 (by decide) ?_
          exact ih4 v4_1 (by omega) (by omega) (v4_2 + 1) (by omega) (by omega) hj_mo_3 hj_mo_5 hj_sr_0 hq_mo_13 hq_mo_18 htm4 htr4 (by omega) (by omega) (tk_lm_miss hnl9 htm4 (by omega) (by have h7 := tk_tm_nn htm4 hj_sr_0; omega) ej106 (ej107.symm.trans (tk_tr_w htr4 hj_mo_5 hp0)) gy108 (by omega)) (by omega) H locs hB ls (lv_sub hl [2, 1, 0] rfl)
        · refine q_ild_n cx dX12_named_28 rfl (lv_at hl 2 rfl) ?_
          refine lv_goto (tgt := 33) cx.1 cx.2.1 dX12_named_29 (by decide) ?_
          refine lv_istore_n (lv' := [(1, .int (q_i v4_2)), (0, .ref mo), (2, .int (q_i v4_2))]) cx.1 cx.2.1 dX12_named_33 rfl hl (by decide) rfl (fun ls hl => ?_)
          refine q_iinc (lv' := [(2, .int (q_i (v4_2 + 1))), (1, .int (q_i v4_2)), (0, .ref mo)]) cx dX12_named_34 hl (k := 2) rfl (by decide) rfl (fun ls hl => ?_)
          refine lv_goto (tgt := 4) cx.1 cx.2.1 dX12_named_37 (by decide) ?_
          exact ih4 v4_2 (by omega) (by omega) (v4_2 + 1) (by omega) (by omega) hj_mo_3 hj_mo_5 hj_sr_0 hq_mo_13 hq_mo_18 htm4 htr4 (by omega) (by omega) (tk_lm_hit htm4 (by omega) (by have h7 := tk_tm_nn htm4 hj_sr_0; omega) ej106 (ej107.symm.trans (tk_tr_w htr4 hj_mo_5 hp0)) gy108 (tk_w_isw lss) (by omega)) (by omega) H locs hB ls (lv_sub hl [2, 1, 0] rfl)
  obtain ⟨H, hH⟩ : ∃ H : Heap, H = s.heap := ⟨_, rfl⟩
  obtain ⟨locs, hlocs⟩ : ∃ z : List Loc, z = [] := ⟨_, rfl⟩
  rw [← hH, ← hlocs] at hB
  rw [← hH, ← hlocs]
  refine q_iconst cx dX12_named_0 ?_
  refine lv_istore_n (lv' := [(1, .int (q_i (-1))), (0, .ref mo)]) cx.1 cx.2.1 dX12_named_1 rfl hl (by decide) rfl (fun ls hl => ?_)
  refine q_iconst cx dX12_named_2 ?_
  refine lv_istore_n (lv' := [(2, .int (q_i 0)), (1, .int (q_i (-1))), (0, .ref mo)]) cx.1 cx.2.1 dX12_named_3 rfl hl (by decide) rfl (fun ls hl => ?_)
  exact J4 ((Int.toNat (2147483647 - 0)) + 1) (-1) (by decide) (by decide) 0 (by decide) (by decide) hf0 hf1 hf2 hr0 hr1 htm htr (by omega) (by omega) tk_lm_0 (Nat.lt_succ_self _) H locs hB ls (lv_sub hl [2, 1, 0] rfl)
