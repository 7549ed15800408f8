set_option maxHeartbeats 4000000 in
set_option maxRecDepth 100000 in
theorem f_mbeginsText (l : Launch) (g : q_G) {K : Nat → Nat} {L : List Nat} (hN : L.Nodup) {f : Nat → va_E} (hT : q_Ty g K L f) (B : Nat → Int) (mo : Nat) (hmo : mo ∈ L) (kmo : K mo = 12) (bu : Nat) (hbu : bu ∈ L) (kbu : K bu = 150) (tn : Int) (ltn : 0 ≤ tn) (utn : tn ≤ 600) (hf0 : q_is (q_z f mo 2) tn) (hr0 : q_ir (q_r f mo 1) bu) (hub : tk_ub f bu B tn) : q_Ct l g K L yX12_beginsText cX12_beginsText 1 none 2 43 [.ref mo] f [(12, 2, 9), (12, 12, 12)] (q_Pv (fun (f1 : Nat → va_E) => q_is (q_z f1 mo 8) 0 ∧ q_is (q_z f1 mo 9) (-1) ∧ q_is (q_z f1 mo 2) 0 ∧ q_is (q_z f1 mo 3) tn ∧ (q_z f1 mo 5 = tk_S B tn 0) ∧ (tk_tr f1 mo B tn))) := by
  refine q_ofb (by decide +kernel) hN hT (Nat.le_of_ble_eq_true rfl) ?_
  intro p e s m below meth c ls cx hr hlk hB hl
  have hl : lv_has ls 1 [(0, .ref mo)] := hl
  obtain ⟨H, hH⟩ : ∃ H : Heap, H = s.heap := ⟨_, rfl⟩
  obtain ⟨locs, hlocs⟩ : ∃ z : List Loc, z = [] := ⟨_, rfl⟩
  rw [← hH, ← hlocs] at hB
  rw [← hH, ← hlocs]
  refine q_ald_n cx dX12_beginsText_0 rfl (lv_at hl 0 rfl) ?_
  refine q_ald_n cx dX12_beginsText_1 rfl (lv_at hl 0 rfl) ?_
  refine q_gX12_82 cx hB hmo kmo hf0 dX12_beginsText_2 (fun lb45 ub45 => ?_)
  refine q_pX12_100 cx hB hmo kmo ⟨by omega, by omega⟩ (by omega) (by omega) rfl dX12_beginsText_5 (fun H locs f46 ef46 z47 hB => ?_)
  have z48 : q_is (q_z f46 mo 2) tn := by rw [ef46, q_setz (Or.inr (by decide))]; exact hf0
  have z49 : q_ir (q_r f46 mo 1) bu := by rw [ef46, q_setr (Or.inr (by decide))]; exact hr0
  have g50 : tk_ub f46 bu B tn := tk_ub_tr hub (fun i9 => by rw [ef46, q_setz (Or.inl (fun q => by rw [q, kmo] at kbu; exact absurd kbu (by decide)))])
  refine q_ald_n cx dX12_beginsText_8 rfl (lv_at hl 0 rfl) ?_
  refine q_iconst cx dX12_beginsText_9 ?_
  refine q_pX12_82 cx hB hmo kmo ⟨by decide, by decide⟩ (by decide) (by decide) rfl dX12_beginsText_10 (fun H locs f51 ef51 z52 hB => ?_)
  have z53 : q_is (q_z f51 mo 3) tn := by rw [ef51, q_setz (Or.inr (by decide))]; exact z47
  have z54 : q_ir (q_r f51 mo 1) bu := by rw [ef51, q_setr (Or.inr (by decide))]; exact z49
  have g55 : tk_ub f51 bu B tn := tk_ub_tr g50 (fun i9 => by rw [ef51, q_setz (Or.inl (fun q => by rw [q, kmo] at kbu; exact absurd kbu (by decide)))])
  refine q_ald_n cx dX12_beginsText_13 rfl (lv_at hl 0 rfl) ?_
  refine q_iconst cx dX12_beginsText_14 ?_
  refine q_pX12_97 cx hB hmo kmo ⟨by decide, by decide⟩ (by decide) (by decide) rfl dX12_beginsText_15 (fun H locs f56 ef56 z57 hB => ?_)
  have z58 : q_is (q_z f56 mo 3) tn := by rw [ef56, q_setz (Or.inr (by decide))]; exact z53
  have z59 : q_is (q_z f56 mo 2) 0 := by rw [ef56, q_setz (Or.inr (by decide))]; exact z52
  have z60 : q_ir (q_r f56 mo 1) bu := by rw [ef56, q_setr (Or.inr (by decide))]; exact z54
  have g61 : tk_ub f56 bu B tn := tk_ub_tr g55 (fun i9 => by rw [ef56, q_setz (Or.inl (fun q => by rw [q, kmo] at kbu; exact absurd kbu (by decide)))])
  refine q_ald_n cx dX12_beginsText_18 rfl (lv_at hl 0 rfl) ?_
  refine q_iconst cx dX12_beginsText_19 ?_
  refine q_pX12_127 cx hB hmo kmo ⟨by decide, by decide⟩ (by decide) (by decide) rfl dX12_beginsText_20 (fun H locs f62 ef62 z63 hB => ?_)
  have z64 : q_is (q_z f62 mo 3) tn := by rw [ef62, q_setz (Or.inr (by decide))]; exact z58
  have z65 : q_is (q_z f62 mo 2) 0 := by rw [ef62, q_setz (Or.inr (by decide))]; exact z59
  have z66 : q_is (q_z f62 mo 4) 0 := by rw [ef62, q_setz (Or.inr (by decide))]; exact z57
  have z67 : q_ir (q_r f62 mo 1) bu := by rw [ef62, q_setr (Or.inr (by decide))]; exact z60
  have g68 : tk_ub f62 bu B tn := tk_ub_tr g61 (fun i9 => by rw [ef62, q_setz (Or.inl (fun q => by rw [q, kmo] at kbu; exact absurd kbu (by decide)))])
  refine q_ald_n cx dX12_beginsText_23 rfl (lv_at hl 0 rfl) ?_
  refine q_iconst cx dX12_beginsText_24 ?_
  refine q_pX12_13 cx hB hmo kmo ⟨by decide, by decide⟩ (by decide) (by decide) rfl dX12_beginsText_25 (fun H locs f69 ef69 z70 hB => ?_)
  have z71 : q_is (q_z f69 mo 3) tn := by rw [ef69, q_setz (Or.inr (by decide))]; exact z64
  have z72 : q_is (q_z f69 mo 2) 0 := by rw [ef69, q_setz (Or.inr (by decide))]; exact z65
  have z73 : q_is (q_z f69 mo 4) 0 := by rw [ef69, q_setz (Or.inr (by decide))]; exact z66
  have z74 : q_is (q_z f69 mo 8) 0 := by rw [ef69, q_setz (Or.inr (by decide))]; exact z63
  have z75 : q_ir (q_r f69 mo 1) bu := by rw [ef69, q_setr (Or.inr (by decide))]; exact z67
  have g76 : tk_ub f69 bu B tn := tk_ub_tr g68 (fun i9 => by rw [ef69, q_setz (Or.inl (fun q => by rw [q, kmo] at kbu; exact absurd kbu (by decide)))])
  refine q_ald_n cx dX12_beginsText_28 rfl (lv_at hl 0 rfl) ?_
  refine q_cVv (As := []) (rest := []) cx hB (fun _ h => h) hN hmo kmo (by decide) rfl (f_mgoOn l g hN hB.2.1 B mo hmo kmo bu hbu kbu tn (by omega) (by omega) 0 (by decide) (by decide) z71 z73 z75 (by omega) g76) q_cX12_140 q_dX12_goOn (by decide) rfl rfl hl.1 rfl (Nat.le_of_ble_eq_true rfl) dX12_beginsText_29 (fun H locs f77 h79 hF hB => ?_)
  obtain ⟨t80, g81⟩ := h79
  have z82 : q_is (q_z f77 mo 3) tn := Eq.trans (hF.z hmo (by rw [kmo]; rfl)) z71
  have z83 : q_is (q_z f77 mo 2) 0 := Eq.trans (hF.z hmo (by rw [kmo]; rfl)) z72
  have z84 : q_is (q_z f77 mo 8) 0 := Eq.trans (hF.z hmo (by rw [kmo]; rfl)) z74
  have z85 : q_is (q_z f77 mo 9) (-1) := Eq.trans (hF.z hmo (by rw [kmo]; rfl)) z70
  have z86 : q_ir (q_r f77 mo 1) bu := Eq.trans (hF.r hmo (by rw [kmo]; rfl)) z75
  have g87 : tk_ub f77 bu B tn := tk_ub_tr g76 (fun i9 => hF.z hbu (by rw [kbu]; rfl))
  obtain ⟨x88, ex88⟩ : ∃ zz, q_is (q_z f77 mo 5) zz := ⟨_, q_isr _⟩
  obtain ⟨lx88, ux88⟩ := q_isb ex88 (q_fib hB.2.1 hmo kmo (by decide) rfl)
  obtain ⟨-, l0x88, u0x88, -, -⟩ := tk_tr_n g81 ex88
  refine q_vret cx hr hlk hB dX12_beginsText_32 ?_
  exact ⟨z84, z85, z83, z82, t80, g81⟩
set_option maxHeartbeats 4000000 in
set_option maxRecDepth 100000 in
theorem f_mendsText0 (l : Launch) (g : q_G) {K : Nat → Nat} {L : List Nat} (hN : L.Nodup) {f : Nat → va_E} (hT : q_Ty g K L f) (mo : Nat) (hmo : mo ∈ L) (kmo : K mo = 12) (hf0 : q_is (q_z f mo 8) 0) (hf1 : q_is (q_z f mo 9) (-1)) : q_Ct l g K L yX12_endsText cX12_endsText 1 (some .boolean) 2 41 [.ref mo] f [(12, 0, 0), (12, 10, 11)] (q_Pi (fun (z : Int) (f1 : Nat → va_E) => z = 1 ∧ q_is (q_z f1 mo 0) 0 ∧ q_is (q_z f1 mo 10) 0 ∧ q_is (q_z f1 mo 11) (-1))) := by
  refine q_ofb (by decide +kernel) hN hT (Nat.le_of_ble_eq_true rfl) ?_
  intro p e s m below meth c ls cx hr hlk hB hl
  have hl : lv_has ls 1 [(0, .ref mo)] := hl
  obtain ⟨H, hH⟩ : ∃ H : Heap, H = s.heap := ⟨_, rfl⟩
  obtain ⟨locs, hlocs⟩ : ∃ z : List Loc, z = [] := ⟨_, rfl⟩
  rw [← hH, ← hlocs] at hB
  rw [← hH, ← hlocs]
  refine q_ald_n cx dX12_endsText_0 rfl (lv_at hl 0 rfl) ?_
  refine q_ald_n cx dX12_endsText_1 rfl (lv_at hl 0 rfl) ?_
  refine q_gX12_127 cx hB hmo kmo hf0 dX12_endsText_2 (fun lb22 ub22 => ?_)
  refine q_pX12_151 cx hB hmo kmo ⟨by decide, by decide⟩ (by decide) (by decide) rfl dX12_endsText_5 (fun H locs f23 ef23 z24 hB => ?_)
  have z25 : q_is (q_z f23 mo 8) 0 := by rw [ef23, q_setz (Or.inr (by decide))]; exact hf0
  have z26 : q_is (q_z f23 mo 9) (-1) := by rw [ef23, q_setz (Or.inr (by decide))]; exact hf1
  refine q_ald_n cx dX12_endsText_8 rfl (lv_at hl 0 rfl) ?_
  refine q_ald_n cx dX12_endsText_9 rfl (lv_at hl 0 rfl) ?_
  refine q_gX12_13 cx hB hmo kmo z26 dX12_endsText_10 (fun lb27 ub27 => ?_)
  refine q_pX12_17 cx hB hmo kmo ⟨by decide, by decide⟩ (by decide) (by decide) rfl dX12_endsText_13 (fun H locs f28 ef28 z29 hB => ?_)
  have z30 : q_is (q_z f28 mo 8) 0 := by rw [ef28, q_setz (Or.inr (by decide))]; exact z25
  have z31 : q_is (q_z f28 mo 9) (-1) := by rw [ef28, q_setz (Or.inr (by decide))]; exact z26
  have z32 : q_is (q_z f28 mo 10) 0 := by rw [ef28, q_setz (Or.inr (by decide))]; exact z24
  refine q_ald_n cx dX12_endsText_16 rfl (lv_at hl 0 rfl) ?_
  refine q_ald_n cx dX12_endsText_17 rfl (lv_at hl 0 rfl) ?_
  refine q_gX12_127 cx hB hmo kmo z30 dX12_endsText_18 (fun lb33 ub33 => ?_)
  refine q_ifne (tgt := 28) cx ⟨by decide, by decide⟩ dX12_endsText_21 (by decide) (fun c34 => ?_) (fun c34 => ?_)
  · exact absurd c34 (by omega)
  · refine q_iconst cx dX12_endsText_24 ?_
    refine lv_goto (tgt := 29) cx.1 cx.2.1 dX12_endsText_25 (by decide) ?_
    refine q_cVi (As := [.int (q_i 1)]) (rest := []) cx hB (fun _ h => h) hN hmo kmo (by decide) rfl (r_goes1 l g hN hB.2.1 mo hmo kmo 1 (by decide) (by decide)) q_cX12_85 q_dX12_goes (by decide) rfl rfl hl.1 rfl (Nat.le_of_ble_eq_true rfl) dX12_endsText_29 (fun y36 H locs f35 ry36 h37 hF hB => ?_)
    obtain ⟨qy36, z38⟩ := h37
    have z39 : q_is (q_z f35 mo 8) 0 := Eq.trans (hF.z hmo (by rw [kmo]; rfl)) z30
    have z40 : q_is (q_z f35 mo 9) (-1) := Eq.trans (hF.z hmo (by rw [kmo]; rfl)) z31
    have z41 : q_is (q_z f35 mo 10) 0 := Eq.trans (hF.z hmo (by rw [kmo]; rfl)) z32
    have z42 : q_is (q_z f35 mo 11) (-1) := Eq.trans (hF.z hmo (by rw [kmo]; rfl)) z29
    subst qy36
    refine q_zret cx hr hlk hB dX12_endsText_32 (by decide) (by decide) ?_
    exact ⟨rfl, z38, z41, z42⟩
set_option maxHeartbeats 4000000 in
set_option maxRecDepth 100000 in
theorem f_mendsText1 (l : Launch) (g : q_G) {K : Nat → Nat} {L : List Nat} (hN : L.Nodup) {f : Nat → va_E} (hT : q_Ty g K L f) (mo : Nat) (hmo : mo ∈ L) (kmo : K mo = 12) (er : Int) (ler : 1 ≤ er) (uer : er ≤ 5) (ep : Int) (lep : (-2147483648) ≤ ep) (uep : ep ≤ 2147483647) (hf0 : q_is (q_z f mo 8) er) (hf1 : q_is (q_z f mo 9) ep) : q_Ct l g K L yX12_endsText cX12_endsText 1 (some .boolean) 2 41 [.ref mo] f [(12, 0, 0), (12, 10, 11)] (q_Pi (fun (z : Int) (f1 : Nat → va_E) => z = 0 ∧ q_is (q_z f1 mo 0) 1 ∧ q_is (q_z f1 mo 10) er ∧ q_is (q_z f1 mo 11) ep)) := by
  refine q_ofb (by decide +kernel) hN hT (Nat.le_of_ble_eq_true rfl) ?_
  intro p e s m below meth c ls cx hr hlk hB hl
  have hl : lv_has ls 1 [(0, .ref mo)] := hl
  obtain ⟨H, hH⟩ : ∃ H : Heap, H = s.heap := ⟨_, rfl⟩
  obtain ⟨locs, hlocs⟩ : ∃ z : List Loc, z = [] := ⟨_, rfl⟩
  rw [← hH, ← hlocs] at hB
  rw [← hH, ← hlocs]
  refine q_ald_n cx dX12_endsText_0 rfl (lv_at hl 0 rfl) ?_
  refine q_ald_n cx dX12_endsText_1 rfl (lv_at hl 0 rfl) ?_
  refine q_gX12_127 cx hB hmo kmo hf0 dX12_endsText_2 (fun lb22 ub22 => ?_)
  refine q_pX12_151 cx hB hmo kmo ⟨by omega, by omega⟩ (by omega) (by omega) rfl dX12_endsText_5 (fun H locs f23 ef23 z24 hB => ?_)
  have z25 : q_is (q_z f23 mo 8) er := by rw [ef23, q_setz (Or.inr (by decide))]; exact hf0
  have z26 : q_is (q_z f23 mo 9) ep := by rw [ef23, q_setz (Or.inr (by decide))]; exact hf1
  refine q_ald_n cx dX12_endsText_8 rfl (lv_at hl 0 rfl) ?_
  refine q_ald_n cx dX12_endsText_9 rfl (lv_at hl 0 rfl) ?_
  refine q_gX12_13 cx hB hmo kmo z26 dX12_endsText_10 (fun lb27 ub27 => ?_)
  refine q_pX12_17 cx hB hmo kmo ⟨by omega, by omega⟩ (by omega) (by omega) rfl dX12_endsText_13 (fun H locs f28 ef28 z29 hB => ?_)
  have z30 : q_is (q_z f28 mo 8) er := by rw [ef28, q_setz (Or.inr (by decide))]; exact z25
  have z31 : q_is (q_z f28 mo 9) ep := by rw [ef28, q_setz (Or.inr (by decide))]; exact z26
  have z32 : q_is (q_z f28 mo 10) er := by rw [ef28, q_setz (Or.inr (by decide))]; exact z24
  refine q_ald_n cx dX12_endsText_16 rfl (lv_at hl 0 rfl) ?_
  refine q_ald_n cx dX12_endsText_17 rfl (lv_at hl 0 rfl) ?_
  refine q_gX12_127 cx hB hmo kmo z30 dX12_endsText_18 (fun lb33 ub33 => ?_)
  refine q_ifne (tgt := 28) cx ⟨by omega, by omega⟩ dX12_endsText_21 (by decide) (fun c34 => ?_) (fun c34 => ?_)
  · refine q_iconst cx dX12_endsText_28 ?_
    refine q_cVi (As := [.int (q_i 0)]) (rest := []) cx hB (fun _ h => h) hN hmo kmo (by decide) rfl (r_goes0 l g hN hB.2.1 mo hmo kmo 0 (by decide) (by decide)) q_cX12_85 q_dX12_goes (by decide) rfl rfl hl.1 rfl (Nat.le_of_ble_eq_true rfl) dX12_endsText_29 (fun y36 H locs f35 ry36 h37 hF hB => ?_)
    obtain ⟨qy36, z38⟩ := h37
    have z39 : q_is (q_z f35 mo 8) er := Eq.trans (hF.z hmo (by rw [kmo]; rfl)) z30
    have z40 : q_is (q_z f35 mo 9) ep := Eq.trans (hF.z hmo (by rw [kmo]; rfl)) z31
    have z41 : q_is (q_z f35 mo 10) er := Eq.trans (hF.z hmo (by rw [kmo]; rfl)) z32
    have z42 : q_is (q_z f35 mo 11) ep := Eq.trans (hF.z hmo (by rw [kmo]; rfl)) z29
    subst qy36
    refine q_zret cx hr hlk hB dX12_endsText_32 (by decide) (by decide) ?_
    exact ⟨rfl, z38, z41, z42⟩
  · exact absurd c34 (by omega)
set_option maxHeartbeats 4000000 in
set_option maxRecDepth 100000 in
theorem f_mclears (l : Launch) (g : q_G) {K : Nat → Nat} {L : List Nat} (hN : L.Nodup) {f : Nat → va_E} (hT : q_Ty g K L f) (mo : Nat) (hmo : mo ∈ L) (kmo : K mo = 12) (sr : Nat) (hsr : sr ∈ L) (ksr : K sr = 151) (nm : Nat) (hnm : nm ∈ L) (knm : K nm = 156) (hr0 : q_ir (q_r f mo 13) sr) (hr1 : q_ir (q_r f mo 18) nm) : q_Ct l g K L yX12_clears cX12_clears 2 none 0 0 [.ref mo] f [(151, 0, 657), (156, 0, 9)] (q_Pv (fun (f1 : Nat → va_E) => 0 ≤ q_z f1 sr 3 ∧ q_z f1 sr 3 ≤ 9999 ∧ 0 ≤ q_z f1 sr 4 ∧ q_z f1 sr 4 ≤ 60 ∧ q_is (q_z f1 sr 0) 0 ∧ q_is (q_z f1 sr 1) 0 ∧ q_gr f1 sr)) := by
  refine q_ofb (by decide +kernel) hN hT (Nat.le_of_ble_eq_true rfl) ?_
  intro p e s m below meth c ls cx hr hlk hB hl
  have hl : lv_has ls 2 [(0, .ref mo)] := hl
  have J24 : ∀ (n : Nat) (f24 : Nat → va_E) (v24_1 : Int) (lv24_1 : 0 ≤ v24_1) (uv24_1 : v24_1 ≤ 10) (hq_mo_13 : q_ir (q_r f24 mo 13) sr) (hq_mo_18 : q_ir (q_r f24 mo 18) nm) (hcl2 : ∀ j : Nat, (j : Int) < 658 → q_z f24 sr j = 0) (hmu : (Int.toNat (2147483647 - v24_1)) < n) (H : Heap) (locs : List Loc) (hB : q_B g K L (fun q => q ∈ L) [(151, 0, 657), (156, 0, 9)] f f24 s H locs) (ls : Array Slot) (hl : lv_has ls 2 [(0, .ref mo), (1, .int (q_i v24_1))]), W p l e { frames := 0, cells := 0, slots := 0, locals := 0 } s m ([.ref mo] : List Value).toArray below meth c H locs 0 0 (MQ below (q_Q g K L [(151, 0, 657), (156, 0, 9)] f (q_Pv (fun (f1 : Nat → va_E) => 0 ≤ q_z f1 sr 3 ∧ q_z f1 sr 3 ≤ 9999 ∧ 0 ≤ q_z f1 sr 4 ∧ q_z f1 sr 4 ≤ 60 ∧ q_is (q_z f1 sr 0) 0 ∧ q_is (q_z f1 sr 1) 0 ∧ q_gr f1 sr))) ([.ref mo] : List Value).toArray s 0 0 (fun q => q ∈ L)) (F0 m 24 ls []) := by
    intro n
    induction n with
    | zero =>
      intro f24 v24_1 lv24_1 uv24_1 hq_mo_13 hq_mo_18 hcl2 hmu
      exact absurd hmu (Nat.not_lt_zero _)
    | succ n ih24 =>
      intro f24 v24_1 lv24_1 uv24_1 hq_mo_13 hq_mo_18 hcl2 hmu H locs hB ls hl
      refine q_ild_n cx dX12_clears_24 rfl (lv_at hl 1 rfl) ?_
      refine q_bipush cx dX12_clears_25 rfl ?_
      refine q_icge (tgt := 43) cx ⟨by omega, by omega⟩ ⟨by decide, by decide⟩ dX12_clears_27 (by decide) (fun c298 => ?_) (fun c298 => ?_)
      · have z299 : q_is (q_z f24 sr 0) 0 := hcl2 0 (by omega)
        have z300 : q_is (q_z f24 sr 1) 0 := hcl2 1 (by omega)
        have z301 : q_is (q_z f24 sr 3) 0 := hcl2 3 (by omega)
        have z302 : q_is (q_z f24 sr 4) 0 := hcl2 4 (by omega)
        refine q_ald_n cx dX12_clears_43 rfl (lv_at hl 0 rfl) ?_
        refine q_gX12_20 cx hB hmo kmo hq_mo_13 dX12_clears_44 (fun hb303 kb303 => ?_)
        refine q_iconst cx dX12_clears_47 ?_
        refine q_bipush cx dX12_clears_48 rfl ?_
        refine q_sast cx hB hsr ksr (by decide) (by decide) ⟨by decide, by decide⟩ rfl dX12_clears_50 (fun H locs f304 ef304 z305 hB => ?_)
        have z306 : q_is (q_z f304 sr 0) 0 := by rw [ef304, q_setz (Or.inr (by decide))]; exact z299
        have z307 : q_is (q_z f304 sr 1) 0 := by rw [ef304, q_setz (Or.inr (by decide))]; exact z300
        have z308 : q_is (q_z f304 sr 3) 0 := by rw [ef304, q_setz (Or.inr (by decide))]; exact z301
        have z309 : q_is (q_z f304 sr 4) 0 := by rw [ef304, q_setz (Or.inr (by decide))]; exact z302
        have z310 : q_ir (q_r f304 mo 13) sr := by rw [ef304, q_setr (Or.inr (by decide))]; exact hq_mo_13
        have z311 : q_ir (q_r f304 mo 18) nm := by rw [ef304, q_setr (Or.inr (by decide))]; exact hq_mo_18
        have gr51 : q_gr f304 sr := k_grcl (fun j hj => by
            by_cases h9 : j = 2
            · exact Or.inr h9
            · exact Or.inl (by rw [ef304, q_setz (Or.inr (show j ≠ Int.toNat 2 from h9))]; exact hcl2 j hj)) z305
        refine q_ald_n cx dX12_clears_51 rfl (lv_at hl 0 rfl) ?_
        refine q_gX12_20 cx hB hmo kmo z310 dX12_clears_52 (fun hb312 kb312 => ?_)
        refine q_iconst cx dX12_clears_55 ?_
        refine q_iconst cx dX12_clears_56 ?_
        refine q_sast cx hB hsr ksr (by decide) (by decide) ⟨by decide, by decide⟩ rfl dX12_clears_57 (fun H locs f313 ef313 z314 hB => ?_)
        have z315 : q_is (q_z f313 sr 0) 0 := by rw [ef313, q_setz (Or.inr (by decide))]; exact z306
        have z316 : q_is (q_z f313 sr 1) 0 := by rw [ef313, q_setz (Or.inr (by decide))]; exact z307
        have z317 : q_is (q_z f313 sr 3) 0 := by rw [ef313, q_setz (Or.inr (by decide))]; exact z308
        have z318 : q_is (q_z f313 sr 4) 0 := by rw [ef313, q_setz (Or.inr (by decide))]; exact z309
        have z319 : q_is (q_z f313 sr 2) 12 := by rw [ef313, q_setz (Or.inr (by decide))]; exact z305
        have z320 : q_ir (q_r f313 mo 13) sr := by rw [ef313, q_setr (Or.inr (by decide))]; exact z310
        have z321 : q_ir (q_r f313 mo 18) nm := by rw [ef313, q_setr (Or.inr (by decide))]; exact z311
        have g322 : q_gr f313 sr := q_gr_put gr51 ef313 z314 rfl (by decide) (by decide)
        refine q_ald_n cx dX12_clears_58 rfl (lv_at hl 0 rfl) ?_
        refine q_gX12_20 cx hB hmo kmo z320 dX12_clears_59 (fun hb323 kb323 => ?_)
        refine q_bipush cx dX12_clears_62 rfl ?_
        refine q_iconst cx dX12_clears_64 ?_
        refine q_sast cx hB hsr ksr (by decide) (by decide) ⟨by decide, by decide⟩ rfl dX12_clears_65 (fun H locs f324 ef324 z325 hB => ?_)
        have z326 : q_is (q_z f324 sr 0) 0 := by rw [ef324, q_setz (Or.inr (by decide))]; exact z315
        have z327 : q_is (q_z f324 sr 1) 0 := by rw [ef324, q_setz (Or.inr (by decide))]; exact z316
        have z328 : q_is (q_z f324 sr 3) 0 := by rw [ef324, q_setz (Or.inr (by decide))]; exact z317
        have z329 : q_is (q_z f324 sr 4) 0 := by rw [ef324, q_setz (Or.inr (by decide))]; exact z318
        have z330 : q_is (q_z f324 sr 2) 12 := by rw [ef324, q_setz (Or.inr (by decide))]; exact z319
        have z331 : q_is (q_z f324 sr 5) 1 := by rw [ef324, q_setz (Or.inr (by decide))]; exact z314
        have z332 : q_ir (q_r f324 mo 13) sr := by rw [ef324, q_setr (Or.inr (by decide))]; exact z320
        have z333 : q_ir (q_r f324 mo 18) nm := by rw [ef324, q_setr (Or.inr (by decide))]; exact z321
        have g334 : q_gr f324 sr := q_gr_put g322 ef324 z325 rfl (by decide) (by decide)
        refine q_ald_n cx dX12_clears_66 rfl (lv_at hl 0 rfl) ?_
        refine q_gX12_20 cx hB hmo kmo z332 dX12_clears_67 (fun hb335 kb335 => ?_)
        refine q_bipush cx dX12_clears_70 rfl ?_
        refine q_iconst cx dX12_clears_72 ?_
        refine q_sast cx hB hsr ksr (by decide) (by decide) ⟨by decide, by decide⟩ rfl dX12_clears_73 (fun H locs f336 ef336 z337 hB => ?_)
        have z338 : q_is (q_z f336 sr 0) 0 := by rw [ef336, q_setz (Or.inr (by decide))]; exact z326
        have z339 : q_is (q_z f336 sr 1) 0 := by rw [ef336, q_setz (Or.inr (by decide))]; exact z327
        have z340 : q_is (q_z f336 sr 3) 0 := by rw [ef336, q_setz (Or.inr (by decide))]; exact z328
        have z341 : q_is (q_z f336 sr 4) 0 := by rw [ef336, q_setz (Or.inr (by decide))]; exact z329
        have z342 : q_is (q_z f336 sr 2) 12 := by rw [ef336, q_setz (Or.inr (by decide))]; exact z330
        have z343 : q_is (q_z f336 sr 5) 1 := by rw [ef336, q_setz (Or.inr (by decide))]; exact z331
        have z344 : q_is (q_z f336 sr 6) 2 := by rw [ef336, q_setz (Or.inr (by decide))]; exact z325
        have z345 : q_ir (q_r f336 mo 13) sr := by rw [ef336, q_setr (Or.inr (by decide))]; exact z332
        have z346 : q_ir (q_r f336 mo 18) nm := by rw [ef336, q_setr (Or.inr (by decide))]; exact z333
        have g347 : q_gr f336 sr := q_gr_put g334 ef336 z337 rfl (by decide) (by decide)
        refine q_ald_n cx dX12_clears_74 rfl (lv_at hl 0 rfl) ?_
        refine q_gX12_20 cx hB hmo kmo z345 dX12_clears_75 (fun hb348 kb348 => ?_)
        refine q_bipush cx dX12_clears_78 rfl ?_
        refine q_iconst cx dX12_clears_80 ?_
        refine q_sast cx hB hsr ksr (by decide) (by decide) ⟨by decide, by decide⟩ rfl dX12_clears_81 (fun H locs f349 ef349 z350 hB => ?_)
        have z351 : q_is (q_z f349 sr 0) 0 := by rw [ef349, q_setz (Or.inr (by decide))]; exact z338
        have z352 : q_is (q_z f349 sr 1) 0 := by rw [ef349, q_setz (Or.inr (by decide))]; exact z339
        have z353 : q_is (q_z f349 sr 3) 0 := by rw [ef349, q_setz (Or.inr (by decide))]; exact z340
        have z354 : q_is (q_z f349 sr 4) 0 := by rw [ef349, q_setz (Or.inr (by decide))]; exact z341
        have z355 : q_is (q_z f349 sr 2) 12 := by rw [ef349, q_setz (Or.inr (by decide))]; exact z342
        have z356 : q_is (q_z f349 sr 5) 1 := by rw [ef349, q_setz (Or.inr (by decide))]; exact z343
        have z357 : q_is (q_z f349 sr 6) 2 := by rw [ef349, q_setz (Or.inr (by decide))]; exact z344
        have z358 : q_is (q_z f349 sr 7) 5 := by rw [ef349, q_setz (Or.inr (by decide))]; exact z337
        have z359 : q_ir (q_r f349 mo 13) sr := by rw [ef349, q_setr (Or.inr (by decide))]; exact z345
        have z360 : q_ir (q_r f349 mo 18) nm := by rw [ef349, q_setr (Or.inr (by decide))]; exact z346
        have g361 : q_gr f349 sr := q_gr_put g347 ef349 z350 rfl (by decide) (by decide)
        refine q_vret cx hr hlk hB dX12_clears_82 ?_
        exact ⟨(q_isl z353 (by omega)), (q_isu z353 (by omega)), (q_isl z354 (by omega)), (q_isu z354 (by omega)), z351, z352, g361⟩
      · refine q_ald_n cx dX12_clears_30 rfl (lv_at hl 0 rfl) ?_
        refine q_gX12_35 cx hB hmo kmo hq_mo_18 dX12_clears_31 (fun hb362 kb362 => ?_)
        refine q_ild_n cx dX12_clears_34 rfl (lv_at hl 1 rfl) ?_
        refine q_lconst (z := 0) cx (by decide) dX12_clears_35 ?_
        refine q_last (n := 10) cx hB hnm knm (by decide) rfl rfl (by omega) (by omega) (by decide) rfl (q_inWi (lo := 0) (hi := 9) (by decide) (by omega) (by omega)) dX12_clears_36 (fun H locs f363 ef363 z364 hB => ?_)
        have z365 : q_ir (q_r f363 mo 13) sr := by rw [ef363, q_setr (Or.inl (fun q => by rw [q, knm] at kmo; exact absurd kmo (by decide)))]; exact hq_mo_13
        have z366 : q_ir (q_r f363 mo 18) nm := by rw [ef363, q_setr (Or.inl (fun q => by rw [q, knm] at kmo; exact absurd kmo (by decide)))]; exact hq_mo_18
        refine q_iinc (lv' := [(1, .int (q_i (v24_1 + 1))), (0, .ref mo)]) cx dX12_clears_37 hl (k := 1) rfl (by decide) rfl (fun ls hl => ?_)
        refine lv_goto (tgt := 24) cx.1 cx.2.1 dX12_clears_40 (by decide) ?_
        exact ih24 f363 (v24_1 + 1) (by omega) (by omega) z365 z366 (fun j hj => by rw [ef363, q_setz (Or.inl (fun q => q_kne (k := 151) (k2 := 156) (by decide) ksr knm q))]; exact hcl2 j hj) (by omega) H locs hB ls (lv_sub hl [1, 0] rfl)
  have J2 : ∀ (n : Nat) (f2 : Nat → va_E) (v2_1 : Int) (lv2_1 : 0 ≤ v2_1) (uv2_1 : v2_1 ≤ 658) (hq_mo_13 : q_ir (q_r f2 mo 13) sr) (hq_mo_18 : q_ir (q_r f2 mo 18) nm) (hcl : ∀ j : Nat, (j : Int) < v2_1 → q_z f2 sr j = 0) (hmu : (Int.toNat (2147483647 - v2_1)) < n) (H : Heap) (locs : List Loc) (hB : q_B g K L (fun q => q ∈ L) [(151, 0, 657), (156, 0, 9)] f f2 s H locs) (ls : Array Slot) (hl : lv_has ls 2 [(0, .ref mo), (1, .int (q_i v2_1))]), W p l e { frames := 0, cells := 0, slots := 0, locals := 0 } s m ([.ref mo] : List Value).toArray below meth c H locs 0 0 (MQ below (q_Q g K L [(151, 0, 657), (156, 0, 9)] f (q_Pv (fun (f1 : Nat → va_E) => 0 ≤ q_z f1 sr 3 ∧ q_z f1 sr 3 ≤ 9999 ∧ 0 ≤ q_z f1 sr 4 ∧ q_z f1 sr 4 ≤ 60 ∧ q_is (q_z f1 sr 0) 0 ∧ q_is (q_z f1 sr 1) 0 ∧ q_gr f1 sr))) ([.ref mo] : List Value).toArray s 0 0 (fun q => q ∈ L)) (F0 m 2 ls []) := by
    intro n
    induction n with
    | zero =>
      intro f2 v2_1 lv2_1 uv2_1 hq_mo_13 hq_mo_18 hcl hmu
      exact absurd hmu (Nat.not_lt_zero _)
    | succ n ih2 =>
      intro f2 v2_1 lv2_1 uv2_1 hq_mo_13 hq_mo_18 hcl hmu H locs hB ls hl
      refine q_ild_n cx dX12_clears_2 rfl (lv_at hl 1 rfl) ?_
      refine q_sipush cx dX12_clears_3 rfl ?_
      refine q_icge (tgt := 22) cx ⟨by omega, by omega⟩ ⟨by decide, by decide⟩ dX12_clears_6 (by decide) (fun c367 => ?_) (fun c367 => ?_)
      · refine q_iconst cx dX12_clears_22 ?_
        refine lv_istore_n (lv' := [(1, .int (q_i 0)), (0, .ref mo)]) cx.1 cx.2.1 dX12_clears_23 rfl hl (by decide) rfl (fun ls hl => ?_)
        exact J24 ((Int.toNat (2147483647 - 0)) + 1) f2 0 (by decide) (by decide) hq_mo_13 hq_mo_18 (fun j hj => hcl j (by omega)) (Nat.lt_succ_self _) H locs hB ls (lv_sub hl [1, 0] rfl)
      · refine q_ald_n cx dX12_clears_9 rfl (lv_at hl 0 rfl) ?_
        refine q_gX12_20 cx hB hmo kmo hq_mo_13 dX12_clears_10 (fun hb368 kb368 => ?_)
        refine q_ild_n cx dX12_clears_13 rfl (lv_at hl 1 rfl) ?_
        refine q_iconst cx dX12_clears_14 ?_
        refine q_sastr cx hB hsr ksr (by omega) (by omega) ⟨by decide, by decide⟩ q_ew0 (q_inWi (lo := 0) (hi := 657) (by decide) (by omega) (by omega)) dX12_clears_15 (fun H locs f369 ef369 z370 hB => ?_)
        have z371 : q_ir (q_r f369 mo 13) sr := by rw [ef369, q_setr (Or.inl (fun q => by rw [q, ksr] at kmo; exact absurd kmo (by decide)))]; exact hq_mo_13
        have z372 : q_ir (q_r f369 mo 18) nm := by rw [ef369, q_setr (Or.inl (fun q => by rw [q, ksr] at kmo; exact absurd kmo (by decide)))]; exact hq_mo_18
        refine q_iinc (lv' := [(1, .int (q_i (v2_1 + 1))), (0, .ref mo)]) cx dX12_clears_16 hl (k := 1) rfl (by decide) rfl (fun ls hl => ?_)
        refine lv_goto (tgt := 2) cx.1 cx.2.1 dX12_clears_19 (by decide) ?_
        exact ih2 f369 (v2_1 + 1) (by omega) (by omega) z371 z372 (q_clb hcl ef369 z370 (by omega)) (by omega) H locs hB ls (lv_sub hl [1, 0] rfl)
  obtain ⟨H, hH⟩ : ∃ H : Heap, H = s.heap := ⟨_, rfl⟩
  obtain ⟨locs, hlocs⟩ : ∃ z : List Loc, z = [] := ⟨_, rfl⟩
  rw [← hH, ← hlocs] at hB
  rw [← hH, ← hlocs]
  refine q_iconst cx dX12_clears_0 ?_
  refine lv_istore_n (lv' := [(1, .int (q_i 0)), (0, .ref mo)]) cx.1 cx.2.1 dX12_clears_1 rfl hl (by decide) rfl (fun ls hl => ?_)
  exact J2 ((Int.toNat (2147483647 - 0)) + 1) f 0 (by decide) (by decide) hr0 hr1 (fun j hj => absurd hj (by omega)) (Nat.lt_succ_self _) H locs hB ls (lv_sub hl [1, 0] rfl)
