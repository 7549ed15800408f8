set_option maxHeartbeats 4000000 in
set_option maxRecDepth 100000 in
theorem f_mbeginsText (l : Launch) (g : q_G) {K : Nat → Nat} {L : List Nat} (hN : L.Nodup) {f : Nat → va_E} (hT : q_Ty g K L f) (B : Nat → Int) (mo : Nat) (hmo : mo ∈ L) (kmo : K mo = 12) (bu : Nat) (hbu : bu ∈ L) (kbu : K bu = 150) (tn : Int) (ltn : 0 ≤ tn) (utn : tn ≤ 600) (hf0 : q_is (q_z f mo 2) tn) (hr0 : q_ir (q_r f mo 1) bu) (hub : tk_ub f bu B tn) : q_Ct l g K L yX12_beginsText cX12_beginsText 1 none 2 43 [.ref mo] f [(12, 2, 9), (12, 12, 12)] (q_Pv (fun (f1 : Nat → va_E) => q_is (q_z f1 mo 8) 0 ∧ q_is (q_z f1 mo 9) (-1) ∧ q_is (q_z f1 mo 2) 0 ∧ q_is (q_z f1 mo 3) tn ∧ (q_z f1 mo 5 = tk_S B tn 0) ∧ (tk_tr f1 mo B tn))) := by
  refine q_ofb (by decide +kernel) hN hT (Nat.le_of_ble_eq_true rfl) ?_
  intro p e s m below meth c ls cx hr hlk hB hl
  have hl : lv_has ls 1 [(0, .ref mo)] := hl
  obtain ⟨H, hH⟩ : ∃ H : Heap, H = s.heap := ⟨_, rfl⟩
  obtain ⟨locs, hlocs⟩ : ∃ z : List Loc, z = [] := ⟨_, rfl⟩
  rw [← hH, ← hlocs] at hB
  rw [← hH, ← hlocs]
  refine q_ald_n cx dX12_beginsText_0 rfl (lv_at hl 0 rfl) ?_
  refine q_ald_n cx dX12_beginsText_1 rfl (lv_at hl 0 rfl) ?_
  refine q_gX12_82 cx hB hmo kmo hf0 dX12_beginsText_2 (fun lb45 ub45 => ?_)
  refine q_pX12_100 cx hB hmo kmo ⟨by omega, by omega⟩ (by omega) (by omega) rfl dX12_beginsText_5 (fun H locs f46 ef46 z47 hB => ?_)
  have z48 : q_is (q_z f46 mo 2) tn := by rw [ef46, q_setz (Or.inr (by decide))]; exact hf0
  have z49 : q_ir (q_r f46 mo 1) bu := by rw [ef46, q_setr (Or.inr (by decide))]; exact hr0
  have g50 : tk_ub f46 bu B tn := tk_ub_tr hub (fun i9 => by rw [ef46, q_setz (Or.inl (fun q => by rw [q, kmo] at kbu; exact absurd kbu (by decide)))])
  refine q_ald_n cx dX12_beginsText_8 rfl (lv_at hl 0 rfl) ?_
  refine q_iconst cx dX12_beginsText_9 ?_
  refine q_pX12_82 cx hB hmo kmo ⟨by decide, by decide⟩ (by decide) (by decide) rfl dX12_beginsText_10 (fun H locs f51 ef51 z52 hB => ?_)
  have z53 : q_is (q_z f51 mo 3) tn := by rw [ef51, q_setz (Or.inr (by decide))]; exact z47
  have z54 : q_ir (q_r f51 mo 1) bu := by rw [ef51, q_setr (Or.inr (by decide))]; exact z49
  have g55 : tk_ub f51 bu B tn := tk_ub_tr g50 (fun i9 => by rw [ef51, q_setz (Or.inl (fun q => by rw [q, kmo] at kbu; exact absurd kbu (by decide)))])
  refine q_ald_n cx dX12_beginsText_13 rfl (lv_at hl 0 rfl) ?_
  refine q_iconst cx dX12_beginsText_14 ?_
  refine q_pX12_97 cx hB hmo kmo ⟨by decide, by decide⟩ (by decide) (by decide) rfl dX12_beginsText_15 (fun H locs f56 ef56 z57 hB => ?_)
  have z58 : q_is (q_z f56 mo 3) tn := by rw [ef56, q_setz (Or.inr (by decide))]; exact z53
  have z59 : q_is (q_z f56 mo 2) 0 := by rw [ef56, q_setz (Or.inr (by decide))]; exact z52
  have z60 : q_ir (q_r f56 mo 1) bu := by rw [ef56, q_setr (Or.inr (by decide))]; exact z54
  have g61 : tk_ub f56 bu B tn := tk_ub_tr g55 (fun i9 => by rw [ef56, q_setz (Or.inl (fun q => by rw [q, kmo] at kbu; exact absurd kbu (by decide)))])
  refine q_ald_n cx dX12_beginsText_18 rfl (lv_at hl 0 rfl) ?_
  refine q_iconst cx dX12_beginsText_19 ?_
  refine q_pX12_127 cx hB hmo kmo ⟨by decide, by decide⟩ (by decide) (by decide) rfl dX12_beginsText_20 (fun H locs f62 ef62 z63 hB => ?_)
  have z64 : q_is (q_z f62 mo 3) tn := by rw [ef62, q_setz (Or.inr (by decide))]; exact z58
  have z65 : q_is (q_z f62 mo 2) 0 := by rw [ef62, q_setz (Or.inr (by decide))]; exact z59
  have z66 : q_is (q_z f62 mo 4) 0 := by rw [ef62, q_setz (Or.inr (by decide))]; exact z57
  have z67 : q_ir (q_r f62 mo 1) bu := by rw [ef62, q_setr (Or.inr (by decide))]; exact z60
  have g68 : tk_ub f62 bu B tn := tk_ub_tr g61 (fun i9 => by rw [ef62, q_setz (Or.inl (fun q => by rw [q, kmo] at kbu; exact absurd kbu (by decide)))])
  refine q_ald_n cx dX12_beginsText_23 rfl (lv_at hl 0 rfl) ?_
  refine q_iconst cx dX12_beginsText_24 ?_
  refine q_pX12_13 cx hB hmo kmo ⟨by decide, by decide⟩ (by decide) (by decide) rfl dX12_beginsText_25 (fun H locs f69 ef69 z70 hB => ?_)
  have z71 : q_is (q_z f69 mo 3) tn := by rw [ef69, q_setz (Or.inr (by decide))]; exact z64
  have z72 : q_is (q_z f69 mo 2) 0 := by rw [ef69, q_setz (Or.inr (by decide))]; exact z65
  have z73 : q_is (q_z f69 mo 4) 0 := by rw [ef69, q_setz (Or.inr (by decide))]; exact z66
  have z74 : q_is (q_z f69 mo 8) 0 := by rw [ef69, q_setz (Or.inr (by decide))]; exact z63
  have z75 : q_ir (q_r f69 mo 1) bu := by rw [ef69, q_setr (Or.inr (by decide))]; exact z67
  have g76 : tk_ub f69 bu B tn := tk_ub_tr g68 (fun i9 => by rw [ef69, q_setz (Or.inl (fun q => by rw [q, kmo] at kbu; exact absurd kbu (by decide)))])
  refine q_ald_n cx dX12_beginsText_28 rfl (lv_at hl 0 rfl) ?_
  refine q_cVv (As := []) (rest := []) cx hB (fun _ h => h) hN hmo kmo (by decide) rfl (f_mgoOn l g hN hB.2.1 B mo hmo kmo bu hbu kbu tn (by omega) (by omega) 0 (by decide) (by decide) z71 z73 z75 (by omega) g76) q_cX12_140 q_dX12_goOn (by decide) rfl rfl hl.1 rfl (Nat.le_of_ble_eq_true rfl) dX12_beginsText_29 (fun H locs f77 h79 hF hB => ?_)
  obtain ⟨t80, g81⟩ := h79
  have z82 : q_is (q_z f77 mo 3) tn := Eq.trans (hF.z hmo (by rw [kmo]; rfl)) z71
  have z83 : q_is (q_z f77 mo 2) 0 := Eq.trans (hF.z hmo (by rw [kmo]; rfl)) z72
  have z84 : q_is (q_z f77 mo 8) 0 := Eq.trans (hF.z hmo (by rw [kmo]; rfl)) z74
  have z85 : q_is (q_z f77 mo 9) (-1) := Eq.trans (hF.z hmo (by rw [kmo]; rfl)) z70
  have z86 : q_ir (q_r f77 mo 1) bu := Eq.trans (hF.r hmo (by rw [kmo]; rfl)) z75
  have g87 : tk_ub f77 bu B tn := tk_ub_tr g76 (fun i9 => hF.z hbu (by rw [kbu]; rfl))
  obtain ⟨x88, ex88⟩ : ∃ zz, q_is (q_z f77 mo 5) zz := ⟨_, q_isr _⟩
  obtain ⟨lx88, ux88⟩ := q_isb ex88 (q_fib hB.2.1 hmo kmo (by decide) rfl)
  obtain ⟨-, l0x88, u0x88, -, -⟩ := tk_tr_n g81 ex88
  refine q_vret cx hr hlk hB dX12_beginsText_32 ?_
  exact ⟨z84, z85, z83, z82, t80, g81⟩
set_option maxHeartbeats 4000000 in
set_option maxRecDepth 100000 in
theorem f_mendsText0 (l : Launch) (g : q_G) {K : Nat → Nat} {L : List Nat} (hN : L.Nodup) {f : Nat → va_E} (hT : q_Ty g K L f) (mo : Nat) (hmo : mo ∈ L) (kmo : K mo = 12) (hf0 : q_is (q_z f mo 8) 0) (hf1 : q_is (q_z f mo 9) (-1)) : q_Ct l g K L yX12_endsText cX12_endsText 1 (some .boolean) 2 41 [.ref mo] f [(12, 0, 0), (12, 10, 11)] (q_Pi (fun (z : Int) (f1 : Nat → va_E) => z = 1 ∧ q_is (q_z f1 mo 0) 0 ∧ q_is (q_z f1 mo 10) 0 ∧ q_is (q_z f1 mo 11) (-1))) := by
  refine q_ofb (by decide +kernel) hN hT (Nat.le_of_ble_eq_true rfl) ?_
  intro p e s m below meth c ls cx hr hlk hB hl
  have hl : lv_has ls 1 [(0, .ref mo)] := hl
  obtain ⟨H, hH⟩ : ∃ H : Heap, H = s.heap := ⟨_, rfl⟩
  obtain ⟨locs, hlocs⟩ : ∃ z : List Loc, z = [] := ⟨_, rfl⟩
  rw [← hH, ← hlocs] at hB
  rw [← hH, ← hlocs]
  refine q_ald_n cx dX12_endsText_0 rfl (lv_at hl 0 rfl) ?_
  refine q_ald_n cx dX12_endsText_1 rfl (lv_at hl 0 rfl) ?_
  refine q_gX12_127 cx hB hmo kmo hf0 dX12_endsText_2 (fun lb22 ub22 => ?_)
  refine q_pX12_151 cx hB hmo kmo ⟨by decide, by decide⟩ (by decide) (by decide) rfl dX12_endsText_5 (fun H locs f23 ef23 z24 hB => ?_)
  have z25 : q_is (q_z f23 mo 8) 0 := by rw [ef23, q_setz (Or.inr (by decide))]; exact hf0
  have z26 : q_is (q_z f23 mo 9) (-1) := by rw [ef23, q_setz (Or.inr (by decide))]; exact hf1
  refine q_ald_n cx dX12_endsText_8 rfl (lv_at hl 0 rfl) ?_
  refine q_ald_n cx dX12_endsText_9 rfl (lv_at hl 0 rfl) ?_
  refine q_gX12_13 cx hB hmo kmo z26 dX12_endsText_10 (fun lb27 ub27 => ?_)
  refine q_pX12_17 cx hB hmo kmo ⟨by decide, by decide⟩ (by decide) (by decide) rfl dX12_endsText_13 (fun H locs f28 ef28 z29 hB => ?_)
  have z30 : q_is (q_z f28 mo 8) 0 := by rw [ef28, q_setz (Or.inr (by decide))]; exact z25
  have z31 : q_is (q_z f28 mo 9) (-1) := by rw [ef28, q_setz (Or.inr (by decide))]; exact z26
  have z32 : q_is (q_z f28 mo 10) 0 := by rw [ef28, q_setz (Or.inr (by decide))]; exact z24
  refine q_ald_n cx dX12_endsText_16 rfl (lv_at hl 0 rfl) ?_
  refine q_ald_n cx dX12_endsText_17 rfl (lv_at hl 0 rfl) ?_
  refine q_gX12_127 cx hB hmo kmo z30 dX12_endsText_18 (fun lb33 ub33 => ?_)
  refine q_ifne (tgt := 28) cx ⟨by decide, by decide⟩ dX12_endsText_21 (by decide) (fun c34 => ?_) (fun c34 => ?_)
  · exact absurd c34 (by omega)
  · refine q_iconst cx dX12_endsText_24 ?_
    refine lv_goto (tgt := 29) cx.1 cx.2.1 dX12_endsText_25 (by decide) ?_
    refine q_cVi (As := [.int (q_i 1)]) (rest := []) cx hB (fun _ h => h) hN hmo kmo (by decide) rfl (r_goes1 l g hN hB.2.1 mo hmo kmo 1 (by decide) (by decide)) q_cX12_85 q_dX12_goes (by decide) rfl rfl hl.1 rfl (Nat.le_of_ble_eq_true rfl) dX12_endsText_29 (fun y36 H locs f35 ry36 h37 hF hB => ?_)
    obtain ⟨qy36, z38⟩ := h37
    have z39 : q_is (q_z f35 mo 8) 0 := Eq.trans (hF.z hmo (by rw [kmo]; rfl)) z30
    have z40 : q_is (q_z f35 mo 9) (-1) := Eq.trans (hF.z hmo (by rw [kmo]; rfl)) z31
    have z41 : q_is (q_z f35 mo 10) 0 := Eq.trans (hF.z hmo (by rw [kmo]; rfl)) z32
    have z42 : q_is (q_z f35 mo 11) (-1) := Eq.trans (hF.z hmo (by rw [kmo]; rfl)) z29
    subst qy36
    refine q_zret cx hr hlk hB dX12_endsText_32 (by decide) (by decide) ?_
    exact ⟨rfl, z38, z41, z42⟩
set_option maxHeartbeats 4000000 in
set_option maxRecDepth 100000 in
theorem f_mendsText1 (l : Launch) (g : q_G) {K : Nat → Nat} {L : List Nat} (hN : L.Nodup) {f : Nat → va_E} (hT : q_Ty g K L f) (mo : Nat) (hmo : mo ∈ L) (kmo : K mo = 12) (er : Int) (ler : 1 ≤ er) (uer : er ≤ 5) (ep : Int) (lep : (-2147483648) ≤ ep) (uep : ep ≤ 2147483647) (hf0 : q_is (q_z f mo 8) er) (hf1 : q_is (q_z f mo 9) ep) : q_Ct l g K L yX12_endsText cX12_endsText 1 (some .boolean) 2 41 [.ref mo] f [(12, 0, 0), (12, 10, 11)] (q_Pi (fun (z : Int) (f1 : Nat → va_E) => z = 0 ∧ q_is (q_z f1 mo 0) 1 ∧ q_is (q_z f1 mo 10) er ∧ q_is (q_z f1 mo 11) ep)) := by
  refine q_ofb (by decide +kernel) hN hT (Nat.le_of_ble_eq_true rfl) ?_
  intro p e s m below meth c ls cx hr hlk hB hl
  have hl : lv_has ls 1 [(0, .ref mo)] := hl
  obtain ⟨H, hH⟩ : ∃ H : Heap, H = s.heap := ⟨_, rfl⟩
  obtain ⟨locs, hlocs⟩ : ∃ z : List Loc, z = [] := ⟨_, rfl⟩
  rw [← hH, ← hlocs] at hB
  rw [← hH, ← hlocs]
  refine q_ald_n cx dX12_endsText_0 rfl (lv_at hl 0 rfl) ?_
  refine q_ald_n cx dX12_endsText_1 rfl (lv_at hl 0 rfl) ?_
  refine q_gX12_127 cx hB hmo kmo hf0 dX12_endsText_2 (fun lb22 ub22 => ?_)
  refine q_pX12_151 cx hB hmo kmo ⟨by omega, by omega⟩ (by omega) (by omega) rfl dX12_endsText_5 (fun H locs f23 ef23 z24 hB => ?_)
  have z25 : q_is (q_z f23 mo 8) er := by rw [ef23, q_setz (Or.inr (by decide))]; exact hf0
  have z26 : q_is (q_z f23 mo 9) ep := by rw [ef23, q_setz (Or.inr (by decide))]; exact hf1
  refine q_ald_n cx dX12_endsText_8 rfl (lv_at hl 0 rfl) ?_
  refine q_ald_n cx dX12_endsText_9 rfl (lv_at hl 0 rfl) ?_
  refine q_gX12_13 cx hB hmo kmo z26 dX12_endsText_10 (fun lb27 ub27 => ?_)
  refine q_pX12_17 cx hB hmo kmo ⟨by omega, by omega⟩ (by omega) (by omega) rfl dX12_endsText_13 (fun H locs f28 ef28 z29 hB => ?_)
  have z30 : q_is (q_z f28 mo 8) er := by rw [ef28, q_setz (Or.inr (by decide))]; exact z25
  have z31 : q_is (q_z f28 mo 9) ep := by rw [ef28, q_setz (Or.inr (by decide))]; exact z26
  have z32 : q_is (q_z f28 mo 10) er := by rw [ef28, q_setz (Or.inr (by decide))]; exact z24
  refine q_ald_n cx dX12_endsText_16 rfl (lv_at hl 0 rfl) ?_
  refine q_ald_n cx dX12_endsText_17 rfl (lv_at hl 0 rfl) ?_
  refine q_gX12_127 cx hB hmo kmo z30 dX12_endsText_18 (fun lb33 ub33 => ?_)
  refine q_ifne (tgt := 28) cx ⟨by omega, by omega⟩ dX12_endsText_21 (by decide) (fun c34 => ?_) (fun c34 => ?_)
  · refine q_iconst cx dX12_endsText_28 ?_
    refine q_cVi (As := [.int (q_i 0)]) (rest := []) cx hB (fun _ h => h) hN hmo kmo (by decide) rfl (r_goes0 l g hN hB.2.1 mo hmo kmo 0 (by decide) (by decide)) q_cX12_85 q_dX12_goes (by decide) rfl rfl hl.1 rfl (Nat.le_of_ble_eq_true rfl) dX12_endsText_29 (fun y36 H locs f35 ry36 h37 hF hB => ?_)
    obtain ⟨qy36, z38⟩ := h37
    have z39 : q_is (q_z f35 mo 8) er := Eq.trans (hF.z hmo (by rw [kmo]; rfl)) z30
    have z40 : q_is (q_z f35 mo 9) ep := Eq.trans (hF.z hmo (by rw [kmo]; rfl)) z31
    have z41 : q_is (q_z f35 mo 10) er := Eq.trans (hF.z hmo (by rw [kmo]; rfl)) z32
    have z42 : q_is (q_z f35 mo 11) ep := Eq.trans (hF.z hmo (by rw [kmo]; rfl)) z29
    subst qy36
    refine q_zret cx hr hlk hB dX12_endsText_32 (by decide) (by decide) ?_
    exact ⟨rfl, z38, z41, z42⟩
  · exact absurd c34 (by omega)
set_option maxHeartbeats 4000000 in
set_option maxRecDepth 100000 in
theorem f_mreadText (l : Launch) (g : q_G) {K : Nat → Nat} {L : List Nat} (hN : L.Nodup) {f : Nat → va_E} (hT : q_Ty g K L f) (B : Nat → Int) (nl9 : List (List Int)) (mo : Nat) (hmo : mo ∈ L) (kmo : K mo = 12) (sr : Nat) (hsr : sr ∈ L) (ksr : K sr = 151) (as : Nat) (has : as ∈ L) (kas : K as = 153) (nm : Nat) (hnm : nm ∈ L) (knm : K nm = 156) (anm : Nat) (hanm : anm ∈ L) (kanm : K anm = 158) (bu : Nat) (hbu : bu ∈ L) (kbu : K bu = 150) (pa : Nat) (hpa : pa ∈ L) (kpa : K pa = 155) (xt : Int) (lxt : 0 ≤ xt) (uxt : xt ≤ 9999) (xm : Int) (lxm : 0 ≤ xm) (uxm : xm ≤ 60) (xc : Int) (lxc : 0 ≤ xc) (uxc : xc ≤ 10) (tn : Int) (ltn : 0 ≤ tn) (utn : tn ≤ 600) (hf0 : q_is (q_z f sr 3) xt) (hf1 : q_is (q_z f sr 4) xm) (hf2 : q_is (q_z f sr 0) xc) (hf3 : q_is (q_z f mo 2) tn) (hr0 : q_ir (q_r f mo 13) sr) (hr1 : q_ir (q_r f mo 15) as) (hr2 : q_ir (q_r f mo 18) nm) (hr3 : q_ir (q_r f mo 20) anm) (hr4 : q_ir (q_r f mo 1) bu) (hr5 : q_ir (q_r f mo 17) pa) (hgr : q_gr f sr) (hpk : q_pk f mo pa) (hpc : q_pc f mo pa xc) (hub : tk_ub f bu B tn) (hrn : tk_nq f nm nl9) : q_Ct l g K L yX12_readText cX12_readText 2 (some .int) 6 136 [.ref mo] f [(12, 0, 0), (12, 2, 12), (12, 21, 21), (12, 23, 23), (151, 0, 657), (153, 0, 657), (156, 0, 9), (158, 0, 9)] (q_Pi (fun (z : Int) (f1 : Nat → va_E) => (0 ≤ z ∧ z ≤ 10 ∧ 0 ≤ q_z f1 sr 3 ∧ q_z f1 sr 3 ≤ 9999 ∧ 0 ≤ q_z f1 sr 4 ∧ q_z f1 sr 4 ≤ 60 ∧ q_is (q_z f1 mo 2) 0 ∧ q_is (q_z f1 mo 0) 0 ∧ q_is (q_z f1 mo 10) 0 ∧ q_is (q_z f1 mo 11) (-1) ∧ q_is (q_z f1 mo 21) 0 ∧ (∃ A1 : tk_A, tk_T B tn (tk_S B tn 0) tk_A0 = tk_ok A1 ∧ z = ((tk_nd A1).length : Int) ∧ tk_nq f1 nm (tk_nd A1) ∧ ((tk_nd A1).length : Int) = q_z f1 sr 0) ∧ q_gr f1 sr ∧ (q_pk f1 mo pa)) ∨ (z = 0 ∧ 0 ≤ q_z f1 sr 3 ∧ q_z f1 sr 3 ≤ 9999 ∧ 0 ≤ q_z f1 sr 4 ∧ q_z f1 sr 4 ≤ 60 ∧ q_is (q_z f1 mo 2) 0 ∧ q_is (q_z f1 mo 0) 1 ∧ q_is (q_z f1 sr 0) xc ∧ (tk_T B tn (tk_S B tn 0) tk_A0 = tk_er (q_z f1 mo 10) (q_z f1 mo 11)) ∧ (tk_nq f1 nm nl9) ∧ (q_pc f1 mo pa xc) ∧ q_gr f1 sr ∧ (q_pk f1 mo pa)))) := by
  refine q_ofb (by decide +kernel) hN hT (Nat.le_of_ble_eq_true rfl) ?_
  intro p e s m below meth c ls cx hr hlk hB hl
  have hl : lv_has ls 2 [(0, .ref mo)] := hl
  have J84 : ∀ (n : Nat) (f84 : Nat → va_E) (v84_1 : Int) (lv84_1 : 0 ≤ v84_1) (uv84_1 : v84_1 ≤ 10) (w84_mo_8 : Int) (lw84_mo_8 : 0 ≤ w84_mo_8) (uw84_mo_8 : w84_mo_8 ≤ 0) (w84_mo_9 : Int) (lw84_mo_9 : (-1) ≤ w84_mo_9) (uw84_mo_9 : w84_mo_9 ≤ (-1)) (w84_mo_2 : Int) (lw84_mo_2 : 0 ≤ w84_mo_2) (uw84_mo_2 : w84_mo_2 ≤ 0) (w84_mo_5 : Int) (lw84_mo_5 : 0 ≤ w84_mo_5) (uw84_mo_5 : w84_mo_5 ≤ 600) (w84_as_2 : Int) (lw84_as_2 : 4 ≤ w84_as_2) (uw84_as_2 : w84_as_2 ≤ 60) (w84_sr_3 : Int) (lw84_sr_3 : 0 ≤ w84_sr_3) (uw84_sr_3 : w84_sr_3 ≤ 9999) (w84_sr_4 : Int) (lw84_sr_4 : 0 ≤ w84_sr_4) (uw84_sr_4 : w84_sr_4 ≤ 60) (w84_mo_0 : Int) (lw84_mo_0 : 0 ≤ w84_mo_0) (uw84_mo_0 : w84_mo_0 ≤ 0) (w84_mo_10 : Int) (lw84_mo_10 : 0 ≤ w84_mo_10) (uw84_mo_10 : w84_mo_10 ≤ 0) (w84_mo_11 : Int) (lw84_mo_11 : (-1) ≤ w84_mo_11) (uw84_mo_11 : w84_mo_11 ≤ (-1)) (hj_mo_8 : q_is (q_z f84 mo 8) w84_mo_8) (hj_mo_9 : q_is (q_z f84 mo 9) w84_mo_9) (hj_mo_2 : q_is (q_z f84 mo 2) w84_mo_2) (hj_mo_3 : q_is (q_z f84 mo 3) tn) (hj_mo_5 : q_is (q_z f84 mo 5) w84_mo_5) (hj_as_2 : q_is (q_z f84 as 2) w84_as_2) (hj_as_0 : q_is (q_z f84 as 0) xc) (hj_sr_3 : q_is (q_z f84 sr 3) w84_sr_3) (hj_sr_4 : q_is (q_z f84 sr 4) w84_sr_4) (hj_mo_0 : q_is (q_z f84 mo 0) w84_mo_0) (hj_mo_10 : q_is (q_z f84 mo 10) w84_mo_10) (hj_mo_11 : q_is (q_z f84 mo 11) w84_mo_11) (hq_mo_13 : q_ir (q_r f84 mo 13) sr) (hq_mo_15 : q_ir (q_r f84 mo 15) as) (hq_mo_18 : q_ir (q_r f84 mo 18) nm) (hq_mo_20 : q_ir (q_r f84 mo 20) anm) (hq_mo_1 : q_ir (q_r f84 mo 1) bu) (hq_mo_17 : q_ir (q_r f84 mo 17) pa) (hgr84 : q_gr f84 sr) (hpc84 : q_pc f84 mo pa xc) (hpk84 : q_pk f84 mo pa) (hra84 : tk_nq f84 anm nl9) (htr84 : tk_tr f84 mo B tn) (hub84 : tk_ub f84 bu B tn) (hal84 : ∃ A1 : tk_A, tk_T B tn (tk_S B tn 0) tk_A0 = tk_ok A1 ∧ tk_tm f84 mo sr nm A1) (hmu : (Int.toNat (2147483647 - v84_1)) < n) (H : Heap) (locs : List Loc) (hB : q_B g K L (fun q => q ∈ L) [(12, 0, 0), (12, 2, 12), (12, 21, 21), (12, 23, 23), (151, 0, 657), (153, 0, 657), (156, 0, 9), (158, 0, 9)] f f84 s H locs) (ls : Array Slot) (hl : lv_has ls 2 [(0, .ref mo), (1, .int (q_i v84_1))]), W p l e { frames := 6, cells := 0, slots := 0, locals := 136 } s m ([.ref mo] : List Value).toArray below meth c H locs 0 0 (MQ below (q_Q g K L [(12, 0, 0), (12, 2, 12), (12, 21, 21), (12, 23, 23), (151, 0, 657), (153, 0, 657), (156, 0, 9), (158, 0, 9)] f (q_Pi (fun (z : Int) (f1 : Nat → va_E) => (0 ≤ z ∧ z ≤ 10 ∧ 0 ≤ q_z f1 sr 3 ∧ q_z f1 sr 3 ≤ 9999 ∧ 0 ≤ q_z f1 sr 4 ∧ q_z f1 sr 4 ≤ 60 ∧ q_is (q_z f1 mo 2) 0 ∧ q_is (q_z f1 mo 0) 0 ∧ q_is (q_z f1 mo 10) 0 ∧ q_is (q_z f1 mo 11) (-1) ∧ q_is (q_z f1 mo 21) 0 ∧ (∃ A1 : tk_A, tk_T B tn (tk_S B tn 0) tk_A0 = tk_ok A1 ∧ z = ((tk_nd A1).length : Int) ∧ tk_nq f1 nm (tk_nd A1) ∧ ((tk_nd A1).length : Int) = q_z f1 sr 0) ∧ q_gr f1 sr ∧ (q_pk f1 mo pa)) ∨ (z = 0 ∧ 0 ≤ q_z f1 sr 3 ∧ q_z f1 sr 3 ≤ 9999 ∧ 0 ≤ q_z f1 sr 4 ∧ q_z f1 sr 4 ≤ 60 ∧ q_is (q_z f1 mo 2) 0 ∧ q_is (q_z f1 mo 0) 1 ∧ q_is (q_z f1 sr 0) xc ∧ (tk_T B tn (tk_S B tn 0) tk_A0 = tk_er (q_z f1 mo 10) (q_z f1 mo 11)) ∧ (tk_nq f1 nm nl9) ∧ (q_pc f1 mo pa xc) ∧ q_gr f1 sr ∧ (q_pk f1 mo pa))))) ([.ref mo] : List Value).toArray s 0 0 (fun q => q ∈ L)) (F0 m 84 ls []) := by
    intro n
    induction n with
    | zero =>
      intro f84 v84_1 lv84_1 uv84_1 w84_mo_8 lw84_mo_8 uw84_mo_8 w84_mo_9 lw84_mo_9 uw84_mo_9 w84_mo_2 lw84_mo_2 uw84_mo_2 w84_mo_5 lw84_mo_5 uw84_mo_5 w84_as_2 lw84_as_2 uw84_as_2 w84_sr_3 lw84_sr_3 uw84_sr_3 w84_sr_4 lw84_sr_4 uw84_sr_4 w84_mo_0 lw84_mo_0 uw84_mo_0 w84_mo_10 lw84_mo_10 uw84_mo_10 w84_mo_11 lw84_mo_11 uw84_mo_11 hj_mo_8 hj_mo_9 hj_mo_2 hj_mo_3 hj_mo_5 hj_as_2 hj_as_0 hj_sr_3 hj_sr_4 hj_mo_0 hj_mo_10 hj_mo_11 hq_mo_13 hq_mo_15 hq_mo_18 hq_mo_20 hq_mo_1 hq_mo_17 hgr84 hpc84 hpk84 hra84 htr84 hub84 hal84 hmu
      exact absurd hmu (Nat.not_lt_zero _)
    | succ n ih84 =>
      intro f84 v84_1 lv84_1 uv84_1 w84_mo_8 lw84_mo_8 uw84_mo_8 w84_mo_9 lw84_mo_9 uw84_mo_9 w84_mo_2 lw84_mo_2 uw84_mo_2 w84_mo_5 lw84_mo_5 uw84_mo_5 w84_as_2 lw84_as_2 uw84_as_2 w84_sr_3 lw84_sr_3 uw84_sr_3 w84_sr_4 lw84_sr_4 uw84_sr_4 w84_mo_0 lw84_mo_0 uw84_mo_0 w84_mo_10 lw84_mo_10 uw84_mo_10 w84_mo_11 lw84_mo_11 uw84_mo_11 hj_mo_8 hj_mo_9 hj_mo_2 hj_mo_3 hj_mo_5 hj_as_2 hj_as_0 hj_sr_3 hj_sr_4 hj_mo_0 hj_mo_10 hj_mo_11 hq_mo_13 hq_mo_15 hq_mo_18 hq_mo_20 hq_mo_1 hq_mo_17 hgr84 hpc84 hpk84 hra84 htr84 hub84 hal84 hmu H locs hB ls hl
      refine q_ild_n cx dX12_readText_84 rfl (lv_at hl 1 rfl) ?_
      obtain ⟨A7, hT7, htm7⟩ := hal84
      refine q_ald_n cx dX12_readText_85 rfl (lv_at hl 0 rfl) ?_
      refine q_gX12_20 cx hB hmo kmo hq_mo_13 dX12_readText_86 (fun hb1385 kb1385 => ?_)
      refine q_iconst cx dX12_readText_89 ?_
      obtain ⟨x1386, ex1386⟩ : ∃ zz, q_is (q_z f84 sr (Int.toNat 0)) zz := ⟨_, q_isr _⟩
      refine q_iald (lo := 0) (hi := 10) (n := 658) cx hB hsr ksr (by decide) rfl rfl (by decide) (by decide) (by decide) rfl ex1386 dX12_readText_90 (fun lb1387 ub1387 => ?_)
      refine q_icge (tgt := 138) cx ⟨by omega, by omega⟩ ⟨by omega, by omega⟩ dX12_readText_91 (by decide) (fun c1388 => ?_) (fun c1388 => ?_)
      · refine q_ald_n cx dX12_readText_138 rfl (lv_at hl 0 rfl) ?_
        refine q_iconst cx dX12_readText_139 ?_
        refine q_pX12_158 cx hB hmo kmo ⟨by decide, by decide⟩ (by decide) (by decide) rfl dX12_readText_140 (fun H locs f1389 ef1389 z1390 hB => ?_)
        have z1391 : q_is (q_z f1389 mo 8) w84_mo_8 := by rw [ef1389, q_setz (Or.inr (by decide))]; exact hj_mo_8
        have z1392 : q_is (q_z f1389 mo 9) w84_mo_9 := by rw [ef1389, q_setz (Or.inr (by decide))]; exact hj_mo_9
        have z1393 : q_is (q_z f1389 mo 2) w84_mo_2 := by rw [ef1389, q_setz (Or.inr (by decide))]; exact hj_mo_2
        have z1394 : q_is (q_z f1389 mo 3) tn := by rw [ef1389, q_setz (Or.inr (by decide))]; exact hj_mo_3
        have z1395 : q_is (q_z f1389 mo 5) w84_mo_5 := by rw [ef1389, q_setz (Or.inr (by decide))]; exact hj_mo_5
        have z1396 : q_is (q_z f1389 as 2) w84_as_2 := by rw [ef1389, q_setz (Or.inr (by decide))]; exact hj_as_2
        have z1397 : q_is (q_z f1389 as 0) xc := by rw [ef1389, q_setz (Or.inr (by decide))]; exact hj_as_0
        have z1398 : q_is (q_z f1389 sr 3) w84_sr_3 := by rw [ef1389, q_setz (Or.inr (by decide))]; exact hj_sr_3
        have z1399 : q_is (q_z f1389 sr 4) w84_sr_4 := by rw [ef1389, q_setz (Or.inr (by decide))]; exact hj_sr_4
        have z1400 : q_is (q_z f1389 mo 0) w84_mo_0 := by rw [ef1389, q_setz (Or.inr (by decide))]; exact hj_mo_0
        have z1401 : q_is (q_z f1389 mo 10) w84_mo_10 := by rw [ef1389, q_setz (Or.inr (by decide))]; exact hj_mo_10
        have z1402 : q_is (q_z f1389 mo 11) w84_mo_11 := by rw [ef1389, q_setz (Or.inr (by decide))]; exact hj_mo_11
        have z1403 : q_is (q_z f1389 sr 0) x1386 := by rw [ef1389, q_setz (Or.inr (by decide))]; exact ex1386
        have z1404 : q_ir (q_r f1389 mo 13) sr := by rw [ef1389, q_setr (Or.inr (by decide))]; exact hq_mo_13
        have z1405 : q_ir (q_r f1389 mo 15) as := by rw [ef1389, q_setr (Or.inr (by decide))]; exact hq_mo_15
        have z1406 : q_ir (q_r f1389 mo 18) nm := by rw [ef1389, q_setr (Or.inr (by decide))]; exact hq_mo_18
        have z1407 : q_ir (q_r f1389 mo 20) anm := by rw [ef1389, q_setr (Or.inr (by decide))]; exact hq_mo_20
        have z1408 : q_ir (q_r f1389 mo 1) bu := by rw [ef1389, q_setr (Or.inr (by decide))]; exact hq_mo_1
        have z1409 : q_ir (q_r f1389 mo 17) pa := by rw [ef1389, q_setr (Or.inr (by decide))]; exact hq_mo_17
        have g1410 : q_gr f1389 sr := q_gr_ne hgr84 ef1389 (fun q => q_kne (k := 151) (k2 := 12) (by decide) ksr kmo q)
        have g1411 : tk_ub f1389 bu B tn := tk_ub_tr hub84 (fun i9 => by rw [ef1389, q_setz (Or.inl (fun q => by rw [q, kmo] at kbu; exact absurd kbu (by decide)))])
        have g1412 : tk_tr f1389 mo B tn := tk_tr_tr htr84 (by rw [ef1389, q_setz (Or.inr (by decide))]) (by rw [ef1389, q_setz (Or.inr (by decide))]) (by rw [ef1389, q_setz (Or.inr (by decide))]) (by rw [ef1389, q_setz (Or.inr (by decide))]) (by rw [ef1389, q_setj (Or.inr (by decide))])
        have g1413 : tk_nq f1389 anm nl9 := tk_nq_tr hra84 (fun i9 => by rw [ef1389, q_setj (Or.inl (fun q => by rw [q, kmo] at kanm; exact absurd kanm (by decide)))])
        have g1414 : tk_tm f1389 mo sr nm A7 := tk_tm_tr htm7 (by rw [ef1389, q_setz (Or.inr (by decide))]) (fun i9 h9 k9 => by rw [ef1389, q_setz (Or.inl (fun q => by rw [q, kmo] at ksr; exact absurd ksr (by decide)))]) (fun i9 h9 k9 => by rw [ef1389, q_setz (Or.inl (fun q => by rw [q, kmo] at ksr; exact absurd ksr (by decide)))]) (fun i9 => by rw [ef1389, q_setj (Or.inl (fun q => by rw [q, kmo] at knm; exact absurd knm (by decide)))])
        have hpk0 : q_pk f1389 mo pa := k_pk0 z1390
        refine q_ald_n cx dX12_readText_143 rfl (lv_at hl 0 rfl) ?_
        refine q_gX12_20 cx hB hmo kmo z1404 dX12_readText_144 (fun hb1415 kb1415 => ?_)
        refine q_iconst cx dX12_readText_147 ?_
        refine q_iald (lo := 0) (hi := 10) (n := 658) cx hB hsr ksr (by decide) rfl rfl (by decide) (by decide) (by decide) rfl z1403 dX12_readText_148 (fun lb1417 ub1417 => ?_)
        refine q_iret cx hr hlk hB dX12_readText_149 ⟨by omega, by omega⟩ ?_
        exact (Or.inl ⟨(by omega), (by omega), (q_isl z1398 (by omega)), (q_isu z1398 (by omega)), (q_isl z1399 (by omega)), (q_isu z1399 (by omega)), (Eq.trans z1393 (by omega)), (Eq.trans z1400 (by omega)), (Eq.trans z1401 (by omega)), (Eq.trans z1402 (by omega)), z1390, ⟨A7, hT7, (tk_tm_nn g1414 z1403).symm, tk_tm_rn g1414, tk_tm_nn g1414 (rfl : q_z f1389 sr 0 = q_z f1389 sr 0)⟩, g1410, hpk0⟩)
      · refine q_ald_n cx dX12_readText_94 rfl (lv_at hl 0 rfl) ?_
        refine q_ild_n cx dX12_readText_95 rfl (lv_at hl 1 rfl) ?_
        refine q_iconst cx dX12_readText_96 ?_
        refine q_ald_n cx dX12_readText_97 rfl (lv_at hl 0 rfl) ?_
        refine q_ild_n cx dX12_readText_98 rfl (lv_at hl 1 rfl) ?_
        refine q_iconst cx dX12_readText_99 ?_
        refine q_cVi (As := [.int (q_i v84_1), .int (q_i 0)]) (rest := [.int (q_i 0), .int (q_i v84_1), .ref mo]) cx hB (fun _ h => h) hN hmo kmo (by decide) rfl (r_ofNode0 l g hN hB.2.1 mo hmo kmo v84_1 (by omega) (by omega) 0 (by decide) (by decide) sr hsr ksr hq_mo_13 hgr84) q_cX12_256 q_dX12_ofNode (by decide) rfl rfl hl.1 rfl (Nat.le_of_ble_eq_true rfl) dX12_readText_100 (fun y1419 H locs f1418 ry1419 h1420 hF hB => ?_)
        obtain ⟨rfl, ly1419, uy1419⟩ := h1420
        refine q_ald_n cx dX12_readText_103 rfl (lv_at hl 0 rfl) ?_
        refine q_gX12_20 cx hB hmo kmo hq_mo_13 dX12_readText_104 (fun hb1421 kb1421 => ?_)
        refine q_iconst cx dX12_readText_107 ?_
        obtain ⟨x1422, ex1422⟩ : ∃ zz, q_is (q_z f84 sr (Int.toNat 2)) zz := ⟨_, q_isr _⟩
        refine q_sald cx hB hsr ksr (by decide) (by decide) ex1422 dX12_readText_108 (fun rx1422 => ?_)
        obtain ⟨lx1422, ux1422⟩ : 4 ≤ x1422 ∧ x1422 ≤ 60 := q_isb ex1422 (q_gr_at hgr84 (by decide) rfl)
        refine q_irem cx ⟨by omega, by omega⟩ ⟨by omega, by omega⟩ (by omega) dX12_readText_109 (fun y1424 ey1424 ay1424 by1424 ny1424 => ?_)
        refine q_cVv (As := [.int (q_i v84_1), .int (q_i 0), .int (q_i y1424)]) (rest := []) cx hB (fun _ h => h) hN hmo kmo (by decide) rfl (r_setsNode0 l g hN hB.2.1 mo hmo kmo v84_1 (by omega) (by omega) 0 (by decide) (by decide) y1424 (by omega) (by omega) sr hsr ksr hq_mo_13 hgr84) q_cX12_202 q_dX12_setsNode (by decide) rfl rfl hl.1 rfl (Nat.le_of_ble_eq_true rfl) dX12_readText_110 (fun H locs f1425 h1427 hF hB => ?_)
        have g1428 := h1427
        have z1429 : q_is (q_z f1425 mo 8) w84_mo_8 := Eq.trans (hF.z hmo (by rw [kmo]; rfl)) hj_mo_8
        have z1430 : q_is (q_z f1425 mo 9) w84_mo_9 := Eq.trans (hF.z hmo (by rw [kmo]; rfl)) hj_mo_9
        have z1431 : q_is (q_z f1425 mo 2) w84_mo_2 := Eq.trans (hF.z hmo (by rw [kmo]; rfl)) hj_mo_2
        have z1432 : q_is (q_z f1425 mo 3) tn := Eq.trans (hF.z hmo (by rw [kmo]; rfl)) hj_mo_3
        have z1433 : q_is (q_z f1425 mo 5) w84_mo_5 := Eq.trans (hF.z hmo (by rw [kmo]; rfl)) hj_mo_5
        have z1434 : q_is (q_z f1425 as 2) w84_as_2 := Eq.trans (hF.z has (by rw [kas]; rfl)) hj_as_2
        have z1435 : q_is (q_z f1425 as 0) xc := Eq.trans (hF.z has (by rw [kas]; rfl)) hj_as_0
        have z1436 : q_is (q_z f1425 sr 3) w84_sr_3 := Eq.trans (hF.z hsr (by rw [ksr]; rfl)) hj_sr_3
        have z1437 : q_is (q_z f1425 sr 4) w84_sr_4 := Eq.trans (hF.z hsr (by rw [ksr]; rfl)) hj_sr_4
        have z1438 : q_is (q_z f1425 mo 0) w84_mo_0 := Eq.trans (hF.z hmo (by rw [kmo]; rfl)) hj_mo_0
        have z1439 : q_is (q_z f1425 mo 10) w84_mo_10 := Eq.trans (hF.z hmo (by rw [kmo]; rfl)) hj_mo_10
        have z1440 : q_is (q_z f1425 mo 11) w84_mo_11 := Eq.trans (hF.z hmo (by rw [kmo]; rfl)) hj_mo_11
        have z1441 : q_is (q_z f1425 sr 0) x1386 := Eq.trans (hF.z hsr (by rw [ksr]; rfl)) ex1386
        have z1442 : q_is (q_z f1425 sr 2) x1422 := Eq.trans (hF.z hsr (by rw [ksr]; rfl)) ex1422
        have z1443 : q_ir (q_r f1425 mo 13) sr := Eq.trans (hF.r hmo (by rw [kmo]; rfl)) hq_mo_13
        have z1444 : q_ir (q_r f1425 mo 15) as := Eq.trans (hF.r hmo (by rw [kmo]; rfl)) hq_mo_15
        have z1445 : q_ir (q_r f1425 mo 18) nm := Eq.trans (hF.r hmo (by rw [kmo]; rfl)) hq_mo_18
        have z1446 : q_ir (q_r f1425 mo 20) anm := Eq.trans (hF.r hmo (by rw [kmo]; rfl)) hq_mo_20
        have z1447 : q_ir (q_r f1425 mo 1) bu := Eq.trans (hF.r hmo (by rw [kmo]; rfl)) hq_mo_1
        have z1448 : q_ir (q_r f1425 mo 17) pa := Eq.trans (hF.r hmo (by rw [kmo]; rfl)) hq_mo_17
        have g1449 : q_pk f1425 mo pa := q_pk_tr hpk84 (hF.z hmo (by rw [kmo]; rfl)) (fun i9 => hF.z hpa (by rw [kpa]; rfl))
        have g1450 : q_pc f1425 mo pa xc := q_pc_tr hpc84 (hF.z hmo (by rw [kmo]; rfl)) (fun i9 => hF.z hpa (by rw [kpa]; rfl))
        have g1451 : tk_ub f1425 bu B tn := tk_ub_tr hub84 (fun i9 => hF.z hbu (by rw [kbu]; rfl))
        have g1452 : tk_tr f1425 mo B tn := tk_tr_tr htr84 (hF.z hmo (by rw [kmo]; rfl)) (hF.z hmo (by rw [kmo]; rfl)) (hF.z hmo (by rw [kmo]; rfl)) (hF.z hmo (by rw [kmo]; rfl)) (hF.j hmo (by rw [kmo]; rfl))
        have g1453 : tk_nq f1425 anm nl9 := tk_nq_tr hra84 (fun i9 => hF.j hanm (by rw [kanm]; rfl))
        have g1454 : tk_tm f1425 mo sr nm A7 := tk_tm_tr htm7 (hF.z hmo (by rw [kmo]; rfl)) (fun i9 h9 k9 => hF.z hsr (by rw [ksr]; exact q_inWr rfl h9 k9)) (fun i9 h9 k9 => hF.z hsr (by rw [ksr]; exact q_inWr rfl h9 k9)) (fun i9 => hF.j hnm (by rw [knm]; rfl))
        refine q_ald_n cx dX12_readText_113 rfl (lv_at hl 0 rfl) ?_
        refine q_ild_n cx dX12_readText_114 rfl (lv_at hl 1 rfl) ?_
        refine q_iconst cx dX12_readText_115 ?_
        refine q_ald_n cx dX12_readText_116 rfl (lv_at hl 0 rfl) ?_
        refine q_ild_n cx dX12_readText_117 rfl (lv_at hl 1 rfl) ?_
        refine q_iconst cx dX12_readText_118 ?_
        refine q_cVi (As := [.int (q_i v84_1), .int (q_i 1)]) (rest := [.int (q_i 1), .int (q_i v84_1), .ref mo]) cx hB (fun _ h => h) hN hmo kmo (by decide) rfl (r_ofNode1 l g hN hB.2.1 mo hmo kmo v84_1 (by omega) (by omega) 1 (by decide) (by decide) sr hsr ksr z1443 g1428) q_cX12_256 q_dX12_ofNode (by decide) rfl rfl hl.1 rfl (Nat.le_of_ble_eq_true rfl) dX12_readText_119 (fun y1456 H locs f1455 ry1456 h1457 hF hB => ?_)
        obtain ⟨rfl, ly1456, uy1456⟩ := h1457
        refine q_ald_n cx dX12_readText_122 rfl (lv_at hl 0 rfl) ?_
        refine q_gX12_20 cx hB hmo kmo z1443 dX12_readText_123 (fun hb1458 kb1458 => ?_)
        refine q_iconst cx dX12_readText_126 ?_
        refine q_iald (lo := (-2147483648)) (hi := 2147483647) (n := 658) cx hB hsr ksr (by decide) rfl rfl (by decide) (by decide) (by decide) rfl z1442 dX12_readText_127 (fun lb1460 ub1460 => ?_)
        refine q_irem cx ⟨by omega, by omega⟩ ⟨by omega, by omega⟩ (by omega) dX12_readText_128 (fun y1461 ey1461 ay1461 by1461 ny1461 => ?_)
        refine q_cVv (As := [.int (q_i v84_1), .int (q_i 1), .int (q_i y1461)]) (rest := []) cx hB (fun _ h => h) hN hmo kmo (by decide) rfl (r_setsNode1 l g hN hB.2.1 mo hmo kmo v84_1 (by omega) (by omega) 1 (by decide) (by decide) y1461 (by omega) (by omega) sr hsr ksr z1443 g1428) q_cX12_202 q_dX12_setsNode (by decide) rfl rfl hl.1 rfl (Nat.le_of_ble_eq_true rfl) dX12_readText_129 (fun H locs f1462 h1464 hF hB => ?_)
        have g1465 := h1464
        have z1466 : q_is (q_z f1462 mo 8) w84_mo_8 := Eq.trans (hF.z hmo (by rw [kmo]; rfl)) z1429
        have z1467 : q_is (q_z f1462 mo 9) w84_mo_9 := Eq.trans (hF.z hmo (by rw [kmo]; rfl)) z1430
        have z1468 : q_is (q_z f1462 mo 2) w84_mo_2 := Eq.trans (hF.z hmo (by rw [kmo]; rfl)) z1431
        have z1469 : q_is (q_z f1462 mo 3) tn := Eq.trans (hF.z hmo (by rw [kmo]; rfl)) z1432
        have z1470 : q_is (q_z f1462 mo 5) w84_mo_5 := Eq.trans (hF.z hmo (by rw [kmo]; rfl)) z1433
        have z1471 : q_is (q_z f1462 as 2) w84_as_2 := Eq.trans (hF.z has (by rw [kas]; rfl)) z1434
        have z1472 : q_is (q_z f1462 as 0) xc := Eq.trans (hF.z has (by rw [kas]; rfl)) z1435
        have z1473 : q_is (q_z f1462 sr 3) w84_sr_3 := Eq.trans (hF.z hsr (by rw [ksr]; rfl)) z1436
        have z1474 : q_is (q_z f1462 sr 4) w84_sr_4 := Eq.trans (hF.z hsr (by rw [ksr]; rfl)) z1437
        have z1475 : q_is (q_z f1462 mo 0) w84_mo_0 := Eq.trans (hF.z hmo (by rw [kmo]; rfl)) z1438
        have z1476 : q_is (q_z f1462 mo 10) w84_mo_10 := Eq.trans (hF.z hmo (by rw [kmo]; rfl)) z1439
        have z1477 : q_is (q_z f1462 mo 11) w84_mo_11 := Eq.trans (hF.z hmo (by rw [kmo]; rfl)) z1440
        have z1478 : q_is (q_z f1462 sr 0) x1386 := Eq.trans (hF.z hsr (by rw [ksr]; rfl)) z1441
        have z1479 : q_is (q_z f1462 sr 2) x1422 := Eq.trans (hF.z hsr (by rw [ksr]; rfl)) z1442
        have z1480 : q_ir (q_r f1462 mo 13) sr := Eq.trans (hF.r hmo (by rw [kmo]; rfl)) z1443
        have z1481 : q_ir (q_r f1462 mo 15) as := Eq.trans (hF.r hmo (by rw [kmo]; rfl)) z1444
        have z1482 : q_ir (q_r f1462 mo 18) nm := Eq.trans (hF.r hmo (by rw [kmo]; rfl)) z1445
        have z1483 : q_ir (q_r f1462 mo 20) anm := Eq.trans (hF.r hmo (by rw [kmo]; rfl)) z1446
        have z1484 : q_ir (q_r f1462 mo 1) bu := Eq.trans (hF.r hmo (by rw [kmo]; rfl)) z1447
        have z1485 : q_ir (q_r f1462 mo 17) pa := Eq.trans (hF.r hmo (by rw [kmo]; rfl)) z1448
        have g1486 : q_pk f1462 mo pa := q_pk_tr g1449 (hF.z hmo (by rw [kmo]; rfl)) (fun i9 => hF.z hpa (by rw [kpa]; rfl))
        have g1487 : q_pc f1462 mo pa xc := q_pc_tr g1450 (hF.z hmo (by rw [kmo]; rfl)) (fun i9 => hF.z hpa (by rw [kpa]; rfl))
        have g1488 : tk_ub f1462 bu B tn := tk_ub_tr g1451 (fun i9 => hF.z hbu (by rw [kbu]; rfl))
        have g1489 : tk_tr f1462 mo B tn := tk_tr_tr g1452 (hF.z hmo (by rw [kmo]; rfl)) (hF.z hmo (by rw [kmo]; rfl)) (hF.z hmo (by rw [kmo]; rfl)) (hF.z hmo (by rw [kmo]; rfl)) (hF.j hmo (by rw [kmo]; rfl))
        have g1490 : tk_nq f1462 anm nl9 := tk_nq_tr g1453 (fun i9 => hF.j hanm (by rw [kanm]; rfl))
        have g1491 : tk_tm f1462 mo sr nm A7 := tk_tm_tr g1454 (hF.z hmo (by rw [kmo]; rfl)) (fun i9 h9 k9 => hF.z hsr (by rw [ksr]; exact q_inWr rfl h9 k9)) (fun i9 h9 k9 => hF.z hsr (by rw [ksr]; exact q_inWr rfl h9 k9)) (fun i9 => hF.j hnm (by rw [knm]; rfl))
        refine q_iinc (lv' := [(1, .int (q_i (v84_1 + 1))), (0, .ref mo)]) cx dX12_readText_132 hl (k := 1) rfl (by decide) rfl (fun ls hl => ?_)
        refine lv_goto (tgt := 84) cx.1 cx.2.1 dX12_readText_135 (by decide) ?_
        exact ih84 f1462 (v84_1 + 1) (by omega) (by omega) w84_mo_8 (by omega) (by omega) w84_mo_9 (by omega) (by omega) w84_mo_2 (by omega) (by omega) w84_mo_5 (by omega) (by omega) w84_as_2 (by omega) (by omega) w84_sr_3 (by omega) (by omega) w84_sr_4 (by omega) (by omega) w84_mo_0 (by omega) (by omega) w84_mo_10 (by omega) (by omega) w84_mo_11 (by omega) (by omega) z1466 z1467 z1468 z1469 z1470 z1471 z1472 z1473 z1474 z1475 z1476 z1477 z1480 z1481 z1482 z1483 z1484 z1485 g1465 g1487 g1486 g1490 g1489 g1488 ⟨A7, hT7, g1491⟩ (by omega) H locs hB ls (lv_sub hl [1, 0] rfl)
  have J28 : ∀ (n : Nat) (f28 : Nat → va_E) (w28_mo_8 : Int) (lw28_mo_8 : 0 ≤ w28_mo_8) (uw28_mo_8 : w28_mo_8 ≤ 0) (w28_mo_9 : Int) (lw28_mo_9 : (-1) ≤ w28_mo_9) (uw28_mo_9 : w28_mo_9 ≤ (-1)) (w28_mo_2 : Int) (lw28_mo_2 : 0 ≤ w28_mo_2) (uw28_mo_2 : w28_mo_2 ≤ 0) (w28_mo_5 : Int) (lw28_mo_5 : 0 ≤ w28_mo_5) (uw28_mo_5 : w28_mo_5 ≤ 600) (w28_as_2 : Int) (lw28_as_2 : 4 ≤ w28_as_2) (uw28_as_2 : w28_as_2 ≤ 60) (w28_sr_3 : Int) (lw28_sr_3 : 0 ≤ w28_sr_3) (uw28_sr_3 : w28_sr_3 ≤ 9999) (w28_sr_4 : Int) (lw28_sr_4 : 0 ≤ w28_sr_4) (uw28_sr_4 : w28_sr_4 ≤ 60) (hj_mo_8 : q_is (q_z f28 mo 8) w28_mo_8) (hj_mo_9 : q_is (q_z f28 mo 9) w28_mo_9) (hj_mo_2 : q_is (q_z f28 mo 2) w28_mo_2) (hj_mo_3 : q_is (q_z f28 mo 3) tn) (hj_mo_5 : q_is (q_z f28 mo 5) w28_mo_5) (hj_as_2 : q_is (q_z f28 as 2) w28_as_2) (hj_as_0 : q_is (q_z f28 as 0) xc) (hj_sr_3 : q_is (q_z f28 sr 3) w28_sr_3) (hj_sr_4 : q_is (q_z f28 sr 4) w28_sr_4) (hq_mo_13 : q_ir (q_r f28 mo 13) sr) (hq_mo_15 : q_ir (q_r f28 mo 15) as) (hq_mo_18 : q_ir (q_r f28 mo 18) nm) (hq_mo_20 : q_ir (q_r f28 mo 20) anm) (hq_mo_1 : q_ir (q_r f28 mo 1) bu) (hq_mo_17 : q_ir (q_r f28 mo 17) pa) (hgr28 : q_gr f28 sr) (hpc28 : q_pc f28 mo pa xc) (hpk28 : q_pk f28 mo pa) (hra28 : tk_nq f28 anm nl9) (htr28 : tk_tr f28 mo B tn) (hub28 : tk_ub f28 bu B tn) (hrl28_0 : 0 ≤ 1 * tn + -1 * w28_mo_5 + 0) (hal : ∃ A1 : tk_A, tk_T B tn (tk_S B tn 0) tk_A0 = tk_T B tn w28_mo_5 A1 ∧ tk_tm f28 mo sr nm A1) (hmu : (Int.toNat (601 - w28_mo_5)) < n) (H : Heap) (locs : List Loc) (hB : q_B g K L (fun q => q ∈ L) [(12, 0, 0), (12, 2, 12), (12, 21, 21), (12, 23, 23), (151, 0, 657), (153, 0, 657), (156, 0, 9), (158, 0, 9)] f f28 s H locs) (ls : Array Slot) (hl : lv_has ls 2 [(0, .ref mo)]), W p l e { frames := 6, cells := 0, slots := 0, locals := 136 } s m ([.ref mo] : List Value).toArray below meth c H locs 0 0 (MQ below (q_Q g K L [(12, 0, 0), (12, 2, 12), (12, 21, 21), (12, 23, 23), (151, 0, 657), (153, 0, 657), (156, 0, 9), (158, 0, 9)] f (q_Pi (fun (z : Int) (f1 : Nat → va_E) => (0 ≤ z ∧ z ≤ 10 ∧ 0 ≤ q_z f1 sr 3 ∧ q_z f1 sr 3 ≤ 9999 ∧ 0 ≤ q_z f1 sr 4 ∧ q_z f1 sr 4 ≤ 60 ∧ q_is (q_z f1 mo 2) 0 ∧ q_is (q_z f1 mo 0) 0 ∧ q_is (q_z f1 mo 10) 0 ∧ q_is (q_z f1 mo 11) (-1) ∧ q_is (q_z f1 mo 21) 0 ∧ (∃ A1 : tk_A, tk_T B tn (tk_S B tn 0) tk_A0 = tk_ok A1 ∧ z = ((tk_nd A1).length : Int) ∧ tk_nq f1 nm (tk_nd A1) ∧ ((tk_nd A1).length : Int) = q_z f1 sr 0) ∧ q_gr f1 sr ∧ (q_pk f1 mo pa)) ∨ (z = 0 ∧ 0 ≤ q_z f1 sr 3 ∧ q_z f1 sr 3 ≤ 9999 ∧ 0 ≤ q_z f1 sr 4 ∧ q_z f1 sr 4 ≤ 60 ∧ q_is (q_z f1 mo 2) 0 ∧ q_is (q_z f1 mo 0) 1 ∧ q_is (q_z f1 sr 0) xc ∧ (tk_T B tn (tk_S B tn 0) tk_A0 = tk_er (q_z f1 mo 10) (q_z f1 mo 11)) ∧ (tk_nq f1 nm nl9) ∧ (q_pc f1 mo pa xc) ∧ q_gr f1 sr ∧ (q_pk f1 mo pa))))) ([.ref mo] : List Value).toArray s 0 0 (fun q => q ∈ L)) (F0 m 28 ls []) := by
    intro n
    induction n with
    | zero =>
      intro f28 w28_mo_8 lw28_mo_8 uw28_mo_8 w28_mo_9 lw28_mo_9 uw28_mo_9 w28_mo_2 lw28_mo_2 uw28_mo_2 w28_mo_5 lw28_mo_5 uw28_mo_5 w28_as_2 lw28_as_2 uw28_as_2 w28_sr_3 lw28_sr_3 uw28_sr_3 w28_sr_4 lw28_sr_4 uw28_sr_4 hj_mo_8 hj_mo_9 hj_mo_2 hj_mo_3 hj_mo_5 hj_as_2 hj_as_0 hj_sr_3 hj_sr_4 hq_mo_13 hq_mo_15 hq_mo_18 hq_mo_20 hq_mo_1 hq_mo_17 hgr28 hpc28 hpk28 hra28 htr28 hub28 hrl28_0 hal hmu
      exact absurd hmu (Nat.not_lt_zero _)
    | succ n ih28 =>
      intro f28 w28_mo_8 lw28_mo_8 uw28_mo_8 w28_mo_9 lw28_mo_9 uw28_mo_9 w28_mo_2 lw28_mo_2 uw28_mo_2 w28_mo_5 lw28_mo_5 uw28_mo_5 w28_as_2 lw28_as_2 uw28_as_2 w28_sr_3 lw28_sr_3 uw28_sr_3 w28_sr_4 lw28_sr_4 uw28_sr_4 hj_mo_8 hj_mo_9 hj_mo_2 hj_mo_3 hj_mo_5 hj_as_2 hj_as_0 hj_sr_3 hj_sr_4 hq_mo_13 hq_mo_15 hq_mo_18 hq_mo_20 hq_mo_1 hq_mo_17 hgr28 hpc28 hpk28 hra28 htr28 hub28 hrl28_0 hal hmu H locs hB ls hl
      refine q_ald_n cx dX12_readText_28 rfl (lv_at hl 0 rfl) ?_
      obtain ⟨A9, hA9, htm9⟩ := hal
      refine q_cVi (As := []) (rest := []) cx hB (fun _ h => h) hN hmo kmo (by decide) rfl (f_misGood l g hN hB.2.1 mo hmo kmo (Eq.trans hj_mo_8 (by omega))) q_cX12_130 q_dX12_isGood (by decide) rfl rfl hl.1 rfl (Nat.le_of_ble_eq_true rfl) dX12_readText_29 (fun y1493 H locs f1492 ry1493 h1494 hF hB => ?_)
      obtain ⟨rfl, qy1493⟩ := h1494
      subst qy1493
      refine q_ifeq (tgt := 49) cx ⟨by decide, by decide⟩ dX12_readText_32 (by decide) (fun c1495 => ?_) (fun c1495 => ?_)
      · exact absurd c1495 (by omega)
      · refine q_ald_n cx dX12_readText_35 rfl (lv_at hl 0 rfl) ?_
        obtain ⟨x1496, ex1496⟩ : ∃ zz, q_is (q_z f28 mo 6) zz := ⟨_, q_isr _⟩
        refine q_gX12_117 cx hB hmo kmo ex1496 dX12_readText_36 (fun lb1497 ub1497 => ?_)
        refine q_ifeq (tgt := 49) cx ⟨by omega, by omega⟩ dX12_readText_39 (by decide) (fun c1498 => ?_) (fun c1498 => ?_)
        · refine q_ald_n cx dX12_readText_49 rfl (lv_at hl 0 rfl) ?_
          refine q_cVi (As := []) (rest := []) cx hB (fun _ h => h) hN hmo kmo (by decide) rfl (f_mendsText0 l g hN hB.2.1 mo hmo kmo (Eq.trans hj_mo_8 (by omega)) (Eq.trans hj_mo_9 (by omega))) q_cX12_253 q_dX12_endsText (by decide) rfl rfl hl.1 rfl (Nat.le_of_ble_eq_true rfl) dX12_readText_50 (fun y1500 H locs f1499 ry1500 h1501 hF hB => ?_)
          obtain ⟨qy1500, z1502, z1503, z1504⟩ := h1501
          have z1505 : q_is (q_z f1499 mo 8) w28_mo_8 := Eq.trans (hF.z hmo (by rw [kmo]; rfl)) hj_mo_8
          have z1506 : q_is (q_z f1499 mo 9) w28_mo_9 := Eq.trans (hF.z hmo (by rw [kmo]; rfl)) hj_mo_9
          have z1507 : q_is (q_z f1499 mo 2) w28_mo_2 := Eq.trans (hF.z hmo (by rw [kmo]; rfl)) hj_mo_2
          have z1508 : q_is (q_z f1499 mo 3) tn := Eq.trans (hF.z hmo (by rw [kmo]; rfl)) hj_mo_3
          have z1509 : q_is (q_z f1499 mo 5) w28_mo_5 := Eq.trans (hF.z hmo (by rw [kmo]; rfl)) hj_mo_5
          have z1510 : q_is (q_z f1499 as 2) w28_as_2 := Eq.trans (hF.z has (by rw [kas]; rfl)) hj_as_2
          have z1511 : q_is (q_z f1499 as 0) xc := Eq.trans (hF.z has (by rw [kas]; rfl)) hj_as_0
          have z1512 : q_is (q_z f1499 sr 3) w28_sr_3 := Eq.trans (hF.z hsr (by rw [ksr]; rfl)) hj_sr_3
          have z1513 : q_is (q_z f1499 sr 4) w28_sr_4 := Eq.trans (hF.z hsr (by rw [ksr]; rfl)) hj_sr_4
          have z1514 : q_is (q_z f1499 mo 6) x1496 := Eq.trans (hF.z hmo (by rw [kmo]; rfl)) ex1496
          have z1515 : q_ir (q_r f1499 mo 13) sr := Eq.trans (hF.r hmo (by rw [kmo]; rfl)) hq_mo_13
          have z1516 : q_ir (q_r f1499 mo 15) as := Eq.trans (hF.r hmo (by rw [kmo]; rfl)) hq_mo_15
          have z1517 : q_ir (q_r f1499 mo 18) nm := Eq.trans (hF.r hmo (by rw [kmo]; rfl)) hq_mo_18
          have z1518 : q_ir (q_r f1499 mo 20) anm := Eq.trans (hF.r hmo (by rw [kmo]; rfl)) hq_mo_20
          have z1519 : q_ir (q_r f1499 mo 1) bu := Eq.trans (hF.r hmo (by rw [kmo]; rfl)) hq_mo_1
          have z1520 : q_ir (q_r f1499 mo 17) pa := Eq.trans (hF.r hmo (by rw [kmo]; rfl)) hq_mo_17
          have g1521 : q_gr f1499 sr := q_gr_fr hgr28 (fun i9 _ => hF.z hsr (by rw [ksr]; rfl))
          have g1522 : q_pk f1499 mo pa := q_pk_tr hpk28 (hF.z hmo (by rw [kmo]; rfl)) (fun i9 => hF.z hpa (by rw [kpa]; rfl))
          have g1523 : q_pc f1499 mo pa xc := q_pc_tr hpc28 (hF.z hmo (by rw [kmo]; rfl)) (fun i9 => hF.z hpa (by rw [kpa]; rfl))
          have g1524 : tk_ub f1499 bu B tn := tk_ub_tr hub28 (fun i9 => hF.z hbu (by rw [kbu]; rfl))
          have g1525 : tk_tr f1499 mo B tn := tk_tr_tr htr28 (hF.z hmo (by rw [kmo]; rfl)) (hF.z hmo (by rw [kmo]; rfl)) (hF.z hmo (by rw [kmo]; rfl)) (hF.z hmo (by rw [kmo]; rfl)) (hF.j hmo (by rw [kmo]; rfl))
          have g1526 : tk_nq f1499 anm nl9 := tk_nq_tr hra28 (fun i9 => hF.j hanm (by rw [kanm]; rfl))
          have g1527 : tk_tm f1499 mo sr nm A9 := tk_tm_tr htm9 (hF.z hmo (by rw [kmo]; rfl)) (fun i9 h9 k9 => hF.z hsr (by rw [ksr]; exact q_inWr rfl h9 k9)) (fun i9 h9 k9 => hF.z hsr (by rw [ksr]; exact q_inWr rfl h9 k9)) (fun i9 => hF.j hnm (by rw [knm]; rfl))
          subst qy1500
          refine q_ifne (tgt := 82) cx ⟨by decide, by decide⟩ dX12_readText_53 (by decide) (fun c1528 => ?_) (fun c1528 => ?_)
          · have hT9 : tk_T B tn (tk_S B tn 0) tk_A0 = tk_ok A9 := hA9.trans (tk_T_end (tk_so_0 (tk_tr_s htr28 hj_mo_5 ex1496) (by omega)))
            refine q_iconst cx dX12_readText_82 ?_
            refine lv_istore_n (lv' := [(1, .int (q_i 0)), (0, .ref mo)]) cx.1 cx.2.1 dX12_readText_83 rfl hl (by decide) rfl (fun ls hl => ?_)
            exact J84 ((Int.toNat (2147483647 - 0)) + 1) f1499 0 (by decide) (by decide) w28_mo_8 (by omega) (by omega) w28_mo_9 (by omega) (by omega) w28_mo_2 (by omega) (by omega) w28_mo_5 (by omega) (by omega) w28_as_2 (by omega) (by omega) w28_sr_3 (by omega) (by omega) w28_sr_4 (by omega) (by omega) 0 (by decide) (by decide) 0 (by decide) (by decide) (-1) (by decide) (by decide) z1505 z1506 z1507 z1508 z1509 z1510 z1511 z1512 z1513 z1502 z1503 z1504 z1515 z1516 z1517 z1518 z1519 z1520 g1521 g1523 g1522 g1526 g1525 g1524 ⟨A9, hT9, g1527⟩ (Nat.lt_succ_self _) H locs hB ls (lv_sub hl [1, 0] rfl)
          · exact absurd c1528 (by omega)
        · refine q_ald_n cx dX12_readText_42 rfl (lv_at hl 0 rfl) ?_
          refine q_cVv (As := []) (rest := []) cx hB (fun _ h => h) hN hmo kmo (by decide) rfl (f_mstatement l g hN hB.2.1 B A9 mo hmo kmo sr hsr ksr nm hnm knm bu hbu kbu tn (by omega) (by omega) w28_mo_5 (by omega) (by omega) hj_mo_3 hj_mo_5 (Eq.trans hj_mo_8 (by omega)) (Eq.trans hj_mo_9 (by omega)) hq_mo_13 hq_mo_18 hq_mo_1 hgr28 htr28 hub28 htm9) q_cX12_250 q_dX12_statement (by decide) rfl rfl hl.1 rfl (Nat.le_of_ble_eq_true rfl) dX12_readText_43 (fun H locs f1529 h1531 hF hB => ?_)
          rcases h1531 with h1532 | h1533
          · obtain ⟨z1534, z1535, t1536, g1537, g1538⟩ := h1532
            have z1539 : q_is (q_z f1529 mo 2) w28_mo_2 := Eq.trans (hF.z hmo (by rw [kmo]; rfl)) hj_mo_2
            have z1540 : q_is (q_z f1529 mo 3) tn := Eq.trans (hF.z hmo (by rw [kmo]; rfl)) hj_mo_3
            have z1541 : q_is (q_z f1529 as 2) w28_as_2 := Eq.trans (hF.z has (by rw [kas]; rfl)) hj_as_2
            have z1542 : q_is (q_z f1529 as 0) xc := Eq.trans (hF.z has (by rw [kas]; rfl)) hj_as_0
            have z1543 : q_is (q_z f1529 sr 3) w28_sr_3 := Eq.trans (hF.z hsr (by rw [ksr]; rfl)) hj_sr_3
            have z1544 : q_is (q_z f1529 sr 4) w28_sr_4 := Eq.trans (hF.z hsr (by rw [ksr]; rfl)) hj_sr_4
            have z1545 : q_ir (q_r f1529 mo 13) sr := Eq.trans (hF.r hmo (by rw [kmo]; rfl)) hq_mo_13
            have z1546 : q_ir (q_r f1529 mo 15) as := Eq.trans (hF.r hmo (by rw [kmo]; rfl)) hq_mo_15
            have z1547 : q_ir (q_r f1529 mo 18) nm := Eq.trans (hF.r hmo (by rw [kmo]; rfl)) hq_mo_18
            have z1548 : q_ir (q_r f1529 mo 20) anm := Eq.trans (hF.r hmo (by rw [kmo]; rfl)) hq_mo_20
            have z1549 : q_ir (q_r f1529 mo 1) bu := Eq.trans (hF.r hmo (by rw [kmo]; rfl)) hq_mo_1
            have z1550 : q_ir (q_r f1529 mo 17) pa := Eq.trans (hF.r hmo (by rw [kmo]; rfl)) hq_mo_17
            have g1551 : q_pk f1529 mo pa := q_pk_tr hpk28 (hF.z hmo (by rw [kmo]; rfl)) (fun i9 => hF.z hpa (by rw [kpa]; rfl))
            have g1552 : q_pc f1529 mo pa xc := q_pc_tr hpc28 (hF.z hmo (by rw [kmo]; rfl)) (fun i9 => hF.z hpa (by rw [kpa]; rfl))
            have g1553 : tk_ub f1529 bu B tn := tk_ub_tr hub28 (fun i9 => hF.z hbu (by rw [kbu]; rfl))
            have g1554 : tk_nq f1529 anm nl9 := tk_nq_tr hra28 (fun i9 => hF.j hanm (by rw [kanm]; rfl))
            obtain ⟨x1555, ex1555⟩ : ∃ zz, q_is (q_z f1529 mo 5) zz := ⟨_, q_isr _⟩
            obtain ⟨lx1555, ux1555⟩ := q_isb ex1555 (q_fib hB.2.1 hmo kmo (by decide) rfl)
            obtain ⟨-, l0x1555, u0x1555, -, -⟩ := tk_tr_n g1538 ex1555
            obtain ⟨A8, hA8, htm8⟩ := t1536
            have hlt9 := tk_stm_in (tk_okq hA8 ex1555) (by omega) (by omega)
            have hlt8 : w28_mo_5 < x1555 := hlt9.1
            refine lv_goto (tgt := 28) cx.1 cx.2.1 dX12_readText_46 (by decide) ?_
            exact ih28 f1529 0 (by decide) (by decide) (-1) (by decide) (by decide) w28_mo_2 (by omega) (by omega) x1555 (by omega) (by omega) w28_as_2 (by omega) (by omega) w28_sr_3 (by omega) (by omega) w28_sr_4 (by omega) (by omega) z1534 z1535 z1539 z1540 ex1555 z1541 z1542 z1543 z1544 z1545 z1546 z1547 z1548 z1549 z1550 g1537 g1552 g1551 g1554 g1538 g1553 (by omega) ⟨A8, hA9.trans (tk_T_ok (by omega) (by omega) (tk_so_0n (tk_tr_s htr28 hj_mo_5 ex1496) (by omega)) (tk_okq hA8 ex1555)), htm8⟩ (by omega) H locs hB ls (lv_sub hl [0] rfl)
          · obtain ⟨lz1556, uz1556, t1557, g1558⟩ := h1533
            have z1559 : q_is (q_z f1529 mo 2) w28_mo_2 := Eq.trans (hF.z hmo (by rw [kmo]; rfl)) hj_mo_2
            have z1560 : q_is (q_z f1529 mo 3) tn := Eq.trans (hF.z hmo (by rw [kmo]; rfl)) hj_mo_3
            have z1561 : q_is (q_z f1529 as 2) w28_as_2 := Eq.trans (hF.z has (by rw [kas]; rfl)) hj_as_2
            have z1562 : q_is (q_z f1529 as 0) xc := Eq.trans (hF.z has (by rw [kas]; rfl)) hj_as_0
            have z1563 : q_is (q_z f1529 sr 3) w28_sr_3 := Eq.trans (hF.z hsr (by rw [ksr]; rfl)) hj_sr_3
            have z1564 : q_is (q_z f1529 sr 4) w28_sr_4 := Eq.trans (hF.z hsr (by rw [ksr]; rfl)) hj_sr_4
            have z1565 : q_ir (q_r f1529 mo 13) sr := Eq.trans (hF.r hmo (by rw [kmo]; rfl)) hq_mo_13
            have z1566 : q_ir (q_r f1529 mo 15) as := Eq.trans (hF.r hmo (by rw [kmo]; rfl)) hq_mo_15
            have z1567 : q_ir (q_r f1529 mo 18) nm := Eq.trans (hF.r hmo (by rw [kmo]; rfl)) hq_mo_18
            have z1568 : q_ir (q_r f1529 mo 20) anm := Eq.trans (hF.r hmo (by rw [kmo]; rfl)) hq_mo_20
            have z1569 : q_ir (q_r f1529 mo 1) bu := Eq.trans (hF.r hmo (by rw [kmo]; rfl)) hq_mo_1
            have z1570 : q_ir (q_r f1529 mo 17) pa := Eq.trans (hF.r hmo (by rw [kmo]; rfl)) hq_mo_17
            have g1571 : q_pk f1529 mo pa := q_pk_tr hpk28 (hF.z hmo (by rw [kmo]; rfl)) (fun i9 => hF.z hpa (by rw [kpa]; rfl))
            have g1572 : q_pc f1529 mo pa xc := q_pc_tr hpc28 (hF.z hmo (by rw [kmo]; rfl)) (fun i9 => hF.z hpa (by rw [kpa]; rfl))
            have g1573 : tk_ub f1529 bu B tn := tk_ub_tr hub28 (fun i9 => hF.z hbu (by rw [kbu]; rfl))
            have g1574 : tk_nq f1529 anm nl9 := tk_nq_tr hra28 (fun i9 => hF.j hanm (by rw [kanm]; rfl))
            obtain ⟨x1575, ex1575⟩ : ∃ zz, q_is (q_z f1529 mo 8) zz := ⟨_, q_isr _⟩
            obtain ⟨lx1575, ux1575⟩ := q_isb ex1575 ⟨lz1556, uz1556⟩
            obtain ⟨x1576, ex1576⟩ : ∃ zz, q_is (q_z f1529 mo 5) zz := ⟨_, q_isr _⟩
            obtain ⟨lx1576, ux1576⟩ := q_isb ex1576 (q_fib hB.2.1 hmo kmo (by decide) rfl)
            obtain ⟨x1577, ex1577⟩ : ∃ zz, q_is (q_z f1529 mo 9) zz := ⟨_, q_isr _⟩
            obtain ⟨lx1577, ux1577⟩ := q_isb ex1577 (q_fib hB.2.1 hmo kmo (by decide) rfl)
            obtain ⟨-, l0x1576, u0x1576, -, -⟩ := tk_tr_n g1558 ex1576
            refine lv_goto (tgt := 28) cx.1 cx.2.1 dX12_readText_46 (by decide) ?_
            refine q_ald_n cx dX12_readText_28 rfl (lv_at hl 0 rfl) ?_
            refine q_cVi (As := []) (rest := []) cx hB (fun _ h => h) hN hmo kmo (by decide) rfl (r_isGood1 l g hN hB.2.1 mo hmo kmo x1575 (by omega) (by omega) ex1575) q_cX12_130 q_dX12_isGood (by decide) rfl rfl hl.1 rfl (Nat.le_of_ble_eq_true rfl) dX12_readText_29 (fun y1579 H locs f1578 ry1579 h1580 hF hB => ?_)
            obtain ⟨rfl, qy1579⟩ := h1580
            subst qy1579
            refine q_ifeq (tgt := 49) cx ⟨by decide, by decide⟩ dX12_readText_32 (by decide) (fun c1581 => ?_) (fun c1581 => ?_)
            · refine q_ald_n cx dX12_readText_49 rfl (lv_at hl 0 rfl) ?_
              refine q_cVi (As := []) (rest := []) cx hB (fun _ h => h) hN hmo kmo (by decide) rfl (f_mendsText1 l g hN hB.2.1 mo hmo kmo x1575 (by omega) (by omega) x1577 (by omega) (by omega) ex1575 ex1577) q_cX12_253 q_dX12_endsText (by decide) rfl rfl hl.1 rfl (Nat.le_of_ble_eq_true rfl) dX12_readText_50 (fun y1583 H locs f1582 ry1583 h1584 hF hB => ?_)
              obtain ⟨qy1583, z1585, z1586, z1587⟩ := h1584
              have z1588 : q_is (q_z f1582 mo 2) w28_mo_2 := Eq.trans (hF.z hmo (by rw [kmo]; rfl)) z1559
              have z1589 : q_is (q_z f1582 mo 3) tn := Eq.trans (hF.z hmo (by rw [kmo]; rfl)) z1560
              have z1590 : q_is (q_z f1582 as 2) w28_as_2 := Eq.trans (hF.z has (by rw [kas]; rfl)) z1561
              have z1591 : q_is (q_z f1582 as 0) xc := Eq.trans (hF.z has (by rw [kas]; rfl)) z1562
              have z1592 : q_is (q_z f1582 sr 3) w28_sr_3 := Eq.trans (hF.z hsr (by rw [ksr]; rfl)) z1563
              have z1593 : q_is (q_z f1582 sr 4) w28_sr_4 := Eq.trans (hF.z hsr (by rw [ksr]; rfl)) z1564
              have z1594 : q_is (q_z f1582 mo 8) x1575 := Eq.trans (hF.z hmo (by rw [kmo]; rfl)) ex1575
              have z1595 : q_is (q_z f1582 mo 5) x1576 := Eq.trans (hF.z hmo (by rw [kmo]; rfl)) ex1576
              have z1596 : q_is (q_z f1582 mo 9) x1577 := Eq.trans (hF.z hmo (by rw [kmo]; rfl)) ex1577
              have z1597 : q_ir (q_r f1582 mo 13) sr := Eq.trans (hF.r hmo (by rw [kmo]; rfl)) z1565
              have z1598 : q_ir (q_r f1582 mo 15) as := Eq.trans (hF.r hmo (by rw [kmo]; rfl)) z1566
              have z1599 : q_ir (q_r f1582 mo 18) nm := Eq.trans (hF.r hmo (by rw [kmo]; rfl)) z1567
              have z1600 : q_ir (q_r f1582 mo 20) anm := Eq.trans (hF.r hmo (by rw [kmo]; rfl)) z1568
              have z1601 : q_ir (q_r f1582 mo 1) bu := Eq.trans (hF.r hmo (by rw [kmo]; rfl)) z1569
              have z1602 : q_ir (q_r f1582 mo 17) pa := Eq.trans (hF.r hmo (by rw [kmo]; rfl)) z1570
              have g1603 : q_pk f1582 mo pa := q_pk_tr g1571 (hF.z hmo (by rw [kmo]; rfl)) (fun i9 => hF.z hpa (by rw [kpa]; rfl))
              have g1604 : q_pc f1582 mo pa xc := q_pc_tr g1572 (hF.z hmo (by rw [kmo]; rfl)) (fun i9 => hF.z hpa (by rw [kpa]; rfl))
              have g1605 : tk_ub f1582 bu B tn := tk_ub_tr g1573 (fun i9 => hF.z hbu (by rw [kbu]; rfl))
              have g1606 : tk_nq f1582 anm nl9 := tk_nq_tr g1574 (fun i9 => hF.j hanm (by rw [kanm]; rfl))
              have g1607 : tk_tr f1582 mo B tn := tk_tr_tr g1558 (hF.z hmo (by rw [kmo]; rfl)) (hF.z hmo (by rw [kmo]; rfl)) (hF.z hmo (by rw [kmo]; rfl)) (hF.z hmo (by rw [kmo]; rfl)) (hF.j hmo (by rw [kmo]; rfl))
              subst qy1583
              refine q_ifne (tgt := 82) cx ⟨by decide, by decide⟩ dX12_readText_53 (by decide) (fun c1608 => ?_) (fun c1608 => ?_)
              · exact absurd c1608 (by omega)
              · refine q_ald_n cx dX12_readText_56 rfl (lv_at hl 0 rfl) ?_
                refine q_gX12_26 cx hB hmo kmo z1598 dX12_readText_57 (fun hb1609 kb1609 => ?_)
                refine q_iconst cx dX12_readText_60 ?_
                refine q_ald_n cx dX12_readText_61 rfl (lv_at hl 0 rfl) ?_
                refine q_gX12_20 cx hB hmo kmo z1597 dX12_readText_62 (fun hb1610 kb1610 => ?_)
                refine q_iconst cx dX12_readText_65 ?_
                refine q_cSv (As := [.ref as, .int (q_i 0), .ref sr, .int (q_i 0)]) (rest := []) cx hB (fun _ h => h) hN (r_copiesRow_as_sr l g hN hB.2.1 as has kas 0 (by decide) (by decide) sr hsr ksr 0 (by decide) (by decide) w28_as_2 (by omega) (by omega) xc (by omega) (by omega) z1590 z1591) q_cX12_154 q_dX12_copiesRow (by decide) rfl rfl hl.1 rfl (Nat.le_of_ble_eq_true rfl) dX12_readText_66 (fun H locs f1611 h1613 hF hB => ?_)
                obtain ⟨lz1614, uz1614, lz1615, uz1615, z1616, t1617, g1618⟩ := h1613
                have z1619 : q_is (q_z f1611 mo 2) w28_mo_2 := Eq.trans (hF.z hmo (by rw [kmo]; rfl)) z1588
                have z1620 : q_is (q_z f1611 mo 3) tn := Eq.trans (hF.z hmo (by rw [kmo]; rfl)) z1589
                have z1621 : q_is (q_z f1611 as 2) w28_as_2 := Eq.trans (hF.z has (by rw [kas]; rfl)) z1590
                have z1622 : q_is (q_z f1611 as 0) xc := Eq.trans (hF.z has (by rw [kas]; rfl)) z1591
                have z1623 : q_is (q_z f1611 mo 8) x1575 := Eq.trans (hF.z hmo (by rw [kmo]; rfl)) z1594
                have z1624 : q_is (q_z f1611 mo 5) x1576 := Eq.trans (hF.z hmo (by rw [kmo]; rfl)) z1595
                have z1625 : q_is (q_z f1611 mo 9) x1577 := Eq.trans (hF.z hmo (by rw [kmo]; rfl)) z1596
                have z1626 : q_is (q_z f1611 mo 0) 1 := Eq.trans (hF.z hmo (by rw [kmo]; rfl)) z1585
                have z1627 : q_is (q_z f1611 mo 10) x1575 := Eq.trans (hF.z hmo (by rw [kmo]; rfl)) z1586
                have z1628 : q_is (q_z f1611 mo 11) x1577 := Eq.trans (hF.z hmo (by rw [kmo]; rfl)) z1587
                have z1629 : q_ir (q_r f1611 mo 13) sr := Eq.trans (hF.r hmo (by rw [kmo]; rfl)) z1597
                have z1630 : q_ir (q_r f1611 mo 15) as := Eq.trans (hF.r hmo (by rw [kmo]; rfl)) z1598
                have z1631 : q_ir (q_r f1611 mo 18) nm := Eq.trans (hF.r hmo (by rw [kmo]; rfl)) z1599
                have z1632 : q_ir (q_r f1611 mo 20) anm := Eq.trans (hF.r hmo (by rw [kmo]; rfl)) z1600
                have z1633 : q_ir (q_r f1611 mo 1) bu := Eq.trans (hF.r hmo (by rw [kmo]; rfl)) z1601
                have z1634 : q_ir (q_r f1611 mo 17) pa := Eq.trans (hF.r hmo (by rw [kmo]; rfl)) z1602
                have g1635 : q_pk f1611 mo pa := q_pk_tr g1603 (hF.z hmo (by rw [kmo]; rfl)) (fun i9 => hF.z hpa (by rw [kpa]; rfl))
                have g1636 : q_pc f1611 mo pa xc := q_pc_tr g1604 (hF.z hmo (by rw [kmo]; rfl)) (fun i9 => hF.z hpa (by rw [kpa]; rfl))
                have g1637 : tk_ub f1611 bu B tn := tk_ub_tr g1605 (fun i9 => hF.z hbu (by rw [kbu]; rfl))
                have g1638 : tk_nq f1611 anm nl9 := tk_nq_tr g1606 (fun i9 => hF.j hanm (by rw [kanm]; rfl))
                have g1639 : tk_tr f1611 mo B tn := tk_tr_tr g1607 (hF.z hmo (by rw [kmo]; rfl)) (hF.z hmo (by rw [kmo]; rfl)) (hF.z hmo (by rw [kmo]; rfl)) (hF.z hmo (by rw [kmo]; rfl)) (hF.j hmo (by rw [kmo]; rfl))
                obtain ⟨x1640, ex1640⟩ : ∃ zz, q_is (q_z f1611 sr 3) zz := ⟨_, q_isr _⟩
                obtain ⟨lx1640, ux1640⟩ := q_isb ex1640 ⟨lz1614, uz1614⟩
                obtain ⟨x1641, ex1641⟩ : ∃ zz, q_is (q_z f1611 sr 4) zz := ⟨_, q_isr _⟩
                obtain ⟨lx1641, ux1641⟩ := q_isb ex1641 ⟨lz1615, uz1615⟩
                refine q_ald_n cx dX12_readText_69 rfl (lv_at hl 0 rfl) ?_
                refine q_gX12_42 cx hB hmo kmo z1632 dX12_readText_70 (fun hb1642 kb1642 => ?_)
                refine q_ald_n cx dX12_readText_73 rfl (lv_at hl 0 rfl) ?_
                refine q_gX12_35 cx hB hmo kmo z1631 dX12_readText_74 (fun hb1643 kb1643 => ?_)
                refine q_cSv (As := [.ref anm, .ref nm]) (rest := []) cx hB (fun _ h => h) hN (f_mcopiesNames_158_156 l g hN hB.2.1 anm hanm kanm nm hnm knm) q_cX12_164 q_dX12_copiesNames (by decide) rfl rfl hl.1 rfl (Nat.le_of_ble_eq_true rfl) dX12_readText_77 (fun H locs f1644 h1646 hF hB => ?_)
                have t1647 := h1646
                have z1648 : q_is (q_z f1644 mo 2) w28_mo_2 := Eq.trans (hF.z hmo (by rw [kmo]; rfl)) z1619
                have z1649 : q_is (q_z f1644 mo 3) tn := Eq.trans (hF.z hmo (by rw [kmo]; rfl)) z1620
                have z1650 : q_is (q_z f1644 as 2) w28_as_2 := Eq.trans (hF.z has (by rw [kas]; rfl)) z1621
                have z1651 : q_is (q_z f1644 as 0) xc := Eq.trans (hF.z has (by rw [kas]; rfl)) z1622
                have z1652 : q_is (q_z f1644 mo 8) x1575 := Eq.trans (hF.z hmo (by rw [kmo]; rfl)) z1623
                have z1653 : q_is (q_z f1644 mo 5) x1576 := Eq.trans (hF.z hmo (by rw [kmo]; rfl)) z1624
                have z1654 : q_is (q_z f1644 mo 9) x1577 := Eq.trans (hF.z hmo (by rw [kmo]; rfl)) z1625
                have z1655 : q_is (q_z f1644 mo 0) 1 := Eq.trans (hF.z hmo (by rw [kmo]; rfl)) z1626
                have z1656 : q_is (q_z f1644 mo 10) x1575 := Eq.trans (hF.z hmo (by rw [kmo]; rfl)) z1627
                have z1657 : q_is (q_z f1644 mo 11) x1577 := Eq.trans (hF.z hmo (by rw [kmo]; rfl)) z1628
                have z1658 : q_is (q_z f1644 sr 3) x1640 := Eq.trans (hF.z hsr (by rw [ksr]; rfl)) ex1640
                have z1659 : q_is (q_z f1644 sr 4) x1641 := Eq.trans (hF.z hsr (by rw [ksr]; rfl)) ex1641
                have z1660 : q_is (q_z f1644 sr 0) xc := Eq.trans (hF.z hsr (by rw [ksr]; rfl)) z1616
                have z1661 : q_ir (q_r f1644 mo 13) sr := Eq.trans (hF.r hmo (by rw [kmo]; rfl)) z1629
                have z1662 : q_ir (q_r f1644 mo 15) as := Eq.trans (hF.r hmo (by rw [kmo]; rfl)) z1630
                have z1663 : q_ir (q_r f1644 mo 18) nm := Eq.trans (hF.r hmo (by rw [kmo]; rfl)) z1631
                have z1664 : q_ir (q_r f1644 mo 20) anm := Eq.trans (hF.r hmo (by rw [kmo]; rfl)) z1632
                have z1665 : q_ir (q_r f1644 mo 1) bu := Eq.trans (hF.r hmo (by rw [kmo]; rfl)) z1633
                have z1666 : q_ir (q_r f1644 mo 17) pa := Eq.trans (hF.r hmo (by rw [kmo]; rfl)) z1634
                have g1667 : q_gr f1644 sr := q_gr_fr g1618 (fun i9 _ => hF.z hsr (by rw [ksr]; rfl))
                have g1668 : q_pk f1644 mo pa := q_pk_tr g1635 (hF.z hmo (by rw [kmo]; rfl)) (fun i9 => hF.z hpa (by rw [kpa]; rfl))
                have g1669 : q_pc f1644 mo pa xc := q_pc_tr g1636 (hF.z hmo (by rw [kmo]; rfl)) (fun i9 => hF.z hpa (by rw [kpa]; rfl))
                have g1670 : tk_ub f1644 bu B tn := tk_ub_tr g1637 (fun i9 => hF.z hbu (by rw [kbu]; rfl))
                have g1671 : tk_nq f1644 anm nl9 := tk_nq_tr g1638 (fun i9 => hF.j hanm (by rw [kanm]; rfl))
                have g1672 : tk_tr f1644 mo B tn := tk_tr_tr g1639 (hF.z hmo (by rw [kmo]; rfl)) (hF.z hmo (by rw [kmo]; rfl)) (hF.z hmo (by rw [kmo]; rfl)) (hF.z hmo (by rw [kmo]; rfl)) (hF.j hmo (by rw [kmo]; rfl))
                have g1673 : tk_nq f1644 nm nl9 := tk_nq_cp g1638 t1647
                refine q_iconst cx dX12_readText_80 ?_
                refine q_iret cx hr hlk hB dX12_readText_81 ⟨by decide, by decide⟩ ?_
                exact (Or.inr ⟨rfl, (q_isl z1658 (by omega)), (q_isu z1658 (by omega)), (q_isl z1659 (by omega)), (q_isu z1659 (by omega)), (Eq.trans z1648 (by omega)), z1655, z1660, (tk_erp (hA9.trans (tk_T_er (tk_so_0n (tk_tr_s htr28 hj_mo_5 ex1496) (by omega)) (tk_erx t1557 ex1575 ex1577))) z1656 z1657), g1673, g1669, g1667, g1668⟩)
            · exact absurd c1581 (by omega)
  obtain ⟨H, hH⟩ : ∃ H : Heap, H = s.heap := ⟨_, rfl⟩
  obtain ⟨locs, hlocs⟩ : ∃ z : List Loc, z = [] := ⟨_, rfl⟩
  rw [← hH, ← hlocs] at hB
  rw [← hH, ← hlocs]
  refine q_ald_n cx dX12_readText_0 rfl (lv_at hl 0 rfl) ?_
  refine q_cVv (As := []) (rest := []) cx hB (fun _ h => h) hN hmo kmo (by decide) rfl (f_mbeginsText l g hN hB.2.1 B mo hmo kmo bu hbu kbu tn (by omega) (by omega) hf3 hr4 hub) q_cX12_244 q_dX12_beginsText (by decide) rfl rfl hl.1 rfl (Nat.le_of_ble_eq_true rfl) dX12_readText_1 (fun H locs f1674 h1676 hF hB => ?_)
  obtain ⟨z1677, z1678, z1679, z1680, t1681, g1682⟩ := h1676
  have z1683 : q_is (q_z f1674 sr 3) xt := Eq.trans (hF.z hsr (by rw [ksr]; rfl)) hf0
  have z1684 : q_is (q_z f1674 sr 4) xm := Eq.trans (hF.z hsr (by rw [ksr]; rfl)) hf1
  have z1685 : q_is (q_z f1674 sr 0) xc := Eq.trans (hF.z hsr (by rw [ksr]; rfl)) hf2
  have z1686 : q_ir (q_r f1674 mo 13) sr := Eq.trans (hF.r hmo (by rw [kmo]; rfl)) hr0
  have z1687 : q_ir (q_r f1674 mo 15) as := Eq.trans (hF.r hmo (by rw [kmo]; rfl)) hr1
  have z1688 : q_ir (q_r f1674 mo 18) nm := Eq.trans (hF.r hmo (by rw [kmo]; rfl)) hr2
  have z1689 : q_ir (q_r f1674 mo 20) anm := Eq.trans (hF.r hmo (by rw [kmo]; rfl)) hr3
  have z1690 : q_ir (q_r f1674 mo 1) bu := Eq.trans (hF.r hmo (by rw [kmo]; rfl)) hr4
  have z1691 : q_ir (q_r f1674 mo 17) pa := Eq.trans (hF.r hmo (by rw [kmo]; rfl)) hr5
  have g1692 : q_gr f1674 sr := q_gr_fr hgr (fun i9 _ => hF.z hsr (by rw [ksr]; rfl))
  have g1693 : q_pk f1674 mo pa := q_pk_tr hpk (hF.z hmo (by rw [kmo]; rfl)) (fun i9 => hF.z hpa (by rw [kpa]; rfl))
  have g1694 : q_pc f1674 mo pa xc := q_pc_tr hpc (hF.z hmo (by rw [kmo]; rfl)) (fun i9 => hF.z hpa (by rw [kpa]; rfl))
  have g1695 : tk_ub f1674 bu B tn := tk_ub_tr hub (fun i9 => hF.z hbu (by rw [kbu]; rfl))
  have g1696 : tk_nq f1674 nm nl9 := tk_nq_tr hrn (fun i9 => hF.j hnm (by rw [knm]; rfl))
  obtain ⟨x1697, ex1697⟩ : ∃ zz, q_is (q_z f1674 mo 5) zz := ⟨_, q_isr _⟩
  obtain ⟨lx1697, ux1697⟩ := q_isb ex1697 (q_fib hB.2.1 hmo kmo (by decide) rfl)
  obtain ⟨-, l0x1697, u0x1697, -, -⟩ := tk_tr_n g1682 ex1697
  refine q_ald_n cx dX12_readText_4 rfl (lv_at hl 0 rfl) ?_
  refine q_cVv (As := []) (rest := []) cx hB (fun _ h => h) hN hmo kmo (by decide) rfl (r_laysAside l g hN hB.2.1 mo hmo kmo sr hsr ksr as has kas xt (by omega) (by omega) xm (by omega) (by omega) xc (by omega) (by omega) z1683 z1684 z1685 z1686 z1687 g1692) q_cX12_247 q_dX12_laysAside (by decide) rfl rfl hl.1 rfl (Nat.le_of_ble_eq_true rfl) dX12_readText_5 (fun H locs f1698 h1700 hF hB => ?_)
  obtain ⟨lz1701, uz1701, z1702⟩ := h1700
  have z1703 : q_is (q_z f1698 sr 3) xt := Eq.trans (hF.z hsr (by rw [ksr]; rfl)) z1683
  have z1704 : q_is (q_z f1698 sr 4) xm := Eq.trans (hF.z hsr (by rw [ksr]; rfl)) z1684
  have z1705 : q_is (q_z f1698 sr 0) xc := Eq.trans (hF.z hsr (by rw [ksr]; rfl)) z1685
  have z1706 : q_is (q_z f1698 mo 8) 0 := Eq.trans (hF.z hmo (by rw [kmo]; rfl)) z1677
  have z1707 : q_is (q_z f1698 mo 9) (-1) := Eq.trans (hF.z hmo (by rw [kmo]; rfl)) z1678
  have z1708 : q_is (q_z f1698 mo 2) 0 := Eq.trans (hF.z hmo (by rw [kmo]; rfl)) z1679
  have z1709 : q_is (q_z f1698 mo 3) tn := Eq.trans (hF.z hmo (by rw [kmo]; rfl)) z1680
  have z1710 : q_is (q_z f1698 mo 5) x1697 := Eq.trans (hF.z hmo (by rw [kmo]; rfl)) ex1697
  have z1711 : q_ir (q_r f1698 mo 13) sr := Eq.trans (hF.r hmo (by rw [kmo]; rfl)) z1686
  have z1712 : q_ir (q_r f1698 mo 15) as := Eq.trans (hF.r hmo (by rw [kmo]; rfl)) z1687
  have z1713 : q_ir (q_r f1698 mo 18) nm := Eq.trans (hF.r hmo (by rw [kmo]; rfl)) z1688
  have z1714 : q_ir (q_r f1698 mo 20) anm := Eq.trans (hF.r hmo (by rw [kmo]; rfl)) z1689
  have z1715 : q_ir (q_r f1698 mo 1) bu := Eq.trans (hF.r hmo (by rw [kmo]; rfl)) z1690
  have z1716 : q_ir (q_r f1698 mo 17) pa := Eq.trans (hF.r hmo (by rw [kmo]; rfl)) z1691
  have g1717 : q_gr f1698 sr := q_gr_fr g1692 (fun i9 _ => hF.z hsr (by rw [ksr]; rfl))
  have g1718 : q_pk f1698 mo pa := q_pk_tr g1693 (hF.z hmo (by rw [kmo]; rfl)) (fun i9 => hF.z hpa (by rw [kpa]; rfl))
  have g1719 : q_pc f1698 mo pa xc := q_pc_tr g1694 (hF.z hmo (by rw [kmo]; rfl)) (fun i9 => hF.z hpa (by rw [kpa]; rfl))
  have g1720 : tk_ub f1698 bu B tn := tk_ub_tr g1695 (fun i9 => hF.z hbu (by rw [kbu]; rfl))
  have g1721 : tk_nq f1698 nm nl9 := tk_nq_tr g1696 (fun i9 => hF.j hnm (by rw [knm]; rfl))
  have g1722 : tk_tr f1698 mo B tn := tk_tr_tr g1682 (hF.z hmo (by rw [kmo]; rfl)) (hF.z hmo (by rw [kmo]; rfl)) (hF.z hmo (by rw [kmo]; rfl)) (hF.z hmo (by rw [kmo]; rfl)) (hF.j hmo (by rw [kmo]; rfl))
  obtain ⟨x1723, ex1723⟩ : ∃ zz, q_is (q_z f1698 as 2) zz := ⟨_, q_isr _⟩
  obtain ⟨lx1723, ux1723⟩ := q_isb ex1723 ⟨lz1701, uz1701⟩
  refine q_ald_n cx dX12_readText_8 rfl (lv_at hl 0 rfl) ?_
  refine q_gX12_35 cx hB hmo kmo z1713 dX12_readText_9 (fun hb1724 kb1724 => ?_)
  refine q_ald_n cx dX12_readText_12 rfl (lv_at hl 0 rfl) ?_
  refine q_gX12_42 cx hB hmo kmo z1714 dX12_readText_13 (fun hb1725 kb1725 => ?_)
  refine q_cSv (As := [.ref nm, .ref anm]) (rest := []) cx hB (fun _ h => h) hN (f_mcopiesNames_156_158 l g hN hB.2.1 nm hnm knm anm hanm kanm) q_cX12_164 q_dX12_copiesNames (by decide) rfl rfl hl.1 rfl (Nat.le_of_ble_eq_true rfl) dX12_readText_16 (fun H locs f1726 h1728 hF hB => ?_)
  have t1729 := h1728
  have z1730 : q_is (q_z f1726 sr 3) xt := Eq.trans (hF.z hsr (by rw [ksr]; rfl)) z1703
  have z1731 : q_is (q_z f1726 sr 4) xm := Eq.trans (hF.z hsr (by rw [ksr]; rfl)) z1704
  have z1732 : q_is (q_z f1726 sr 0) xc := Eq.trans (hF.z hsr (by rw [ksr]; rfl)) z1705
  have z1733 : q_is (q_z f1726 mo 8) 0 := Eq.trans (hF.z hmo (by rw [kmo]; rfl)) z1706
  have z1734 : q_is (q_z f1726 mo 9) (-1) := Eq.trans (hF.z hmo (by rw [kmo]; rfl)) z1707
  have z1735 : q_is (q_z f1726 mo 2) 0 := Eq.trans (hF.z hmo (by rw [kmo]; rfl)) z1708
  have z1736 : q_is (q_z f1726 mo 3) tn := Eq.trans (hF.z hmo (by rw [kmo]; rfl)) z1709
  have z1737 : q_is (q_z f1726 mo 5) x1697 := Eq.trans (hF.z hmo (by rw [kmo]; rfl)) z1710
  have z1738 : q_is (q_z f1726 as 2) x1723 := Eq.trans (hF.z has (by rw [kas]; rfl)) ex1723
  have z1739 : q_is (q_z f1726 as 0) xc := Eq.trans (hF.z has (by rw [kas]; rfl)) z1702
  have z1740 : q_ir (q_r f1726 mo 13) sr := Eq.trans (hF.r hmo (by rw [kmo]; rfl)) z1711
  have z1741 : q_ir (q_r f1726 mo 15) as := Eq.trans (hF.r hmo (by rw [kmo]; rfl)) z1712
  have z1742 : q_ir (q_r f1726 mo 18) nm := Eq.trans (hF.r hmo (by rw [kmo]; rfl)) z1713
  have z1743 : q_ir (q_r f1726 mo 20) anm := Eq.trans (hF.r hmo (by rw [kmo]; rfl)) z1714
  have z1744 : q_ir (q_r f1726 mo 1) bu := Eq.trans (hF.r hmo (by rw [kmo]; rfl)) z1715
  have z1745 : q_ir (q_r f1726 mo 17) pa := Eq.trans (hF.r hmo (by rw [kmo]; rfl)) z1716
  have g1746 : q_gr f1726 sr := q_gr_fr g1717 (fun i9 _ => hF.z hsr (by rw [ksr]; rfl))
  have g1747 : q_pk f1726 mo pa := q_pk_tr g1718 (hF.z hmo (by rw [kmo]; rfl)) (fun i9 => hF.z hpa (by rw [kpa]; rfl))
  have g1748 : q_pc f1726 mo pa xc := q_pc_tr g1719 (hF.z hmo (by rw [kmo]; rfl)) (fun i9 => hF.z hpa (by rw [kpa]; rfl))
  have g1749 : tk_ub f1726 bu B tn := tk_ub_tr g1720 (fun i9 => hF.z hbu (by rw [kbu]; rfl))
  have g1750 : tk_nq f1726 nm nl9 := tk_nq_tr g1721 (fun i9 => hF.j hnm (by rw [knm]; rfl))
  have g1751 : tk_tr f1726 mo B tn := tk_tr_tr g1722 (hF.z hmo (by rw [kmo]; rfl)) (hF.z hmo (by rw [kmo]; rfl)) (hF.z hmo (by rw [kmo]; rfl)) (hF.z hmo (by rw [kmo]; rfl)) (hF.j hmo (by rw [kmo]; rfl))
  have g1752 : tk_nq f1726 anm nl9 := tk_nq_cp g1721 t1729
  refine q_ald_n cx dX12_readText_19 rfl (lv_at hl 0 rfl) ?_
  refine q_cVv (As := []) (rest := []) cx hB (fun _ h => h) hN hmo kmo (by decide) rfl (f_mclears l g hN hB.2.1 mo hmo kmo sr hsr ksr nm hnm knm z1740 z1742) q_cX12_72 q_dX12_clears (by decide) rfl rfl hl.1 rfl (Nat.le_of_ble_eq_true rfl) dX12_readText_20 (fun H locs f1753 h1755 hF hB => ?_)
  obtain ⟨lz1756, uz1756, lz1757, uz1757, z1758, z1759, g1760⟩ := h1755
  have z1761 : q_is (q_z f1753 mo 8) 0 := Eq.trans (hF.z hmo (by rw [kmo]; rfl)) z1733
  have z1762 : q_is (q_z f1753 mo 9) (-1) := Eq.trans (hF.z hmo (by rw [kmo]; rfl)) z1734
  have z1763 : q_is (q_z f1753 mo 2) 0 := Eq.trans (hF.z hmo (by rw [kmo]; rfl)) z1735
  have z1764 : q_is (q_z f1753 mo 3) tn := Eq.trans (hF.z hmo (by rw [kmo]; rfl)) z1736
  have z1765 : q_is (q_z f1753 mo 5) x1697 := Eq.trans (hF.z hmo (by rw [kmo]; rfl)) z1737
  have z1766 : q_is (q_z f1753 as 2) x1723 := Eq.trans (hF.z has (by rw [kas]; rfl)) z1738
  have z1767 : q_is (q_z f1753 as 0) xc := Eq.trans (hF.z has (by rw [kas]; rfl)) z1739
  have z1768 : q_ir (q_r f1753 mo 13) sr := Eq.trans (hF.r hmo (by rw [kmo]; rfl)) z1740
  have z1769 : q_ir (q_r f1753 mo 15) as := Eq.trans (hF.r hmo (by rw [kmo]; rfl)) z1741
  have z1770 : q_ir (q_r f1753 mo 18) nm := Eq.trans (hF.r hmo (by rw [kmo]; rfl)) z1742
  have z1771 : q_ir (q_r f1753 mo 20) anm := Eq.trans (hF.r hmo (by rw [kmo]; rfl)) z1743
  have z1772 : q_ir (q_r f1753 mo 1) bu := Eq.trans (hF.r hmo (by rw [kmo]; rfl)) z1744
  have z1773 : q_ir (q_r f1753 mo 17) pa := Eq.trans (hF.r hmo (by rw [kmo]; rfl)) z1745
  have g1774 : q_pk f1753 mo pa := q_pk_tr g1747 (hF.z hmo (by rw [kmo]; rfl)) (fun i9 => hF.z hpa (by rw [kpa]; rfl))
  have g1775 : q_pc f1753 mo pa xc := q_pc_tr g1748 (hF.z hmo (by rw [kmo]; rfl)) (fun i9 => hF.z hpa (by rw [kpa]; rfl))
  have g1776 : tk_ub f1753 bu B tn := tk_ub_tr g1749 (fun i9 => hF.z hbu (by rw [kbu]; rfl))
  have g1777 : tk_tr f1753 mo B tn := tk_tr_tr g1751 (hF.z hmo (by rw [kmo]; rfl)) (hF.z hmo (by rw [kmo]; rfl)) (hF.z hmo (by rw [kmo]; rfl)) (hF.z hmo (by rw [kmo]; rfl)) (hF.j hmo (by rw [kmo]; rfl))
  have g1778 : tk_nq f1753 anm nl9 := tk_nq_tr g1752 (fun i9 => hF.j hanm (by rw [kanm]; rfl))
  obtain ⟨x1779, ex1779⟩ : ∃ zz, q_is (q_z f1753 sr 3) zz := ⟨_, q_isr _⟩
  obtain ⟨lx1779, ux1779⟩ := q_isb ex1779 ⟨lz1756, uz1756⟩
  obtain ⟨x1780, ex1780⟩ : ∃ zz, q_is (q_z f1753 sr 4) zz := ⟨_, q_isr _⟩
  obtain ⟨lx1780, ux1780⟩ := q_isb ex1780 ⟨lz1757, uz1757⟩
  refine q_ald_n cx dX12_readText_23 rfl (lv_at hl 0 rfl) ?_
  refine q_iconst cx dX12_readText_24 ?_
  refine q_pX12_182 cx hB hmo kmo ⟨by decide, by decide⟩ (by decide) (by decide) rfl dX12_readText_25 (fun H locs f1781 ef1781 z1782 hB => ?_)
  have z1783 : q_is (q_z f1781 mo 8) 0 := by rw [ef1781, q_setz (Or.inr (by decide))]; exact z1761
  have z1784 : q_is (q_z f1781 mo 9) (-1) := by rw [ef1781, q_setz (Or.inr (by decide))]; exact z1762
  have z1785 : q_is (q_z f1781 mo 2) 0 := by rw [ef1781, q_setz (Or.inr (by decide))]; exact z1763
  have z1786 : q_is (q_z f1781 mo 3) tn := by rw [ef1781, q_setz (Or.inr (by decide))]; exact z1764
  have z1787 : q_is (q_z f1781 mo 5) x1697 := by rw [ef1781, q_setz (Or.inr (by decide))]; exact z1765
  have z1788 : q_is (q_z f1781 as 2) x1723 := by rw [ef1781, q_setz (Or.inr (by decide))]; exact z1766
  have z1789 : q_is (q_z f1781 as 0) xc := by rw [ef1781, q_setz (Or.inr (by decide))]; exact z1767
  have z1790 : q_is (q_z f1781 sr 3) x1779 := by rw [ef1781, q_setz (Or.inr (by decide))]; exact ex1779
  have z1791 : q_is (q_z f1781 sr 4) x1780 := by rw [ef1781, q_setz (Or.inr (by decide))]; exact ex1780
  have z1792 : q_is (q_z f1781 sr 0) 0 := by rw [ef1781, q_setz (Or.inr (by decide))]; exact z1758
  have z1793 : q_is (q_z f1781 sr 1) 0 := by rw [ef1781, q_setz (Or.inr (by decide))]; exact z1759
  have z1794 : q_ir (q_r f1781 mo 13) sr := by rw [ef1781, q_setr (Or.inr (by decide))]; exact z1768
  have z1795 : q_ir (q_r f1781 mo 15) as := by rw [ef1781, q_setr (Or.inr (by decide))]; exact z1769
  have z1796 : q_ir (q_r f1781 mo 18) nm := by rw [ef1781, q_setr (Or.inr (by decide))]; exact z1770
  have z1797 : q_ir (q_r f1781 mo 20) anm := by rw [ef1781, q_setr (Or.inr (by decide))]; exact z1771
  have z1798 : q_ir (q_r f1781 mo 1) bu := by rw [ef1781, q_setr (Or.inr (by decide))]; exact z1772
  have z1799 : q_ir (q_r f1781 mo 17) pa := by rw [ef1781, q_setr (Or.inr (by decide))]; exact z1773
  have g1800 : q_gr f1781 sr := q_gr_ne g1760 ef1781 (fun q => q_kne (k := 151) (k2 := 12) (by decide) ksr kmo q)
  have g1801 : q_pk f1781 mo pa := q_pk_tr g1774 (by rw [ef1781, q_setz (Or.inr (by decide))]) (fun i9 => by rw [ef1781, q_setz (Or.inl (fun q => by rw [q, kmo] at kpa; exact absurd kpa (by decide)))])
  have g1802 : q_pc f1781 mo pa xc := q_pc_tr g1775 (by rw [ef1781, q_setz (Or.inr (by decide))]) (fun i9 => by rw [ef1781, q_setz (Or.inl (fun q => by rw [q, kmo] at kpa; exact absurd kpa (by decide)))])
  have g1803 : tk_ub f1781 bu B tn := tk_ub_tr g1776 (fun i9 => by rw [ef1781, q_setz (Or.inl (fun q => by rw [q, kmo] at kbu; exact absurd kbu (by decide)))])
  have g1804 : tk_tr f1781 mo B tn := tk_tr_tr g1777 (by rw [ef1781, q_setz (Or.inr (by decide))]) (by rw [ef1781, q_setz (Or.inr (by decide))]) (by rw [ef1781, q_setz (Or.inr (by decide))]) (by rw [ef1781, q_setz (Or.inr (by decide))]) (by rw [ef1781, q_setj (Or.inr (by decide))])
  have g1805 : tk_nq f1781 anm nl9 := tk_nq_tr g1778 (fun i9 => by rw [ef1781, q_setj (Or.inl (fun q => by rw [q, kmo] at kanm; exact absurd kanm (by decide)))])
  exact J28 ((Int.toNat (601 - x1697)) + 1) f1781 0 (by decide) (by decide) (-1) (by decide) (by decide) 0 (by decide) (by decide) x1697 (by omega) (by omega) x1723 (by omega) (by omega) x1779 (by omega) (by omega) x1780 (by omega) (by omega) z1783 z1784 z1785 z1786 z1787 z1788 z1789 z1790 z1791 z1794 z1795 z1796 z1797 z1798 z1799 g1800 g1802 g1801 g1805 g1804 g1803 (by omega) ⟨tk_A0, congrArg (fun q9 => tk_T B tn q9 tk_A0) (Eq.symm (Eq.trans (Eq.symm ex1697) t1681)), tk_tm_0 z1782 z1792 z1793⟩ (Nat.lt_succ_self _) H locs hB ls (lv_sub hl [0] rfl)
