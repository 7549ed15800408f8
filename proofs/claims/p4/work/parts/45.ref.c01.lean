set_option maxHeartbeats 4000000 in
set_option maxRecDepth 100000 in
theorem r_undo0 (l : Launch) (g : q_G) {K : Nat → Nat} {L : List Nat} (hN : L.Nodup) {f : Nat → va_E} (hT : q_Ty g K L f) (mo : Nat) (hmo : mo ∈ L) (kmo : K mo = 12) (sr : Nat) (hsr : sr ∈ L) (ksr : K sr = 151) (pa : Nat) (hpa : pa ∈ L) (kpa : K pa = 155) (xt : Int) (lxt : 0 ≤ xt) (uxt : xt ≤ 9999) (xm : Int) (lxm : 0 ≤ xm) (uxm : xm ≤ 60) (hf0 : q_is (q_z f sr 3) xt) (hf1 : q_is (q_z f sr 4) xm) (hf2 : q_is (q_z f mo 21) 0) (hr0 : q_ir (q_r f mo 13) sr) (hr1 : q_ir (q_r f mo 17) pa) (hgr : q_gr f sr) (hpk : q_pk f mo pa) : q_Ct l g K L yX12_undo cX12_undo 1 (some .int) 0 0 [.ref mo] f [(12, 0, 0)] (q_Pi (fun (z : Int) (f1 : Nat → va_E) => z = (-1) ∧ 0 ≤ q_z f1 sr 3 ∧ q_z f1 sr 3 ≤ 9999 ∧ 0 ≤ q_z f1 sr 4 ∧ q_z f1 sr 4 ≤ 60 ∧ (q_pk f1 mo pa))) := by
  refine q_ofb (by decide +kernel) hN hT (Nat.le_of_ble_eq_true rfl) ?_
  intro p e s m below meth c ls cx hr hlk hB hl
  have hl : lv_has ls 1 [(0, .ref mo)] := hl
  obtain ⟨H, hH⟩ : ∃ H : Heap, H = s.heap := ⟨_, rfl⟩
  obtain ⟨locs, hlocs⟩ : ∃ z : List Loc, z = [] := ⟨_, rfl⟩
  rw [← hH, ← hlocs] at hB
  rw [← hH, ← hlocs]
  refine q_ald_n cx dX12_undo_0 rfl (lv_at hl 0 rfl) ?_
  refine q_iconst cx dX12_undo_1 ?_
  refine q_pX12_75 cx hB hmo kmo ⟨by decide, by decide⟩ (by decide) (by decide) rfl dX12_undo_2 (fun H locs f12 ef12 z13 hB => ?_)
  have z14 : q_is (q_z f12 sr 3) xt := by rw [ef12, q_setz (Or.inr (by decide))]; exact hf0
  have z15 : q_is (q_z f12 sr 4) xm := by rw [ef12, q_setz (Or.inr (by decide))]; exact hf1
  have z16 : q_is (q_z f12 mo 21) 0 := by rw [ef12, q_setz (Or.inr (by decide))]; exact hf2
  have z17 : q_ir (q_r f12 mo 13) sr := by rw [ef12, q_setr (Or.inr (by decide))]; exact hr0
  have z18 : q_ir (q_r f12 mo 17) pa := by rw [ef12, q_setr (Or.inr (by decide))]; exact hr1
  have g19 : q_gr f12 sr := q_gr_ne hgr ef12 (fun q => q_kne (k := 151) (k2 := 12) (by decide) ksr kmo q)
  have g20 : q_pk f12 mo pa := q_pk_tr hpk (by rw [ef12, q_setz (Or.inr (by decide))]) (fun i9 => by rw [ef12, q_setz (Or.inl (fun q => by rw [q, kmo] at kpa; exact absurd kpa (by decide)))])
  refine q_ald_n cx dX12_undo_5 rfl (lv_at hl 0 rfl) ?_
  refine q_gX12_158 cx hB hmo kmo z16 dX12_undo_6 (fun lb21 ub21 => ?_)
  refine q_ifne (tgt := 14) cx ⟨by decide, by decide⟩ dX12_undo_9 (by decide) (fun c22 => ?_) (fun c22 => ?_)
  · exact absurd c22 (by omega)
  · refine q_iconst cx dX12_undo_12 ?_
    refine q_iret cx hr hlk hB dX12_undo_13 ⟨by decide, by decide⟩ ?_
    exact ⟨rfl, (q_isl z14 (by omega)), (q_isu z14 (by omega)), (q_isl z15 (by omega)), (q_isu z15 (by omega)), g20⟩
set_option maxHeartbeats 4000000 in
set_option maxRecDepth 100000 in
theorem r_undo1 (l : Launch) (g : q_G) {K : Nat → Nat} {L : List Nat} (hN : L.Nodup) {f : Nat → va_E} (hT : q_Ty g K L f) (mo : Nat) (hmo : mo ∈ L) (kmo : K mo = 12) (sr : Nat) (hsr : sr ∈ L) (ksr : K sr = 151) (pa : Nat) (hpa : pa ∈ L) (kpa : K pa = 155) (xt : Int) (lxt : 0 ≤ xt) (uxt : xt ≤ 9999) (xm : Int) (lxm : 0 ≤ xm) (uxm : xm ≤ 60) (xn : Int) (lxn : 1 ≤ xn) (uxn : xn ≤ 6) (hf0 : q_is (q_z f sr 3) xt) (hf1 : q_is (q_z f sr 4) xm) (hf2 : q_is (q_z f mo 21) xn) (hr0 : q_ir (q_r f mo 13) sr) (hr1 : q_ir (q_r f mo 17) pa) (hgr : q_gr f sr) (hpk : q_pk f mo pa) : q_Ct l g K L yX12_undo cX12_undo 1 (some .int) 1 24 [.ref mo] f [(12, 0, 0), (12, 21, 21), (151, 0, 657)] (q_Pi (fun (z : Int) (f1 : Nat → va_E) => 0 ≤ z ∧ z ≤ 5 ∧ 0 ≤ q_z f1 sr 3 ∧ q_z f1 sr 3 ≤ 9999 ∧ 0 ≤ q_z f1 sr 4 ∧ q_z f1 sr 4 ≤ 60 ∧ q_gr f1 sr ∧ (q_pk f1 mo pa))) := by
  refine q_ofb (by decide +kernel) hN hT (Nat.le_of_ble_eq_true rfl) ?_
  intro p e s m below meth c ls cx hr hlk hB hl
  have hl : lv_has ls 1 [(0, .ref mo)] := hl
  obtain ⟨H, hH⟩ : ∃ H : Heap, H = s.heap := ⟨_, rfl⟩
  obtain ⟨locs, hlocs⟩ : ∃ z : List Loc, z = [] := ⟨_, rfl⟩
  rw [← hH, ← hlocs] at hB
  rw [← hH, ← hlocs]
  refine q_ald_n cx dX12_undo_0 rfl (lv_at hl 0 rfl) ?_
  refine q_iconst cx dX12_undo_1 ?_
  refine q_pX12_75 cx hB hmo kmo ⟨by decide, by decide⟩ (by decide) (by decide) rfl dX12_undo_2 (fun H locs f39 ef39 z40 hB => ?_)
  have z41 : q_is (q_z f39 sr 3) xt := by rw [ef39, q_setz (Or.inr (by decide))]; exact hf0
  have z42 : q_is (q_z f39 sr 4) xm := by rw [ef39, q_setz (Or.inr (by decide))]; exact hf1
  have z43 : q_is (q_z f39 mo 21) xn := by rw [ef39, q_setz (Or.inr (by decide))]; exact hf2
  have z44 : q_ir (q_r f39 mo 13) sr := by rw [ef39, q_setr (Or.inr (by decide))]; exact hr0
  have z45 : q_ir (q_r f39 mo 17) pa := by rw [ef39, q_setr (Or.inr (by decide))]; exact hr1
  have g46 : q_gr f39 sr := q_gr_ne hgr ef39 (fun q => q_kne (k := 151) (k2 := 12) (by decide) ksr kmo q)
  have g47 : q_pk f39 mo pa := q_pk_tr hpk (by rw [ef39, q_setz (Or.inr (by decide))]) (fun i9 => by rw [ef39, q_setz (Or.inl (fun q => by rw [q, kmo] at kpa; exact absurd kpa (by decide)))])
  refine q_ald_n cx dX12_undo_5 rfl (lv_at hl 0 rfl) ?_
  refine q_gX12_158 cx hB hmo kmo z43 dX12_undo_6 (fun lb48 ub48 => ?_)
  refine q_ifne (tgt := 14) cx ⟨by omega, by omega⟩ dX12_undo_9 (by decide) (fun c49 => ?_) (fun c49 => ?_)
  · refine q_ald_n cx dX12_undo_14 rfl (lv_at hl 0 rfl) ?_
    refine lv_dup cx.1 cx.2.1 dX12_undo_15 rfl ?_
    refine q_gX12_158 cx hB hmo kmo z43 dX12_undo_16 (fun lb50 ub50 => ?_)
    refine q_iconst cx dX12_undo_19 ?_
    refine q_isub cx dX12_undo_20 ?_
    refine q_pX12_158 cx hB hmo kmo ⟨by omega, by omega⟩ (by omega) (by omega) rfl dX12_undo_21 (fun H locs f51 ef51 z52 hB => ?_)
    have z53 : q_is (q_z f51 sr 3) xt := by rw [ef51, q_setz (Or.inr (by decide))]; exact z41
    have z54 : q_is (q_z f51 sr 4) xm := by rw [ef51, q_setz (Or.inr (by decide))]; exact z42
    have z55 : q_is (q_z f51 mo 0) 0 := by rw [ef51, q_setz (Or.inr (by decide))]; exact z40
    have z56 : q_ir (q_r f51 mo 13) sr := by rw [ef51, q_setr (Or.inr (by decide))]; exact z44
    have z57 : q_ir (q_r f51 mo 17) pa := by rw [ef51, q_setr (Or.inr (by decide))]; exact z45
    have g58 : q_gr f51 sr := q_gr_ne g46 ef51 (fun q => q_kne (k := 151) (k2 := 12) (by decide) ksr kmo q)
    have hpk9 : q_pk f51 mo pa := k_pkdec g47 z43 z52 (fun i9 => by rw [ef51, q_setz (Or.inl (fun q => q_kne (k := 155) (k2 := 12) (by decide) kpa kmo q))])
    have hy9 : 4 ≤ q_z f51 pa (Int.toNat (658 * (xn - 1) + 2)) := by rw [ef51, q_setz (Or.inl (fun q => q_kne (k := 155) (k2 := 12) (by decide) kpa kmo q))]; exact g47 (xn - 1) (by omega) (q_islt z43 (by omega))
    refine q_ald_n cx dX12_undo_24 rfl (lv_at hl 0 rfl) ?_
    refine q_gX12_32 cx hB hmo kmo z57 dX12_undo_25 (fun hb59 kb59 => ?_)
    refine q_sipush cx dX12_undo_28 rfl ?_
    refine q_ald_n cx dX12_undo_31 rfl (lv_at hl 0 rfl) ?_
    refine q_gX12_158 cx hB hmo kmo z52 dX12_undo_32 (fun lb60 ub60 => ?_)
    refine q_imul cx dX12_undo_35 ?_
    refine q_ald_n cx dX12_undo_36 rfl (lv_at hl 0 rfl) ?_
    refine q_gX12_20 cx hB hmo kmo z56 dX12_undo_37 (fun hb61 kb61 => ?_)
    refine q_iconst cx dX12_undo_40 ?_
    refine q_cSv (As := [.ref pa, .int (q_i (658 * (xn - 1))), .ref sr, .int (q_i 0)]) (rest := []) cx hB (fun _ h => h) hN (r_copiesRow_pa_sr l g hN hB.2.1 pa hpa kpa (658 * (xn - 1)) (by omega) (by omega) sr hsr ksr 0 (by decide) (by decide) (1 * xn + (-1)) (by omega) (by omega) (by omega) (by rw [show 658 * (1 * xn + (-1)) + 2 = 658 * (xn - 1) + 2 by omega]; exact hy9)) q_cX12_154 q_dX12_copiesRow (by decide) rfl rfl hl.1 rfl (Nat.le_of_ble_eq_true rfl) dX12_undo_41 (fun H locs f62 h64 hF hB => ?_)
    obtain ⟨lz65, uz65, lz66, uz66, t67, g68⟩ := h64
    have z69 : q_is (q_z f62 mo 0) 0 := Eq.trans (hF.z hmo (by rw [kmo]; rfl)) z55
    have z70 : q_is (q_z f62 mo 21) (xn - 1) := Eq.trans (hF.z hmo (by rw [kmo]; rfl)) z52
    have z71 : q_ir (q_r f62 mo 13) sr := Eq.trans (hF.r hmo (by rw [kmo]; rfl)) z56
    have z72 : q_ir (q_r f62 mo 17) pa := Eq.trans (hF.r hmo (by rw [kmo]; rfl)) z57
    have g73 : q_pk f62 mo pa := q_pk_tr hpk9 (hF.z hmo (by rw [kmo]; rfl)) (fun i9 => hF.z hpa (by rw [kpa]; rfl))
    obtain ⟨x74, ex74⟩ : ∃ zz, q_is (q_z f62 sr 3) zz := ⟨_, q_isr _⟩
    obtain ⟨lx74, ux74⟩ := q_isb ex74 ⟨lz65, uz65⟩
    obtain ⟨x75, ex75⟩ : ∃ zz, q_is (q_z f62 sr 4) zz := ⟨_, q_isr _⟩
    obtain ⟨lx75, ux75⟩ := q_isb ex75 ⟨lz66, uz66⟩
    refine q_ald_n cx dX12_undo_44 rfl (lv_at hl 0 rfl) ?_
    refine q_gX12_158 cx hB hmo kmo z70 dX12_undo_45 (fun lb76 ub76 => ?_)
    refine q_iret cx hr hlk hB dX12_undo_48 ⟨by omega, by omega⟩ ?_
    exact ⟨(by omega), (by omega), (q_isl ex74 (by omega)), (q_isu ex74 (by omega)), (q_isl ex75 (by omega)), (q_isu ex75 (by omega)), g68, g73⟩
  · exact absurd c49 (by omega)
set_option maxHeartbeats 4000000 in
set_option maxRecDepth 100000 in
theorem r_save (l : Launch) (g : q_G) {K : Nat → Nat} {L : List Nat} (hN : L.Nodup) {f : Nat → va_E} (hT : q_Ty g K L f) (mo : Nat) (hmo : mo ∈ L) (kmo : K mo = 12) (sr : Nat) (hsr : sr ∈ L) (ksr : K sr = 151) (sd : Nat) (hsd : sd ∈ L) (ksd : K sd = 152) (nm : Nat) (hnm : nm ∈ L) (knm : K nm = 156) (snm : Nat) (hsnm : snm ∈ L) (ksnm : K snm = 157) (xt : Int) (lxt : 0 ≤ xt) (uxt : xt ≤ 9999) (xm : Int) (lxm : 0 ≤ xm) (uxm : xm ≤ 60) (hf0 : q_is (q_z f sr 3) xt) (hf1 : q_is (q_z f sr 4) xm) (hr0 : q_ir (q_r f mo 13) sr) (hr1 : q_ir (q_r f mo 14) sd) (hr2 : q_ir (q_r f mo 18) nm) (hr3 : q_ir (q_r f mo 19) snm) (hgr : q_gr f sr) : q_Ct l g K L yX12_save cX12_save 1 (some .int) 1 24 [.ref mo] f [(12, 0, 0), (12, 22, 22), (152, 0, 657), (157, 0, 9)] (q_Pi (fun (z : Int) (f1 : Nat → va_E) => 0 ≤ z ∧ z ≤ 9999 ∧ (q_sv f1 mo sd))) := by
  refine q_ofb (by decide +kernel) hN hT (Nat.le_of_ble_eq_true rfl) ?_
  intro p e s m below meth c ls cx hr hlk hB hl
  have hl : lv_has ls 1 [(0, .ref mo)] := hl
  obtain ⟨H, hH⟩ : ∃ H : Heap, H = s.heap := ⟨_, rfl⟩
  obtain ⟨locs, hlocs⟩ : ∃ z : List Loc, z = [] := ⟨_, rfl⟩
  rw [← hH, ← hlocs] at hB
  rw [← hH, ← hlocs]
  refine q_ald_n cx dX12_save_0 rfl (lv_at hl 0 rfl) ?_
  refine q_iconst cx dX12_save_1 ?_
  refine q_pX12_75 cx hB hmo kmo ⟨by decide, by decide⟩ (by decide) (by decide) rfl dX12_save_2 (fun H locs f53 ef53 z54 hB => ?_)
  have z55 : q_is (q_z f53 sr 3) xt := by rw [ef53, q_setz (Or.inr (by decide))]; exact hf0
  have z56 : q_is (q_z f53 sr 4) xm := by rw [ef53, q_setz (Or.inr (by decide))]; exact hf1
  have z57 : q_ir (q_r f53 mo 13) sr := by rw [ef53, q_setr (Or.inr (by decide))]; exact hr0
  have z58 : q_ir (q_r f53 mo 14) sd := by rw [ef53, q_setr (Or.inr (by decide))]; exact hr1
  have z59 : q_ir (q_r f53 mo 18) nm := by rw [ef53, q_setr (Or.inr (by decide))]; exact hr2
  have z60 : q_ir (q_r f53 mo 19) snm := by rw [ef53, q_setr (Or.inr (by decide))]; exact hr3
  have g61 : q_gr f53 sr := q_gr_ne hgr ef53 (fun q => q_kne (k := 151) (k2 := 12) (by decide) ksr kmo q)
  refine q_ald_n cx dX12_save_5 rfl (lv_at hl 0 rfl) ?_
  refine q_gX12_20 cx hB hmo kmo z57 dX12_save_6 (fun hb62 kb62 => ?_)
  refine q_iconst cx dX12_save_9 ?_
  refine q_ald_n cx dX12_save_10 rfl (lv_at hl 0 rfl) ?_
  refine q_gX12_23 cx hB hmo kmo z58 dX12_save_11 (fun hb63 kb63 => ?_)
  refine q_iconst cx dX12_save_14 ?_
  refine q_cSv (As := [.ref sr, .int (q_i 0), .ref sd, .int (q_i 0)]) (rest := []) cx hB (fun _ h => h) hN (r_copiesRow_sr_sd l g hN hB.2.1 sr hsr ksr 0 (by decide) (by decide) sd hsd ksd 0 (by decide) (by decide) xt (by omega) (by omega) xm (by omega) (by omega) z55 z56 g61) q_cX12_154 q_dX12_copiesRow (by decide) rfl rfl hl.1 rfl (Nat.le_of_ble_eq_true rfl) dX12_save_15 (fun H locs f64 h66 hF hB => ?_)
  have t67 := h66
  have z68 : q_is (q_z f64 sr 3) xt := Eq.trans (hF.z hsr (by rw [ksr]; rfl)) z55
  have z69 : q_is (q_z f64 sr 4) xm := Eq.trans (hF.z hsr (by rw [ksr]; rfl)) z56
  have z70 : q_is (q_z f64 mo 0) 0 := Eq.trans (hF.z hmo (by rw [kmo]; rfl)) z54
  have z71 : q_ir (q_r f64 mo 13) sr := Eq.trans (hF.r hmo (by rw [kmo]; rfl)) z57
  have z72 : q_ir (q_r f64 mo 14) sd := Eq.trans (hF.r hmo (by rw [kmo]; rfl)) z58
  have z73 : q_ir (q_r f64 mo 18) nm := Eq.trans (hF.r hmo (by rw [kmo]; rfl)) z59
  have z74 : q_ir (q_r f64 mo 19) snm := Eq.trans (hF.r hmo (by rw [kmo]; rfl)) z60
  have g75 : q_gr f64 sr := q_gr_fr g61 (fun i9 _ => hF.z hsr (by rw [ksr]; rfl))
  have hy9 : q_z f64 sd 2 = q_z f53 sr 2 := t67 2 (by decide) (by decide)
  obtain ⟨x76, ex76⟩ : ∃ zz, q_is (q_z f64 sd 2) zz := ⟨_, q_isr _⟩
  obtain ⟨lx76, ux76⟩ : 4 ≤ x76 ∧ x76 ≤ 60 := q_isb ex76 (by rw [hy9]; exact g61 2 (by decide))
  refine q_ald_n cx dX12_save_18 rfl (lv_at hl 0 rfl) ?_
  refine q_gX12_35 cx hB hmo kmo z73 dX12_save_19 (fun hb77 kb77 => ?_)
  refine q_ald_n cx dX12_save_22 rfl (lv_at hl 0 rfl) ?_
  refine q_gX12_39 cx hB hmo kmo z74 dX12_save_23 (fun hb78 kb78 => ?_)
  refine q_cSv (As := [.ref nm, .ref snm]) (rest := []) cx hB (fun _ h => h) hN (r_copiesNames_156_157 l g hN hB.2.1 nm hnm knm snm hsnm ksnm) q_cX12_164 q_dX12_copiesNames (by decide) rfl rfl hl.1 rfl (Nat.le_of_ble_eq_true rfl) dX12_save_26 (fun H locs f79 h81 hF hB => ?_)
  have z82 : q_is (q_z f79 sr 3) xt := Eq.trans (hF.z hsr (by rw [ksr]; rfl)) z68
  have z83 : q_is (q_z f79 sr 4) xm := Eq.trans (hF.z hsr (by rw [ksr]; rfl)) z69
  have z84 : q_is (q_z f79 mo 0) 0 := Eq.trans (hF.z hmo (by rw [kmo]; rfl)) z70
  have z85 : q_is (q_z f79 sd 2) x76 := Eq.trans (hF.z hsd (by rw [ksd]; rfl)) ex76
  have z86 : q_ir (q_r f79 mo 13) sr := Eq.trans (hF.r hmo (by rw [kmo]; rfl)) z71
  have z87 : q_ir (q_r f79 mo 14) sd := Eq.trans (hF.r hmo (by rw [kmo]; rfl)) z72
  have z88 : q_ir (q_r f79 mo 18) nm := Eq.trans (hF.r hmo (by rw [kmo]; rfl)) z73
  have z89 : q_ir (q_r f79 mo 19) snm := Eq.trans (hF.r hmo (by rw [kmo]; rfl)) z74
  have g90 : q_gr f79 sr := q_gr_fr g75 (fun i9 _ => hF.z hsr (by rw [ksr]; rfl))
  refine q_ald_n cx dX12_save_29 rfl (lv_at hl 0 rfl) ?_
  refine q_iconst cx dX12_save_30 ?_
  refine q_pX12_168 cx hB hmo kmo ⟨by decide, by decide⟩ (by decide) (by decide) rfl dX12_save_31 (fun H locs f91 ef91 z92 hB => ?_)
  have z93 : q_is (q_z f91 sr 3) xt := by rw [ef91, q_setz (Or.inr (by decide))]; exact z82
  have z94 : q_is (q_z f91 sr 4) xm := by rw [ef91, q_setz (Or.inr (by decide))]; exact z83
  have z95 : q_is (q_z f91 mo 0) 0 := by rw [ef91, q_setz (Or.inr (by decide))]; exact z84
  have z96 : q_is (q_z f91 sd 2) x76 := by rw [ef91, q_setz (Or.inr (by decide))]; exact z85
  have z97 : q_ir (q_r f91 mo 13) sr := by rw [ef91, q_setr (Or.inr (by decide))]; exact z86
  have z98 : q_ir (q_r f91 mo 14) sd := by rw [ef91, q_setr (Or.inr (by decide))]; exact z87
  have z99 : q_ir (q_r f91 mo 18) nm := by rw [ef91, q_setr (Or.inr (by decide))]; exact z88
  have z100 : q_ir (q_r f91 mo 19) snm := by rw [ef91, q_setr (Or.inr (by decide))]; exact z89
  have g101 : q_gr f91 sr := q_gr_ne g90 ef91 (fun q => q_kne (k := 151) (k2 := 12) (by decide) ksr kmo q)
  have hsv9 : q_sv f91 mo sd := fun _ => q_isl z96 (by omega)
  refine q_ald_n cx dX12_save_34 rfl (lv_at hl 0 rfl) ?_
  refine q_gX12_20 cx hB hmo kmo z97 dX12_save_35 (fun hb102 kb102 => ?_)
  refine q_iconst cx dX12_save_38 ?_
  refine q_iald (lo := (-2147483648)) (hi := 2147483647) (n := 658) cx hB hsr ksr (by decide) rfl rfl (by decide) (by decide) (by decide) rfl z93 dX12_save_39 (fun lb104 ub104 => ?_)
  refine q_iret cx hr hlk hB dX12_save_40 ⟨by omega, by omega⟩ ?_
  exact ⟨(by omega), (by omega), hsv9⟩
set_option maxHeartbeats 4000000 in
set_option maxRecDepth 100000 in
theorem r_restore0 (l : Launch) (g : q_G) {K : Nat → Nat} {L : List Nat} (hN : L.Nodup) {f : Nat → va_E} (hT : q_Ty g K L f) (mo : Nat) (hmo : mo ∈ L) (kmo : K mo = 12) (sr : Nat) (hsr : sr ∈ L) (ksr : K sr = 151) (sd : Nat) (hsd : sd ∈ L) (ksd : K sd = 152) (nm : Nat) (hnm : nm ∈ L) (knm : K nm = 156) (snm : Nat) (hsnm : snm ∈ L) (ksnm : K snm = 157) (pa : Nat) (hpa : pa ∈ L) (kpa : K pa = 155) (xt : Int) (lxt : 0 ≤ xt) (uxt : xt ≤ 9999) (xm : Int) (lxm : 0 ≤ xm) (uxm : xm ≤ 60) (hf0 : q_is (q_z f sr 3) xt) (hf1 : q_is (q_z f sr 4) xm) (hf2 : q_is (q_z f mo 22) 0) (hr0 : q_ir (q_r f mo 13) sr) (hr1 : q_ir (q_r f mo 14) sd) (hr2 : q_ir (q_r f mo 18) nm) (hr3 : q_ir (q_r f mo 19) snm) (hr4 : q_ir (q_r f mo 17) pa) (hgr : q_gr f sr) (hpk : q_pk f mo pa) (hsv : q_sv f mo sd) : q_Ct l g K L yX12_restore cX12_restore 1 (some .int) 2 41 [.ref mo] f [(12, 0, 0)] (q_Pi (fun (z : Int) (f1 : Nat → va_E) => 0 ≤ z ∧ z ≤ 0 ∧ 0 ≤ q_z f1 sr 3 ∧ q_z f1 sr 3 ≤ 9999 ∧ 0 ≤ q_z f1 sr 4 ∧ q_z f1 sr 4 ≤ 60 ∧ (q_pk f1 mo pa))) := by
  refine q_ofb (by decide +kernel) hN hT (Nat.le_of_ble_eq_true rfl) ?_
  intro p e s m below meth c ls cx hr hlk hB hl
  have hl : lv_has ls 1 [(0, .ref mo)] := hl
  obtain ⟨H, hH⟩ : ∃ H : Heap, H = s.heap := ⟨_, rfl⟩
  obtain ⟨locs, hlocs⟩ : ∃ z : List Loc, z = [] := ⟨_, rfl⟩
  rw [← hH, ← hlocs] at hB
  rw [← hH, ← hlocs]
  refine q_ald_n cx dX12_restore_0 rfl (lv_at hl 0 rfl) ?_
  refine q_ald_n cx dX12_restore_1 rfl (lv_at hl 0 rfl) ?_
  refine q_gX12_168 cx hB hmo kmo hf2 dX12_restore_2 (fun lb18 ub18 => ?_)
  refine q_cVi (As := [.int (q_i 0)]) (rest := []) cx hB (fun _ h => h) hN hmo kmo (by decide) rfl (r_goes0 l g hN hB.2.1 mo hmo kmo 0 (by decide) (by decide)) q_cX12_85 q_dX12_goes (by decide) rfl rfl hl.1 rfl (Nat.le_of_ble_eq_true rfl) dX12_restore_5 (fun y20 H locs f19 ry20 h21 hF hB => ?_)
  obtain ⟨qy20, z22⟩ := h21
  have z23 : q_is (q_z f19 sr 3) xt := Eq.trans (hF.z hsr (by rw [ksr]; rfl)) hf0
  have z24 : q_is (q_z f19 sr 4) xm := Eq.trans (hF.z hsr (by rw [ksr]; rfl)) hf1
  have z25 : q_is (q_z f19 mo 22) 0 := Eq.trans (hF.z hmo (by rw [kmo]; rfl)) hf2
  have z26 : q_ir (q_r f19 mo 13) sr := Eq.trans (hF.r hmo (by rw [kmo]; rfl)) hr0
  have z27 : q_ir (q_r f19 mo 14) sd := Eq.trans (hF.r hmo (by rw [kmo]; rfl)) hr1
  have z28 : q_ir (q_r f19 mo 18) nm := Eq.trans (hF.r hmo (by rw [kmo]; rfl)) hr2
  have z29 : q_ir (q_r f19 mo 19) snm := Eq.trans (hF.r hmo (by rw [kmo]; rfl)) hr3
  have z30 : q_ir (q_r f19 mo 17) pa := Eq.trans (hF.r hmo (by rw [kmo]; rfl)) hr4
  have g31 : q_gr f19 sr := q_gr_fr hgr (fun i9 _ => hF.z hsr (by rw [ksr]; rfl))
  have g32 : q_pk f19 mo pa := q_pk_tr hpk (hF.z hmo (by rw [kmo]; rfl)) (fun i9 => hF.z hpa (by rw [kpa]; rfl))
  have g33 : q_sv f19 mo sd := q_sv_tr hsv (hF.z hmo (by rw [kmo]; rfl)) (fun i9 => hF.z hsd (by rw [ksd]; rfl))
  subst qy20
  refine q_ifne (tgt := 13) cx ⟨by decide, by decide⟩ dX12_restore_8 (by decide) (fun c34 => ?_) (fun c34 => ?_)
  · exact absurd c34 (by omega)
  · refine q_iconst cx dX12_restore_11 ?_
    refine q_iret cx hr hlk hB dX12_restore_12 ⟨by decide, by decide⟩ ?_
    exact ⟨(by decide), (by decide), (q_isl z23 (by omega)), (q_isu z23 (by omega)), (q_isl z24 (by omega)), (q_isu z24 (by omega)), g32⟩
set_option maxHeartbeats 4000000 in
set_option maxRecDepth 100000 in
theorem r_restore1 (l : Launch) (g : q_G) {K : Nat → Nat} {L : List Nat} (hN : L.Nodup) {f : Nat → va_E} (hT : q_Ty g K L f) (mo : Nat) (hmo : mo ∈ L) (kmo : K mo = 12) (sr : Nat) (hsr : sr ∈ L) (ksr : K sr = 151) (sd : Nat) (hsd : sd ∈ L) (ksd : K sd = 152) (nm : Nat) (hnm : nm ∈ L) (knm : K nm = 156) (snm : Nat) (hsnm : snm ∈ L) (ksnm : K snm = 157) (pa : Nat) (hpa : pa ∈ L) (kpa : K pa = 155) (xt : Int) (lxt : 0 ≤ xt) (uxt : xt ≤ 9999) (xm : Int) (lxm : 0 ≤ xm) (uxm : xm ≤ 60) (hf0 : q_is (q_z f sr 3) xt) (hf1 : q_is (q_z f sr 4) xm) (hf2 : q_is (q_z f mo 22) 1) (hr0 : q_ir (q_r f mo 13) sr) (hr1 : q_ir (q_r f mo 14) sd) (hr2 : q_ir (q_r f mo 18) nm) (hr3 : q_ir (q_r f mo 19) snm) (hr4 : q_ir (q_r f mo 17) pa) (hgr : q_gr f sr) (hpk : q_pk f mo pa) (hsv : q_sv f mo sd) : q_Ct l g K L yX12_restore cX12_restore 1 (some .int) 2 41 [.ref mo] f [(12, 0, 0), (12, 21, 21), (151, 0, 657), (156, 0, 9)] (q_Pi (fun (z : Int) (f1 : Nat → va_E) => 0 ≤ z ∧ z ≤ 9999 ∧ 0 ≤ q_z f1 sr 3 ∧ q_z f1 sr 3 ≤ 9999 ∧ 0 ≤ q_z f1 sr 4 ∧ q_z f1 sr 4 ≤ 60 ∧ q_gr f1 sr ∧ (q_pk f1 mo pa))) := by
  refine q_ofb (by decide +kernel) hN hT (Nat.le_of_ble_eq_true rfl) ?_
  intro p e s m below meth c ls cx hr hlk hB hl
  have hl : lv_has ls 1 [(0, .ref mo)] := hl
  obtain ⟨H, hH⟩ : ∃ H : Heap, H = s.heap := ⟨_, rfl⟩
  obtain ⟨locs, hlocs⟩ : ∃ z : List Loc, z = [] := ⟨_, rfl⟩
  rw [← hH, ← hlocs] at hB
  rw [← hH, ← hlocs]
  refine q_ald_n cx dX12_restore_0 rfl (lv_at hl 0 rfl) ?_
  refine q_ald_n cx dX12_restore_1 rfl (lv_at hl 0 rfl) ?_
  refine q_gX12_168 cx hB hmo kmo hf2 dX12_restore_2 (fun lb75 ub75 => ?_)
  refine q_cVi (As := [.int (q_i 1)]) (rest := []) cx hB (fun _ h => h) hN hmo kmo (by decide) rfl (r_goes1 l g hN hB.2.1 mo hmo kmo 1 (by decide) (by decide)) q_cX12_85 q_dX12_goes (by decide) rfl rfl hl.1 rfl (Nat.le_of_ble_eq_true rfl) dX12_restore_5 (fun y77 H locs f76 ry77 h78 hF hB => ?_)
  obtain ⟨qy77, z79⟩ := h78
  have z80 : q_is (q_z f76 sr 3) xt := Eq.trans (hF.z hsr (by rw [ksr]; rfl)) hf0
  have z81 : q_is (q_z f76 sr 4) xm := Eq.trans (hF.z hsr (by rw [ksr]; rfl)) hf1
  have z82 : q_is (q_z f76 mo 22) 1 := Eq.trans (hF.z hmo (by rw [kmo]; rfl)) hf2
  have z83 : q_ir (q_r f76 mo 13) sr := Eq.trans (hF.r hmo (by rw [kmo]; rfl)) hr0
  have z84 : q_ir (q_r f76 mo 14) sd := Eq.trans (hF.r hmo (by rw [kmo]; rfl)) hr1
  have z85 : q_ir (q_r f76 mo 18) nm := Eq.trans (hF.r hmo (by rw [kmo]; rfl)) hr2
  have z86 : q_ir (q_r f76 mo 19) snm := Eq.trans (hF.r hmo (by rw [kmo]; rfl)) hr3
  have z87 : q_ir (q_r f76 mo 17) pa := Eq.trans (hF.r hmo (by rw [kmo]; rfl)) hr4
  have g88 : q_gr f76 sr := q_gr_fr hgr (fun i9 _ => hF.z hsr (by rw [ksr]; rfl))
  have g89 : q_pk f76 mo pa := q_pk_tr hpk (hF.z hmo (by rw [kmo]; rfl)) (fun i9 => hF.z hpa (by rw [kpa]; rfl))
  have g90 : q_sv f76 mo sd := q_sv_tr hsv (hF.z hmo (by rw [kmo]; rfl)) (fun i9 => hF.z hsd (by rw [ksd]; rfl))
  subst qy77
  refine q_ifne (tgt := 13) cx ⟨by decide, by decide⟩ dX12_restore_8 (by decide) (fun c91 => ?_) (fun c91 => ?_)
  · obtain ⟨x92, ex92⟩ : ∃ zz, q_is (q_z f76 sd 2) zz := ⟨_, q_isr _⟩
    obtain ⟨lx92, ux92⟩ : 4 ≤ x92 ∧ x92 ≤ 60 := q_isb ex92 ⟨g90 z82, (q_ai (lo := 0) (hi := 60) hB.2.1 hsd ksd (by decide) rfl (by decide) rfl).2⟩
    refine q_ald_n cx dX12_restore_13 rfl (lv_at hl 0 rfl) ?_
    refine q_gX12_23 cx hB hmo kmo z84 dX12_restore_14 (fun hb93 kb93 => ?_)
    refine q_iconst cx dX12_restore_17 ?_
    refine q_ald_n cx dX12_restore_18 rfl (lv_at hl 0 rfl) ?_
    refine q_gX12_20 cx hB hmo kmo z83 dX12_restore_19 (fun hb94 kb94 => ?_)
    refine q_iconst cx dX12_restore_22 ?_
    refine q_cSv (As := [.ref sd, .int (q_i 0), .ref sr, .int (q_i 0)]) (rest := []) cx hB (fun _ h => h) hN (r_copiesRow_sd_sr l g hN hB.2.1 sd hsd ksd 0 (by decide) (by decide) sr hsr ksr 0 (by decide) (by decide) x92 (by omega) (by omega) ex92) q_cX12_154 q_dX12_copiesRow (by decide) rfl rfl hl.1 rfl (Nat.le_of_ble_eq_true rfl) dX12_restore_23 (fun H locs f95 h97 hF hB => ?_)
    obtain ⟨lz98, uz98, lz99, uz99, t100, g101⟩ := h97
    have z102 : q_is (q_z f95 mo 22) 1 := Eq.trans (hF.z hmo (by rw [kmo]; rfl)) z82
    have z103 : q_is (q_z f95 mo 0) 0 := Eq.trans (hF.z hmo (by rw [kmo]; rfl)) z79
    have z104 : q_is (q_z f95 sd 2) x92 := Eq.trans (hF.z hsd (by rw [ksd]; rfl)) ex92
    have z105 : q_ir (q_r f95 mo 13) sr := Eq.trans (hF.r hmo (by rw [kmo]; rfl)) z83
    have z106 : q_ir (q_r f95 mo 14) sd := Eq.trans (hF.r hmo (by rw [kmo]; rfl)) z84
    have z107 : q_ir (q_r f95 mo 18) nm := Eq.trans (hF.r hmo (by rw [kmo]; rfl)) z85
    have z108 : q_ir (q_r f95 mo 19) snm := Eq.trans (hF.r hmo (by rw [kmo]; rfl)) z86
    have z109 : q_ir (q_r f95 mo 17) pa := Eq.trans (hF.r hmo (by rw [kmo]; rfl)) z87
    have g110 : q_pk f95 mo pa := q_pk_tr g89 (hF.z hmo (by rw [kmo]; rfl)) (fun i9 => hF.z hpa (by rw [kpa]; rfl))
    have g111 : q_sv f95 mo sd := q_sv_tr g90 (hF.z hmo (by rw [kmo]; rfl)) (fun i9 => hF.z hsd (by rw [ksd]; rfl))
    obtain ⟨x112, ex112⟩ : ∃ zz, q_is (q_z f95 sr 3) zz := ⟨_, q_isr _⟩
    obtain ⟨lx112, ux112⟩ := q_isb ex112 ⟨lz98, uz98⟩
    obtain ⟨x113, ex113⟩ : ∃ zz, q_is (q_z f95 sr 4) zz := ⟨_, q_isr _⟩
    obtain ⟨lx113, ux113⟩ := q_isb ex113 ⟨lz99, uz99⟩
    refine q_ald_n cx dX12_restore_26 rfl (lv_at hl 0 rfl) ?_
    refine q_gX12_39 cx hB hmo kmo z108 dX12_restore_27 (fun hb114 kb114 => ?_)
    refine q_ald_n cx dX12_restore_30 rfl (lv_at hl 0 rfl) ?_
    refine q_gX12_35 cx hB hmo kmo z107 dX12_restore_31 (fun hb115 kb115 => ?_)
    refine q_cSv (As := [.ref snm, .ref nm]) (rest := []) cx hB (fun _ h => h) hN (r_copiesNames_157_156 l g hN hB.2.1 snm hsnm ksnm nm hnm knm) q_cX12_164 q_dX12_copiesNames (by decide) rfl rfl hl.1 rfl (Nat.le_of_ble_eq_true rfl) dX12_restore_34 (fun H locs f116 h118 hF hB => ?_)
    have z119 : q_is (q_z f116 mo 22) 1 := Eq.trans (hF.z hmo (by rw [kmo]; rfl)) z102
    have z120 : q_is (q_z f116 mo 0) 0 := Eq.trans (hF.z hmo (by rw [kmo]; rfl)) z103
    have z121 : q_is (q_z f116 sd 2) x92 := Eq.trans (hF.z hsd (by rw [ksd]; rfl)) z104
    have z122 : q_is (q_z f116 sr 3) x112 := Eq.trans (hF.z hsr (by rw [ksr]; rfl)) ex112
    have z123 : q_is (q_z f116 sr 4) x113 := Eq.trans (hF.z hsr (by rw [ksr]; rfl)) ex113
    have z124 : q_ir (q_r f116 mo 13) sr := Eq.trans (hF.r hmo (by rw [kmo]; rfl)) z105
    have z125 : q_ir (q_r f116 mo 14) sd := Eq.trans (hF.r hmo (by rw [kmo]; rfl)) z106
    have z126 : q_ir (q_r f116 mo 18) nm := Eq.trans (hF.r hmo (by rw [kmo]; rfl)) z107
    have z127 : q_ir (q_r f116 mo 19) snm := Eq.trans (hF.r hmo (by rw [kmo]; rfl)) z108
    have z128 : q_ir (q_r f116 mo 17) pa := Eq.trans (hF.r hmo (by rw [kmo]; rfl)) z109
    have g129 : q_gr f116 sr := q_gr_fr g101 (fun i9 _ => hF.z hsr (by rw [ksr]; rfl))
    have g130 : q_pk f116 mo pa := q_pk_tr g110 (hF.z hmo (by rw [kmo]; rfl)) (fun i9 => hF.z hpa (by rw [kpa]; rfl))
    have g131 : q_sv f116 mo sd := q_sv_tr g111 (hF.z hmo (by rw [kmo]; rfl)) (fun i9 => hF.z hsd (by rw [ksd]; rfl))
    refine q_ald_n cx dX12_restore_37 rfl (lv_at hl 0 rfl) ?_
    refine q_iconst cx dX12_restore_38 ?_
    refine q_pX12_158 cx hB hmo kmo ⟨by decide, by decide⟩ (by decide) (by decide) rfl dX12_restore_39 (fun H locs f132 ef132 z133 hB => ?_)
    have z134 : q_is (q_z f132 mo 22) 1 := by rw [ef132, q_setz (Or.inr (by decide))]; exact z119
    have z135 : q_is (q_z f132 mo 0) 0 := by rw [ef132, q_setz (Or.inr (by decide))]; exact z120
    have z136 : q_is (q_z f132 sd 2) x92 := by rw [ef132, q_setz (Or.inr (by decide))]; exact z121
    have z137 : q_is (q_z f132 sr 3) x112 := by rw [ef132, q_setz (Or.inr (by decide))]; exact z122
    have z138 : q_is (q_z f132 sr 4) x113 := by rw [ef132, q_setz (Or.inr (by decide))]; exact z123
    have z139 : q_ir (q_r f132 mo 13) sr := by rw [ef132, q_setr (Or.inr (by decide))]; exact z124
    have z140 : q_ir (q_r f132 mo 14) sd := by rw [ef132, q_setr (Or.inr (by decide))]; exact z125
    have z141 : q_ir (q_r f132 mo 18) nm := by rw [ef132, q_setr (Or.inr (by decide))]; exact z126
    have z142 : q_ir (q_r f132 mo 19) snm := by rw [ef132, q_setr (Or.inr (by decide))]; exact z127
    have z143 : q_ir (q_r f132 mo 17) pa := by rw [ef132, q_setr (Or.inr (by decide))]; exact z128
    have g144 : q_gr f132 sr := q_gr_ne g129 ef132 (fun q => q_kne (k := 151) (k2 := 12) (by decide) ksr kmo q)
    have g145 : q_sv f132 mo sd := q_sv_tr g131 (by rw [ef132, q_setz (Or.inr (by decide))]) (fun i9 => by rw [ef132, q_setz (Or.inl (fun q => by rw [q, kmo] at ksd; exact absurd ksd (by decide)))])
    have hpk0 : q_pk f132 mo pa := k_pk0 z133
    refine q_ald_n cx dX12_restore_42 rfl (lv_at hl 0 rfl) ?_
    refine q_gX12_20 cx hB hmo kmo z139 dX12_restore_43 (fun hb146 kb146 => ?_)
    refine q_iconst cx dX12_restore_46 ?_
    refine q_iald (lo := (-2147483648)) (hi := 2147483647) (n := 658) cx hB hsr ksr (by decide) rfl rfl (by decide) (by decide) (by decide) rfl z137 dX12_restore_47 (fun lb148 ub148 => ?_)
    refine q_iret cx hr hlk hB dX12_restore_48 ⟨by omega, by omega⟩ ?_
    exact ⟨(by omega), (by omega), (q_isl z137 (by omega)), (q_isu z137 (by omega)), (q_isl z138 (by omega)), (q_isu z138 (by omega)), g144, hpk0⟩
  · exact absurd c91 (by omega)
set_option maxHeartbeats 4000000 in
set_option maxRecDepth 100000 in
theorem r_setting (l : Launch) (g : q_G) {K : Nat → Nat} {L : List Nat} (hN : L.Nodup) {f : Nat → va_E} (hT : q_Ty g K L f) (mo : Nat) (hmo : mo ∈ L) (kmo : K mo = 12) (a0 : Int) (la0 : (-2147483648) ≤ a0) (ua0 : a0 ≤ 2147483647) (sr : Nat) (hsr : sr ∈ L) (ksr : K sr = 151) (xt : Int) (lxt : 0 ≤ xt) (uxt : xt ≤ 9999) (xm : Int) (lxm : 0 ≤ xm) (uxm : xm ≤ 60) (hf0 : q_is (q_z f sr 3) xt) (hf1 : q_is (q_z f sr 4) xm) (hr0 : q_ir (q_r f mo 13) sr) (hgr : q_gr f sr) : q_Ct l g K L yX12_setting cX12_setting 2 (some .int) 4 86 [.ref mo, .int (q_i a0)] f [(12, 0, 0)] (q_Pi (fun (z : Int) (f1 : Nat → va_E) => True)) := by
  refine q_ofb (by decide +kernel) hN hT (Nat.le_of_ble_eq_true rfl) ?_
  intro p e s m below meth c ls cx hr hlk hB hl
  have hl : lv_has ls 2 [(0, .ref mo), (1, .int (q_i a0))] := hl
  obtain ⟨H, hH⟩ : ∃ H : Heap, H = s.heap := ⟨_, rfl⟩
  obtain ⟨locs, hlocs⟩ : ∃ z : List Loc, z = [] := ⟨_, rfl⟩
  rw [← hH, ← hlocs] at hB
  rw [← hH, ← hlocs]
  refine q_ald_n cx dX12_setting_0 rfl (lv_at hl 0 rfl) ?_
  refine q_ild_n cx dX12_setting_1 rfl (lv_at hl 1 rfl) ?_
  refine q_i2l cx ⟨by omega, by omega⟩ dX12_setting_2 ?_
  refine q_lconst (z := 0) cx (by decide) dX12_setting_3 ?_
  refine lv_ldc2 (v := q_l 10) cx.1 cx.2.1 cx.2.2.2.1 (cx.2.2.2.2 _ q_h1859) dX12_setting_4 ?_
  refine q_cSi (As := [.long (q_l a0), .long (q_l 0), .long (q_l 10)]) (rest := [.ref mo]) cx hB (fun _ h => h) hN (r_isIn l g hN hB.2.1 a0 (by omega) (by omega) 0 (by decide) (by decide) 10 (by decide) (by decide)) q_cX12_93 q_dX12_isIn (by decide) rfl rfl hl.1 rfl (Nat.le_of_ble_eq_true rfl) dX12_setting_7 (fun y55 H locs f54 ry55 h56 hF hB => ?_)
  rcases h56 with h57 | h58
  · obtain ⟨rfl, qy55, t59, t60⟩ := h57
    subst qy55
    refine q_cVi (As := [.int (q_i 1)]) (rest := []) cx hB (fun _ h => h) hN hmo kmo (by decide) rfl (r_goes1 l g hN hB.2.1 mo hmo kmo 1 (by decide) (by decide)) q_cX12_85 q_dX12_goes (by decide) rfl rfl hl.1 rfl (Nat.le_of_ble_eq_true rfl) dX12_setting_10 (fun y62 H locs f61 ry62 h63 hF hB => ?_)
    obtain ⟨qy62, z64⟩ := h63
    have z65 : q_is (q_z f61 sr 3) xt := Eq.trans (hF.z hsr (by rw [ksr]; rfl)) hf0
    have z66 : q_is (q_z f61 sr 4) xm := Eq.trans (hF.z hsr (by rw [ksr]; rfl)) hf1
    have z67 : q_ir (q_r f61 mo 13) sr := Eq.trans (hF.r hmo (by rw [kmo]; rfl)) hr0
    have g68 : q_gr f61 sr := q_gr_fr hgr (fun i9 _ => hF.z hsr (by rw [ksr]; rfl))
    subst qy62
    refine q_ifne (tgt := 18) cx ⟨by decide, by decide⟩ dX12_setting_13 (by decide) (fun c69 => ?_) (fun c69 => ?_)
    · refine q_ild_n cx dX12_setting_18 rfl (lv_at hl 1 rfl) ?_
      by_cases c71 : a0 = 5
      · refine lv_tableIn (tgt := 56) cx.1 cx.2.1 dX12_setting_19 (by rw [q_toInt ⟨by omega, by omega⟩]; omega) (by rw [q_toInt ⟨by omega, by omega⟩]; omega) (off := 37) (by rw [q_toInt ⟨by omega, by omega⟩, c71]; rfl) (by decide) ?_
        refine q_ald_n cx dX12_setting_56 rfl (lv_at hl 0 rfl) ?_
        refine q_iconst cx dX12_setting_57 ?_
        refine q_cVi (As := [.int (q_i 1)]) (rest := []) cx hB (fun _ h => h) hN hmo kmo (by decide) rfl (r_inState l g hN hB.2.1 mo hmo kmo 1 (by decide) (by decide) sr hsr ksr z67 g68) q_cX12_343 q_dX12_inState (by decide) rfl rfl hl.1 rfl (Nat.le_of_ble_eq_true rfl) dX12_setting_58 (fun y73 H locs f72 ry73 h74 hF hB => ?_)
        obtain rfl := h74
        refine q_iret cx hr hlk hB dX12_setting_61 ⟨by omega, by omega⟩ ?_
        trivial
      by_cases c75 : a0 = 6
      · refine lv_tableIn (tgt := 62) cx.1 cx.2.1 dX12_setting_19 (by rw [q_toInt ⟨by omega, by omega⟩]; omega) (by rw [q_toInt ⟨by omega, by omega⟩]; omega) (off := 43) (by rw [q_toInt ⟨by omega, by omega⟩, c75]; rfl) (by decide) ?_
        refine q_ald_n cx dX12_setting_62 rfl (lv_at hl 0 rfl) ?_
        refine q_cVi (As := []) (rest := []) cx hB (fun _ h => h) hN hmo kmo (by decide) rfl (r_inTime l g hN hB.2.1 mo hmo kmo sr hsr ksr z67 g68) q_cX12_346 q_dX12_inTime (by decide) rfl rfl hl.1 rfl (Nat.le_of_ble_eq_true rfl) dX12_setting_63 (fun y77 H locs f76 ry77 h78 hF hB => ?_)
        obtain rfl := h78
        refine q_iret cx hr hlk hB dX12_setting_66 ⟨by omega, by omega⟩ ?_
        trivial
      by_cases c79 : a0 = 7
      · refine lv_tableIn (tgt := 67) cx.1 cx.2.1 dX12_setting_19 (by rw [q_toInt ⟨by omega, by omega⟩]; omega) (by rw [q_toInt ⟨by omega, by omega⟩]; omega) (off := 48) (by rw [q_toInt ⟨by omega, by omega⟩, c79]; rfl) (by decide) ?_
        refine q_ald_n cx dX12_setting_67 rfl (lv_at hl 0 rfl) ?_
        refine q_iconst cx dX12_setting_68 ?_
        refine q_cVi (As := [.int (q_i 2)]) (rest := []) cx hB (fun _ h => h) hN hmo kmo (by decide) rfl (r_inState l g hN hB.2.1 mo hmo kmo 2 (by decide) (by decide) sr hsr ksr z67 g68) q_cX12_343 q_dX12_inState (by decide) rfl rfl hl.1 rfl (Nat.le_of_ble_eq_true rfl) dX12_setting_69 (fun y81 H locs f80 ry81 h82 hF hB => ?_)
        obtain rfl := h82
        refine q_iret cx hr hlk hB dX12_setting_72 ⟨by omega, by omega⟩ ?_
        trivial
      by_cases c83 : a0 = 8
      · refine lv_tableIn (tgt := 73) cx.1 cx.2.1 dX12_setting_19 (by rw [q_toInt ⟨by omega, by omega⟩]; omega) (by rw [q_toInt ⟨by omega, by omega⟩]; omega) (off := 54) (by rw [q_toInt ⟨by omega, by omega⟩, c83]; rfl) (by decide) ?_
        refine q_ald_n cx dX12_setting_73 rfl (lv_at hl 0 rfl) ?_
        refine q_cVi (As := []) (rest := []) cx hB (fun _ h => h) hN hmo kmo (by decide) rfl (r_notOut l g hN hB.2.1 mo hmo kmo sr hsr ksr z67 g68) q_cX12_349 q_dX12_notOut (by decide) rfl rfl hl.1 rfl (Nat.le_of_ble_eq_true rfl) dX12_setting_74 (fun y85 H locs f84 ry85 h86 hF hB => ?_)
        obtain rfl := h86
        refine q_iret cx hr hlk hB dX12_setting_77 ⟨by omega, by omega⟩ ?_
        trivial
      by_cases c87 : a0 = 9
      · refine lv_tableIn (tgt := 78) cx.1 cx.2.1 dX12_setting_19 (by rw [q_toInt ⟨by omega, by omega⟩]; omega) (by rw [q_toInt ⟨by omega, by omega⟩]; omega) (off := 59) (by rw [q_toInt ⟨by omega, by omega⟩, c87]; rfl) (by decide) ?_
        refine q_ald_n cx dX12_setting_78 rfl (lv_at hl 0 rfl) ?_
        refine q_gX12_20 cx hB hmo kmo z67 dX12_setting_79 (fun hb88 kb88 => ?_)
        refine q_bipush cx dX12_setting_82 rfl ?_
        obtain ⟨x89, ex89⟩ : ∃ zz, q_is (q_z f61 sr (Int.toNat 9)) zz := ⟨_, q_isr _⟩
        refine q_sald cx hB hsr ksr (by decide) (by decide) ex89 dX12_setting_84 (fun rx89 => ?_)
        refine q_iret cx hr hlk hB dX12_setting_85 ⟨by omega, by omega⟩ ?_
        trivial
      by_cases c91 : a0 = 10
      · refine lv_tableIn (tgt := 86) cx.1 cx.2.1 dX12_setting_19 (by rw [q_toInt ⟨by omega, by omega⟩]; omega) (by rw [q_toInt ⟨by omega, by omega⟩]; omega) (off := 67) (by rw [q_toInt ⟨by omega, by omega⟩, c91]; rfl) (by decide) ?_
        refine q_ald_n cx dX12_setting_86 rfl (lv_at hl 0 rfl) ?_
        obtain ⟨x92, ex92⟩ : ∃ zz, q_is (q_z f61 mo 21) zz := ⟨_, q_isr _⟩
        refine q_gX12_158 cx hB hmo kmo ex92 dX12_setting_87 (fun lb93 ub93 => ?_)
        refine q_iret cx hr hlk hB dX12_setting_90 ⟨by omega, by omega⟩ ?_
        trivial
      refine lv_tableOut (tgt := 91) cx.1 cx.2.1 dX12_setting_19 (by rw [q_toInt ⟨by omega, by omega⟩]; omega) (by decide) ?_
      refine q_ald_n cx dX12_setting_91 rfl (lv_at hl 0 rfl) ?_
      refine q_gX12_20 cx hB hmo kmo z67 dX12_setting_92 (fun hb94 kb94 => ?_)
      refine q_ild_n cx dX12_setting_95 rfl (lv_at hl 1 rfl) ?_
      obtain ⟨x95, ex95⟩ : ∃ zz, q_is (q_z f61 sr (Int.toNat a0)) zz := ⟨_, q_isr _⟩
      refine q_sald cx hB hsr ksr (by omega) (by omega) ex95 dX12_setting_96 (fun rx95 => ?_)
      refine q_iret cx hr hlk hB dX12_setting_97 ⟨by omega, by omega⟩ ?_
      trivial
    · exact absurd c69 (by omega)
  · obtain ⟨rfl, qy55, t97⟩ := h58
    subst qy55
    refine q_cVi (As := [.int (q_i 0)]) (rest := []) cx hB (fun _ h => h) hN hmo kmo (by decide) rfl (r_goes0 l g hN hB.2.1 mo hmo kmo 0 (by decide) (by decide)) q_cX12_85 q_dX12_goes (by decide) rfl rfl hl.1 rfl (Nat.le_of_ble_eq_true rfl) dX12_setting_10 (fun y99 H locs f98 ry99 h100 hF hB => ?_)
    obtain ⟨qy99, z101⟩ := h100
    have z102 : q_is (q_z f98 sr 3) xt := Eq.trans (hF.z hsr (by rw [ksr]; rfl)) hf0
    have z103 : q_is (q_z f98 sr 4) xm := Eq.trans (hF.z hsr (by rw [ksr]; rfl)) hf1
    have z104 : q_ir (q_r f98 mo 13) sr := Eq.trans (hF.r hmo (by rw [kmo]; rfl)) hr0
    have g105 : q_gr f98 sr := q_gr_fr hgr (fun i9 _ => hF.z hsr (by rw [ksr]; rfl))
    subst qy99
    refine q_ifne (tgt := 18) cx ⟨by decide, by decide⟩ dX12_setting_13 (by decide) (fun c106 => ?_) (fun c106 => ?_)
    · exact absurd c106 (by omega)
    · refine q_iconst cx dX12_setting_16 ?_
      refine q_iret cx hr hlk hB dX12_setting_17 ⟨by decide, by decide⟩ ?_
      trivial
set_option maxHeartbeats 4000000 in
set_option maxRecDepth 100000 in
theorem r_node (l : Launch) (g : q_G) {K : Nat → Nat} {L : List Nat} (hN : L.Nodup) {f : Nat → va_E} (hT : q_Ty g K L f) (mo : Nat) (hmo : mo ∈ L) (kmo : K mo = 12) (a0 : Int) (la0 : (-2147483648) ≤ a0) (ua0 : a0 ≤ 2147483647) (b0 : Int) (lb0 : (-2147483648) ≤ b0) (ub0 : b0 ≤ 2147483647) (sr : Nat) (hsr : sr ∈ L) (ksr : K sr = 151) (xt : Int) (lxt : 0 ≤ xt) (uxt : xt ≤ 9999) (xm : Int) (lxm : 0 ≤ xm) (uxm : xm ≤ 60) (hf0 : q_is (q_z f sr 3) xt) (hf1 : q_is (q_z f sr 4) xm) (hr0 : q_ir (q_r f mo 13) sr) (hgr : q_gr f sr) : q_Ct l g K L yX12_node cX12_node 3 (some .int) 6 133 [.ref mo, .int (q_i a0), .int (q_i b0)] f [(12, 0, 0)] (q_Pi (fun (z : Int) (f1 : Nat → va_E) => True)) := by
  refine q_ofb (by decide +kernel) hN hT (Nat.le_of_ble_eq_true rfl) ?_
  intro p e s m below meth c ls cx hr hlk hB hl
  have hl : lv_has ls 3 [(0, .ref mo), (1, .int (q_i a0)), (2, .int (q_i b0))] := hl
  obtain ⟨H, hH⟩ : ∃ H : Heap, H = s.heap := ⟨_, rfl⟩
  obtain ⟨locs, hlocs⟩ : ∃ z : List Loc, z = [] := ⟨_, rfl⟩
  rw [← hH, ← hlocs] at hB
  rw [← hH, ← hlocs]
  refine q_ald_n cx dX12_node_0 rfl (lv_at hl 0 rfl) ?_
  refine q_ald_n cx dX12_node_1 rfl (lv_at hl 0 rfl) ?_
  refine q_ild_n cx dX12_node_2 rfl (lv_at hl 1 rfl) ?_
  refine q_cVi (As := [.int (q_i a0)]) (rest := [.ref mo]) cx hB (fun _ h => h) hN hmo kmo (by decide) rfl (r_isNode l g hN hB.2.1 mo hmo kmo a0 (by omega) (by omega) sr hsr ksr hr0) q_cX12_355 q_dX12_isNode (by decide) rfl rfl hl.1 rfl (Nat.le_of_ble_eq_true rfl) dX12_node_3 (fun y104 H locs f103 ry104 h105 hF hB => ?_)
  rcases h105 with h106 | h107
  · obtain ⟨rfl, qy104, t108, t109⟩ := h106
    subst qy104
    refine q_ild_n cx dX12_node_6 rfl (lv_at hl 2 rfl) ?_
    refine q_i2l cx ⟨by omega, by omega⟩ dX12_node_7 ?_
    refine q_lconst (z := 0) cx (by decide) dX12_node_8 ?_
    refine lv_ldc2 (v := q_l 10) cx.1 cx.2.1 cx.2.2.2.1 (cx.2.2.2.2 _ q_h1859) dX12_node_9 ?_
    refine q_cSi (As := [.long (q_l b0), .long (q_l 0), .long (q_l 10)]) (rest := [.int (q_i 1), .ref mo]) cx hB (fun _ h => h) hN (r_isIn l g hN hB.2.1 b0 (by omega) (by omega) 0 (by decide) (by decide) 10 (by decide) (by decide)) q_cX12_93 q_dX12_isIn (by decide) rfl rfl hl.1 rfl (Nat.le_of_ble_eq_true rfl) dX12_node_12 (fun y111 H locs f110 ry111 h112 hF hB => ?_)
    rcases h112 with h113 | h114
    · obtain ⟨rfl, qy111, t115, t116⟩ := h113
      subst qy111
      refine q_cVi (As := [.int (q_i 1), .int (q_i 1)]) (rest := []) cx hB (fun _ h => h) hN hmo kmo (by decide) rfl (r_goesBoth2 l g hN hB.2.1 mo hmo kmo 1 (by decide) (by decide) 1 (by decide) (by decide)) q_cX12_358 q_dX12_goesBoth (by decide) rfl rfl hl.1 rfl (Nat.le_of_ble_eq_true rfl) dX12_node_15 (fun y118 H locs f117 ry118 h119 hF hB => ?_)
      obtain ⟨qy118, z120⟩ := h119
      have z121 : q_is (q_z f117 sr 3) xt := Eq.trans (hF.z hsr (by rw [ksr]; rfl)) hf0
      have z122 : q_is (q_z f117 sr 4) xm := Eq.trans (hF.z hsr (by rw [ksr]; rfl)) hf1
      have z123 : q_ir (q_r f117 mo 13) sr := Eq.trans (hF.r hmo (by rw [kmo]; rfl)) hr0
      have g124 : q_gr f117 sr := q_gr_fr hgr (fun i9 _ => hF.z hsr (by rw [ksr]; rfl))
      subst qy118
      refine q_ifne (tgt := 23) cx ⟨by decide, by decide⟩ dX12_node_18 (by decide) (fun c125 => ?_) (fun c125 => ?_)
      · refine q_ild_n cx dX12_node_23 rfl (lv_at hl 2 rfl) ?_
        by_cases c127 : b0 = 3
        · refine lv_tableIn (tgt := 72) cx.1 cx.2.1 dX12_node_24 (by rw [q_toInt ⟨by omega, by omega⟩]; omega) (by rw [q_toInt ⟨by omega, by omega⟩]; omega) (off := 48) (by rw [q_toInt ⟨by omega, by omega⟩, c127]; rfl) (by decide) ?_
          refine q_ald_n cx dX12_node_72 rfl (lv_at hl 0 rfl) ?_
          refine q_ild_n cx dX12_node_73 rfl (lv_at hl 1 rfl) ?_
          refine q_cVi (As := [.int (q_i a0)]) (rest := []) cx hB (fun _ h => h) hN hmo kmo (by decide) rfl (r_dayOf l g hN hB.2.1 mo hmo kmo a0 (by omega) (by omega) sr hsr ksr z123 g124) q_cX12_289 q_dX12_dayOf (by decide) rfl rfl hl.1 rfl (Nat.le_of_ble_eq_true rfl) dX12_node_74 (fun y129 H locs f128 ry129 h130 hF hB => ?_)
          obtain ⟨rfl, ly129, uy129⟩ := h130
          refine q_iret cx hr hlk hB dX12_node_77 ⟨by omega, by omega⟩ ?_
          trivial
        by_cases c131 : b0 = 4
        · refine lv_tableIn (tgt := 78) cx.1 cx.2.1 dX12_node_24 (by rw [q_toInt ⟨by omega, by omega⟩]; omega) (by rw [q_toInt ⟨by omega, by omega⟩]; omega) (off := 54) (by rw [q_toInt ⟨by omega, by omega⟩, c131]; rfl) (by decide) ?_
          refine q_ald_n cx dX12_node_78 rfl (lv_at hl 0 rfl) ?_
          refine q_ild_n cx dX12_node_79 rfl (lv_at hl 1 rfl) ?_
          refine q_cVi (As := [.int (q_i a0)]) (rest := []) cx hB (fun _ h => h) hN hmo kmo (by decide) rfl (r_isAwakeNow l g hN hB.2.1 mo hmo kmo a0 (by omega) (by omega) sr hsr ksr z123 g124) q_cX12_362 q_dX12_isAwakeNow (by decide) rfl rfl hl.1 rfl (Nat.le_of_ble_eq_true rfl) dX12_node_80 (fun y133 H locs f132 ry133 h134 hF hB => ?_)
          obtain ⟨rfl, ly133, uy133⟩ := h134
          by_cases c135 : y133 ≤ 0
          · refine q_cSi (As := [.int (q_i y133)]) (rest := []) cx hB (fun _ h => h) hN (r_truth0 l g hN hB.2.1 y133 (by omega) (by omega)) q_cX12_78 q_dX12_truth (by decide) rfl rfl hl.1 rfl (Nat.le_of_ble_eq_true rfl) dX12_node_83 (fun y137 H locs f136 ry137 h138 hF hB => ?_)
            obtain ⟨rfl, qy137⟩ := h138
            subst qy137
            refine q_iret cx hr hlk hB dX12_node_86 ⟨by decide, by decide⟩ ?_
            trivial
          · refine q_cSi (As := [.int (q_i y133)]) (rest := []) cx hB (fun _ h => h) hN (r_truth1 l g hN hB.2.1 y133 (by omega) (by omega)) q_cX12_78 q_dX12_truth (by decide) rfl rfl hl.1 rfl (Nat.le_of_ble_eq_true rfl) dX12_node_83 (fun y140 H locs f139 ry140 h141 hF hB => ?_)
            obtain ⟨rfl, qy140⟩ := h141
            subst qy140
            refine q_iret cx hr hlk hB dX12_node_86 ⟨by decide, by decide⟩ ?_
            trivial
        by_cases c142 : b0 = 5
        · refine lv_tableIn (tgt := 87) cx.1 cx.2.1 dX12_node_24 (by rw [q_toInt ⟨by omega, by omega⟩]; omega) (by rw [q_toInt ⟨by omega, by omega⟩]; omega) (off := 63) (by rw [q_toInt ⟨by omega, by omega⟩, c142]; rfl) (by decide) ?_
          refine q_ald_n cx dX12_node_87 rfl (lv_at hl 0 rfl) ?_
          refine q_ild_n cx dX12_node_88 rfl (lv_at hl 1 rfl) ?_
          refine q_cVi (As := [.int (q_i a0)]) (rest := []) cx hB (fun _ h => h) hN hmo kmo (by decide) rfl (r_neighbours l g hN hB.2.1 mo hmo kmo a0 (by omega) (by omega) sr hsr ksr z123 g124) q_cX12_265 q_dX12_neighbours (by decide) rfl rfl hl.1 rfl (Nat.le_of_ble_eq_true rfl) dX12_node_89 (fun y144 H locs f143 ry144 h145 hF hB => ?_)
          obtain rfl := h145
          refine q_iret cx hr hlk hB dX12_node_92 ⟨by omega, by omega⟩ ?_
          trivial
        by_cases c146 : b0 = 6
        · refine lv_tableIn (tgt := 93) cx.1 cx.2.1 dX12_node_24 (by rw [q_toInt ⟨by omega, by omega⟩]; omega) (by rw [q_toInt ⟨by omega, by omega⟩]; omega) (off := 69) (by rw [q_toInt ⟨by omega, by omega⟩, c146]; rfl) (by decide) ?_
          refine q_ald_n cx dX12_node_93 rfl (lv_at hl 0 rfl) ?_
          refine q_ild_n cx dX12_node_94 rfl (lv_at hl 1 rfl) ?_
          refine q_iconst cx dX12_node_95 ?_
          refine q_cVi (As := [.int (q_i a0), .int (q_i 3)]) (rest := []) cx hB (fun _ h => h) hN hmo kmo (by decide) rfl (r_ofNode3 l g hN hB.2.1 mo hmo kmo a0 (by omega) (by omega) 3 (by decide) (by decide) sr hsr ksr z123 g124) q_cX12_256 q_dX12_ofNode (by decide) rfl rfl hl.1 rfl (Nat.le_of_ble_eq_true rfl) dX12_node_96 (fun y148 H locs f147 ry148 h149 hF hB => ?_)
          obtain rfl := h149
          refine q_iret cx hr hlk hB dX12_node_99 ⟨by omega, by omega⟩ ?_
          trivial
        by_cases c150 : b0 = 7
        · refine lv_tableIn (tgt := 100) cx.1 cx.2.1 dX12_node_24 (by rw [q_toInt ⟨by omega, by omega⟩]; omega) (by rw [q_toInt ⟨by omega, by omega⟩]; omega) (off := 76) (by rw [q_toInt ⟨by omega, by omega⟩, c150]; rfl) (by decide) ?_
          refine q_ald_n cx dX12_node_100 rfl (lv_at hl 0 rfl) ?_
          refine q_ild_n cx dX12_node_101 rfl (lv_at hl 1 rfl) ?_
          refine q_iconst cx dX12_node_102 ?_
          refine q_cVi (As := [.int (q_i a0), .int (q_i 4)]) (rest := []) cx hB (fun _ h => h) hN hmo kmo (by decide) rfl (r_ofNode4 l g hN hB.2.1 mo hmo kmo a0 (by omega) (by omega) 4 (by decide) (by decide) sr hsr ksr z123 g124) q_cX12_256 q_dX12_ofNode (by decide) rfl rfl hl.1 rfl (Nat.le_of_ble_eq_true rfl) dX12_node_103 (fun y152 H locs f151 ry152 h153 hF hB => ?_)
          obtain rfl := h153
          refine q_iret cx hr hlk hB dX12_node_106 ⟨by omega, by omega⟩ ?_
          trivial
        by_cases c154 : b0 = 8
        · refine lv_tableIn (tgt := 107) cx.1 cx.2.1 dX12_node_24 (by rw [q_toInt ⟨by omega, by omega⟩]; omega) (by rw [q_toInt ⟨by omega, by omega⟩]; omega) (off := 83) (by rw [q_toInt ⟨by omega, by omega⟩, c154]; rfl) (by decide) ?_
          refine q_ald_n cx dX12_node_107 rfl (lv_at hl 0 rfl) ?_
          refine q_ild_n cx dX12_node_108 rfl (lv_at hl 1 rfl) ?_
          refine q_iconst cx dX12_node_109 ?_
          refine q_cVi (As := [.int (q_i a0), .int (q_i 5)]) (rest := []) cx hB (fun _ h => h) hN hmo kmo (by decide) rfl (r_ofNode5 l g hN hB.2.1 mo hmo kmo a0 (by omega) (by omega) 5 (by decide) (by decide) sr hsr ksr z123 g124) q_cX12_256 q_dX12_ofNode (by decide) rfl rfl hl.1 rfl (Nat.le_of_ble_eq_true rfl) dX12_node_110 (fun y156 H locs f155 ry156 h157 hF hB => ?_)
          obtain rfl := h157
          refine q_iret cx hr hlk hB dX12_node_113 ⟨by omega, by omega⟩ ?_
          trivial
        by_cases c158 : b0 = 9
        · refine lv_tableIn (tgt := 114) cx.1 cx.2.1 dX12_node_24 (by rw [q_toInt ⟨by omega, by omega⟩]; omega) (by rw [q_toInt ⟨by omega, by omega⟩]; omega) (off := 90) (by rw [q_toInt ⟨by omega, by omega⟩, c158]; rfl) (by decide) ?_
          refine q_ald_n cx dX12_node_114 rfl (lv_at hl 0 rfl) ?_
          refine q_ild_n cx dX12_node_115 rfl (lv_at hl 1 rfl) ?_
          refine q_cVi (As := [.int (q_i a0)]) (rest := []) cx hB (fun _ h => h) hN hmo kmo (by decide) rfl (r_daysOf l g hN hB.2.1 mo hmo kmo a0 (by omega) (by omega) sr hsr ksr z123 g124) q_cX12_365 q_dX12_daysOf (by decide) rfl rfl hl.1 rfl (Nat.le_of_ble_eq_true rfl) dX12_node_116 (fun y160 H locs f159 ry160 h161 hF hB => ?_)
          obtain rfl := h161
          refine q_iret cx hr hlk hB dX12_node_119 ⟨by omega, by omega⟩ ?_
          trivial
        by_cases c162 : b0 = 10
        · refine lv_tableIn (tgt := 120) cx.1 cx.2.1 dX12_node_24 (by rw [q_toInt ⟨by omega, by omega⟩]; omega) (by rw [q_toInt ⟨by omega, by omega⟩]; omega) (off := 96) (by rw [q_toInt ⟨by omega, by omega⟩, c162]; rfl) (by decide) ?_
          refine q_ald_n cx dX12_node_120 rfl (lv_at hl 0 rfl) ?_
          refine q_ild_n cx dX12_node_121 rfl (lv_at hl 1 rfl) ?_
          refine q_cVi (As := [.int (q_i a0)]) (rest := []) cx hB (fun _ h => h) hN hmo kmo (by decide) rfl (r_underWayAt l g hN hB.2.1 mo hmo kmo a0 (by omega) (by omega) sr hsr ksr z123 g124) q_cX12_368 q_dX12_underWayAt (by decide) rfl rfl hl.1 rfl (Nat.le_of_ble_eq_true rfl) dX12_node_122 (fun y164 H locs f163 ry164 h165 hF hB => ?_)
          obtain rfl := h165
          refine q_iret cx hr hlk hB dX12_node_125 ⟨by omega, by omega⟩ ?_
          trivial
        refine lv_tableOut (tgt := 126) cx.1 cx.2.1 dX12_node_24 (by rw [q_toInt ⟨by omega, by omega⟩]; omega) (by decide) ?_
        refine q_ald_n cx dX12_node_126 rfl (lv_at hl 0 rfl) ?_
        refine q_ild_n cx dX12_node_127 rfl (lv_at hl 1 rfl) ?_
        refine q_ild_n cx dX12_node_128 rfl (lv_at hl 2 rfl) ?_
        refine q_cVi (As := [.int (q_i a0), .int (q_i b0)]) (rest := []) cx hB (fun _ h => h) hN hmo kmo (by decide) rfl (r_ofNodex l g hN hB.2.1 mo hmo kmo a0 (by omega) (by omega) b0 (by omega) (by omega) sr hsr ksr z123) q_cX12_256 q_dX12_ofNode (by decide) rfl rfl hl.1 rfl (Nat.le_of_ble_eq_true rfl) dX12_node_129 (fun y167 H locs f166 ry167 h168 hF hB => ?_)
        obtain rfl := h168
        refine q_iret cx hr hlk hB dX12_node_132 ⟨by omega, by omega⟩ ?_
        trivial
      · exact absurd c125 (by omega)
    · obtain ⟨rfl, qy111, t169⟩ := h114
      subst qy111
      refine q_cVi (As := [.int (q_i 1), .int (q_i 0)]) (rest := []) cx hB (fun _ h => h) hN hmo kmo (by decide) rfl (r_goesBoth1 l g hN hB.2.1 mo hmo kmo 1 (by decide) (by decide) 0 (by decide) (by decide)) q_cX12_358 q_dX12_goesBoth (by decide) rfl rfl hl.1 rfl (Nat.le_of_ble_eq_true rfl) dX12_node_15 (fun y171 H locs f170 ry171 h172 hF hB => ?_)
      obtain ⟨qy171, z173⟩ := h172
      have z174 : q_is (q_z f170 sr 3) xt := Eq.trans (hF.z hsr (by rw [ksr]; rfl)) hf0
      have z175 : q_is (q_z f170 sr 4) xm := Eq.trans (hF.z hsr (by rw [ksr]; rfl)) hf1
      have z176 : q_ir (q_r f170 mo 13) sr := Eq.trans (hF.r hmo (by rw [kmo]; rfl)) hr0
      have g177 : q_gr f170 sr := q_gr_fr hgr (fun i9 _ => hF.z hsr (by rw [ksr]; rfl))
      subst qy171
      refine q_ifne (tgt := 23) cx ⟨by decide, by decide⟩ dX12_node_18 (by decide) (fun c178 => ?_) (fun c178 => ?_)
      · exact absurd c178 (by omega)
      · refine q_iconst cx dX12_node_21 ?_
        refine q_iret cx hr hlk hB dX12_node_22 ⟨by decide, by decide⟩ ?_
        trivial
  · obtain ⟨rfl, qy104⟩ := h107
    subst qy104
    refine q_ild_n cx dX12_node_6 rfl (lv_at hl 2 rfl) ?_
    refine q_i2l cx ⟨by omega, by omega⟩ dX12_node_7 ?_
    refine q_lconst (z := 0) cx (by decide) dX12_node_8 ?_
    refine lv_ldc2 (v := q_l 10) cx.1 cx.2.1 cx.2.2.2.1 (cx.2.2.2.2 _ q_h1859) dX12_node_9 ?_
    refine q_cSi (As := [.long (q_l b0), .long (q_l 0), .long (q_l 10)]) (rest := [.int (q_i 0), .ref mo]) cx hB (fun _ h => h) hN (r_isIn l g hN hB.2.1 b0 (by omega) (by omega) 0 (by decide) (by decide) 10 (by decide) (by decide)) q_cX12_93 q_dX12_isIn (by decide) rfl rfl hl.1 rfl (Nat.le_of_ble_eq_true rfl) dX12_node_12 (fun y180 H locs f179 ry180 h181 hF hB => ?_)
    rcases h181 with h182 | h183
    · obtain ⟨rfl, qy180, t184, t185⟩ := h182
      subst qy180
      refine q_cVi (As := [.int (q_i 0), .int (q_i 1)]) (rest := []) cx hB (fun _ h => h) hN hmo kmo (by decide) rfl (r_goesBoth0 l g hN hB.2.1 mo hmo kmo 0 (by decide) (by decide) 1 (by decide) (by decide)) q_cX12_358 q_dX12_goesBoth (by decide) rfl rfl hl.1 rfl (Nat.le_of_ble_eq_true rfl) dX12_node_15 (fun y187 H locs f186 ry187 h188 hF hB => ?_)
      obtain ⟨qy187, z189⟩ := h188
      have z190 : q_is (q_z f186 sr 3) xt := Eq.trans (hF.z hsr (by rw [ksr]; rfl)) hf0
      have z191 : q_is (q_z f186 sr 4) xm := Eq.trans (hF.z hsr (by rw [ksr]; rfl)) hf1
      have z192 : q_ir (q_r f186 mo 13) sr := Eq.trans (hF.r hmo (by rw [kmo]; rfl)) hr0
      have g193 : q_gr f186 sr := q_gr_fr hgr (fun i9 _ => hF.z hsr (by rw [ksr]; rfl))
      subst qy187
      refine q_ifne (tgt := 23) cx ⟨by decide, by decide⟩ dX12_node_18 (by decide) (fun c194 => ?_) (fun c194 => ?_)
      · exact absurd c194 (by omega)
      · refine q_iconst cx dX12_node_21 ?_
        refine q_iret cx hr hlk hB dX12_node_22 ⟨by decide, by decide⟩ ?_
        trivial
    · obtain ⟨rfl, qy180, t195⟩ := h183
      subst qy180
      refine q_cVi (As := [.int (q_i 0), .int (q_i 0)]) (rest := []) cx hB (fun _ h => h) hN hmo kmo (by decide) rfl (r_goesBoth0 l g hN hB.2.1 mo hmo kmo 0 (by decide) (by decide) 0 (by decide) (by decide)) q_cX12_358 q_dX12_goesBoth (by decide) rfl rfl hl.1 rfl (Nat.le_of_ble_eq_true rfl) dX12_node_15 (fun y197 H locs f196 ry197 h198 hF hB => ?_)
      obtain ⟨qy197, z199⟩ := h198
      have z200 : q_is (q_z f196 sr 3) xt := Eq.trans (hF.z hsr (by rw [ksr]; rfl)) hf0
      have z201 : q_is (q_z f196 sr 4) xm := Eq.trans (hF.z hsr (by rw [ksr]; rfl)) hf1
      have z202 : q_ir (q_r f196 mo 13) sr := Eq.trans (hF.r hmo (by rw [kmo]; rfl)) hr0
      have g203 : q_gr f196 sr := q_gr_fr hgr (fun i9 _ => hF.z hsr (by rw [ksr]; rfl))
      subst qy197
      refine q_ifne (tgt := 23) cx ⟨by decide, by decide⟩ dX12_node_18 (by decide) (fun c204 => ?_) (fun c204 => ?_)
      · exact absurd c204 (by omega)
      · refine q_iconst cx dX12_node_21 ?_
        refine q_iret cx hr hlk hB dX12_node_22 ⟨by decide, by decide⟩ ?_
        trivial
set_option maxHeartbeats 4000000 in
set_option maxRecDepth 100000 in
theorem r_link (l : Launch) (g : q_G) {K : Nat → Nat} {L : List Nat} (hN : L.Nodup) {f : Nat → va_E} (hT : q_Ty g K L f) (mo : Nat) (hmo : mo ∈ L) (kmo : K mo = 12) (a0 : Int) (la0 : (-2147483648) ≤ a0) (ua0 : a0 ≤ 2147483647) (b0 : Int) (lb0 : (-2147483648) ≤ b0) (ub0 : b0 ≤ 2147483647) (sr : Nat) (hsr : sr ∈ L) (ksr : K sr = 151) (hr0 : q_ir (q_r f mo 13) sr) (hgr : q_gr f sr) : q_Ct l g K L yX12_link cX12_link 3 (some .int) 1 25 [.ref mo, .int (q_i a0), .int (q_i b0)] f [(12, 0, 0)] (q_Pi (fun (z : Int) (f1 : Nat → va_E) => True)) := by
  refine q_ofb (by decide +kernel) hN hT (Nat.le_of_ble_eq_true rfl) ?_
  intro p e s m below meth c ls cx hr hlk hB hl
  have hl : lv_has ls 3 [(0, .ref mo), (1, .int (q_i a0)), (2, .int (q_i b0))] := hl
  obtain ⟨H, hH⟩ : ∃ H : Heap, H = s.heap := ⟨_, rfl⟩
  obtain ⟨locs, hlocs⟩ : ∃ z : List Loc, z = [] := ⟨_, rfl⟩
  rw [← hH, ← hlocs] at hB
  rw [← hH, ← hlocs]
  refine q_ald_n cx dX12_link_0 rfl (lv_at hl 0 rfl) ?_
  refine q_ild_n cx dX12_link_1 rfl (lv_at hl 1 rfl) ?_
  refine q_i2l cx ⟨by omega, by omega⟩ dX12_link_2 ?_
  refine q_lconst (z := 0) cx (by decide) dX12_link_3 ?_
  refine q_ald_n cx dX12_link_4 rfl (lv_at hl 0 rfl) ?_
  refine q_gX12_20 cx hB hmo kmo hr0 dX12_link_5 (fun hb63 kb63 => ?_)
  refine q_iconst cx dX12_link_8 ?_
  obtain ⟨x64, ex64⟩ : ∃ zz, q_is (q_z f sr (Int.toNat 1)) zz := ⟨_, q_isr _⟩
  refine q_iald (lo := 0) (hi := 16) (n := 658) cx hB hsr ksr (by decide) rfl rfl (by decide) (by decide) (by decide) rfl ex64 dX12_link_9 (fun lb65 ub65 => ?_)
  refine q_iconst cx dX12_link_10 ?_
  refine q_isub cx dX12_link_11 ?_
  refine q_i2l cx ⟨by omega, by omega⟩ dX12_link_12 ?_
  refine q_cSi (As := [.long (q_l a0), .long (q_l 0), .long (q_l (x64 - 1))]) (rest := [.ref mo]) cx hB (fun _ h => h) hN (r_isIn l g hN hB.2.1 a0 (by omega) (by omega) 0 (by decide) (by decide) (x64 - 1) (by omega) (by omega)) q_cX12_93 q_dX12_isIn (by decide) rfl rfl hl.1 rfl (Nat.le_of_ble_eq_true rfl) dX12_link_13 (fun y67 H locs f66 ry67 h68 hF hB => ?_)
  rcases h68 with h69 | h70
  · obtain ⟨rfl, qy67, t71, t72⟩ := h69
    subst qy67
    refine q_ild_n cx dX12_link_16 rfl (lv_at hl 2 rfl) ?_
    refine q_i2l cx ⟨by omega, by omega⟩ dX12_link_17 ?_
    refine q_lconst (z := 0) cx (by decide) dX12_link_18 ?_
    refine lv_ldc2 (v := q_l 4) cx.1 cx.2.1 cx.2.2.2.1 (cx.2.2.2.2 _ q_h1936) dX12_link_19 ?_
    refine q_cSi (As := [.long (q_l b0), .long (q_l 0), .long (q_l 4)]) (rest := [.int (q_i 1), .ref mo]) cx hB (fun _ h => h) hN (r_isIn l g hN hB.2.1 b0 (by omega) (by omega) 0 (by decide) (by decide) 4 (by decide) (by decide)) q_cX12_93 q_dX12_isIn (by decide) rfl rfl hl.1 rfl (Nat.le_of_ble_eq_true rfl) dX12_link_22 (fun y74 H locs f73 ry74 h75 hF hB => ?_)
    rcases h75 with h76 | h77
    · obtain ⟨rfl, qy74, t78, t79⟩ := h76
      subst qy74
      refine q_cVi (As := [.int (q_i 1), .int (q_i 1)]) (rest := []) cx hB (fun _ h => h) hN hmo kmo (by decide) rfl (r_goesBoth2 l g hN hB.2.1 mo hmo kmo 1 (by decide) (by decide) 1 (by decide) (by decide)) q_cX12_358 q_dX12_goesBoth (by decide) rfl rfl hl.1 rfl (Nat.le_of_ble_eq_true rfl) dX12_link_25 (fun y81 H locs f80 ry81 h82 hF hB => ?_)
      obtain ⟨qy81, z83⟩ := h82
      have z84 : q_is (q_z f80 sr 1) x64 := Eq.trans (hF.z hsr (by rw [ksr]; rfl)) ex64
      have z85 : q_ir (q_r f80 mo 13) sr := Eq.trans (hF.r hmo (by rw [kmo]; rfl)) hr0
      have g86 : q_gr f80 sr := q_gr_fr hgr (fun i9 _ => hF.z hsr (by rw [ksr]; rfl))
      subst qy81
      refine q_ifeq (tgt := 40) cx ⟨by decide, by decide⟩ dX12_link_28 (by decide) (fun c87 => ?_) (fun c87 => ?_)
      · exact absurd c87 (by omega)
      · refine q_ald_n cx dX12_link_31 rfl (lv_at hl 0 rfl) ?_
        refine q_ild_n cx dX12_link_32 rfl (lv_at hl 1 rfl) ?_
        refine q_ild_n cx dX12_link_33 rfl (lv_at hl 2 rfl) ?_
        refine q_cVi (As := [.int (q_i a0), .int (q_i b0)]) (rest := []) cx hB (fun _ h => h) hN hmo kmo (by decide) rfl (r_ofLinkx l g hN hB.2.1 mo hmo kmo a0 (by omega) (by omega) b0 (by omega) (by omega) sr hsr ksr z85) q_cX12_210 q_dX12_ofLink (by decide) rfl rfl hl.1 rfl (Nat.le_of_ble_eq_true rfl) dX12_link_34 (fun y89 H locs f88 ry89 h90 hF hB => ?_)
        obtain rfl := h90
        refine lv_goto (tgt := 41) cx.1 cx.2.1 dX12_link_37 (by decide) ?_
        refine q_iret cx hr hlk hB dX12_link_41 ⟨by omega, by omega⟩ ?_
        trivial
    · obtain ⟨rfl, qy74, t91⟩ := h77
      subst qy74
      refine q_cVi (As := [.int (q_i 1), .int (q_i 0)]) (rest := []) cx hB (fun _ h => h) hN hmo kmo (by decide) rfl (r_goesBoth1 l g hN hB.2.1 mo hmo kmo 1 (by decide) (by decide) 0 (by decide) (by decide)) q_cX12_358 q_dX12_goesBoth (by decide) rfl rfl hl.1 rfl (Nat.le_of_ble_eq_true rfl) dX12_link_25 (fun y93 H locs f92 ry93 h94 hF hB => ?_)
      obtain ⟨qy93, z95⟩ := h94
      have z96 : q_is (q_z f92 sr 1) x64 := Eq.trans (hF.z hsr (by rw [ksr]; rfl)) ex64
      have z97 : q_ir (q_r f92 mo 13) sr := Eq.trans (hF.r hmo (by rw [kmo]; rfl)) hr0
      have g98 : q_gr f92 sr := q_gr_fr hgr (fun i9 _ => hF.z hsr (by rw [ksr]; rfl))
      subst qy93
      refine q_ifeq (tgt := 40) cx ⟨by decide, by decide⟩ dX12_link_28 (by decide) (fun c99 => ?_) (fun c99 => ?_)
      · refine q_iconst cx dX12_link_40 ?_
        refine q_iret cx hr hlk hB dX12_link_41 ⟨by decide, by decide⟩ ?_
        trivial
      · exact absurd c99 (by omega)
  · obtain ⟨rfl, qy67, t100⟩ := h70
    subst qy67
    refine q_ild_n cx dX12_link_16 rfl (lv_at hl 2 rfl) ?_
    refine q_i2l cx ⟨by omega, by omega⟩ dX12_link_17 ?_
    refine q_lconst (z := 0) cx (by decide) dX12_link_18 ?_
    refine lv_ldc2 (v := q_l 4) cx.1 cx.2.1 cx.2.2.2.1 (cx.2.2.2.2 _ q_h1936) dX12_link_19 ?_
    refine q_cSi (As := [.long (q_l b0), .long (q_l 0), .long (q_l 4)]) (rest := [.int (q_i 0), .ref mo]) cx hB (fun _ h => h) hN (r_isIn l g hN hB.2.1 b0 (by omega) (by omega) 0 (by decide) (by decide) 4 (by decide) (by decide)) q_cX12_93 q_dX12_isIn (by decide) rfl rfl hl.1 rfl (Nat.le_of_ble_eq_true rfl) dX12_link_22 (fun y102 H locs f101 ry102 h103 hF hB => ?_)
    rcases h103 with h104 | h105
    · obtain ⟨rfl, qy102, t106, t107⟩ := h104
      subst qy102
      refine q_cVi (As := [.int (q_i 0), .int (q_i 1)]) (rest := []) cx hB (fun _ h => h) hN hmo kmo (by decide) rfl (r_goesBoth0 l g hN hB.2.1 mo hmo kmo 0 (by decide) (by decide) 1 (by decide) (by decide)) q_cX12_358 q_dX12_goesBoth (by decide) rfl rfl hl.1 rfl (Nat.le_of_ble_eq_true rfl) dX12_link_25 (fun y109 H locs f108 ry109 h110 hF hB => ?_)
      obtain ⟨qy109, z111⟩ := h110
      have z112 : q_is (q_z f108 sr 1) x64 := Eq.trans (hF.z hsr (by rw [ksr]; rfl)) ex64
      have z113 : q_ir (q_r f108 mo 13) sr := Eq.trans (hF.r hmo (by rw [kmo]; rfl)) hr0
      have g114 : q_gr f108 sr := q_gr_fr hgr (fun i9 _ => hF.z hsr (by rw [ksr]; rfl))
      subst qy109
      refine q_ifeq (tgt := 40) cx ⟨by decide, by decide⟩ dX12_link_28 (by decide) (fun c115 => ?_) (fun c115 => ?_)
      · refine q_iconst cx dX12_link_40 ?_
        refine q_iret cx hr hlk hB dX12_link_41 ⟨by decide, by decide⟩ ?_
        trivial
      · exact absurd c115 (by omega)
    · obtain ⟨rfl, qy102, t116⟩ := h105
      subst qy102
      refine q_cVi (As := [.int (q_i 0), .int (q_i 0)]) (rest := []) cx hB (fun _ h => h) hN hmo kmo (by decide) rfl (r_goesBoth0 l g hN hB.2.1 mo hmo kmo 0 (by decide) (by decide) 0 (by decide) (by decide)) q_cX12_358 q_dX12_goesBoth (by decide) rfl rfl hl.1 rfl (Nat.le_of_ble_eq_true rfl) dX12_link_25 (fun y118 H locs f117 ry118 h119 hF hB => ?_)
      obtain ⟨qy118, z120⟩ := h119
      have z121 : q_is (q_z f117 sr 1) x64 := Eq.trans (hF.z hsr (by rw [ksr]; rfl)) ex64
      have z122 : q_ir (q_r f117 mo 13) sr := Eq.trans (hF.r hmo (by rw [kmo]; rfl)) hr0
      have g123 : q_gr f117 sr := q_gr_fr hgr (fun i9 _ => hF.z hsr (by rw [ksr]; rfl))
      subst qy118
      refine q_ifeq (tgt := 40) cx ⟨by decide, by decide⟩ dX12_link_28 (by decide) (fun c124 => ?_) (fun c124 => ?_)
      · refine q_iconst cx dX12_link_40 ?_
        refine q_iret cx hr hlk hB dX12_link_41 ⟨by decide, by decide⟩ ?_
        trivial
      · exact absurd c124 (by omega)
