set_option maxHeartbeats 4000000 in
set_option maxRecDepth 100000 in
theorem r_report (l : Launch) (g : q_G) {K : Nat → Nat} {L : List Nat} (hN : L.Nodup) {f : Nat → va_E} (hT : q_Ty g K L f) (mo : Nat) (hmo : mo ∈ L) (kmo : K mo = 12) (sr : Nat) (hsr : sr ∈ L) (ksr : K sr = 151) (nm : Nat) (hnm : nm ∈ L) (knm : K nm = 156) (rp : Nat) (hrp : rp ∈ L) (krp : K rp = 167) (hr0 : q_ir (q_r f mo 13) sr) (hr1 : q_ir (q_r f mo 18) nm) (hr2 : q_ir (q_r f mo 38) rp) (hgr : q_gr f sr) : q_Ct l g K L yX12_report cX12_report 2 (some .int) 7 155 [.ref mo] f [(12, 0, 0), (12, 39, 40), (167, 0, 479)] (q_Pi (fun (z : Int) (f1 : Nat → va_E) => 0 ≤ z ∧ z ≤ 480)) := by
  refine q_ofb (by decide +kernel) hN hT (Nat.le_of_ble_eq_true rfl) ?_
  intro p e s m below meth c ls cx hr hlk hB hl
  have hl : lv_has ls 2 [(0, .ref mo)] := hl
  have J17 : ∀ (n : Nat) (f17 : Nat → va_E) (v17_1 : Int) (lv17_1 : 0 ≤ v17_1) (uv17_1 : v17_1 ≤ 10) (w17_mo_39 : Int) (lw17_mo_39 : 0 ≤ w17_mo_39) (uw17_mo_39 : w17_mo_39 ≤ 480) (hj_mo_39 : q_is (q_z f17 mo 39) w17_mo_39) (hq_mo_13 : q_ir (q_r f17 mo 13) sr) (hq_mo_18 : q_ir (q_r f17 mo 18) nm) (hq_mo_38 : q_ir (q_r f17 mo 38) rp) (hgr17 : q_gr f17 sr) (hrp : w17_mo_39 ≤ 23 * v17_1 + 4 * k_cl f17 sr v17_1 60) (hmu : (Int.toNat (2147483647 - v17_1)) < n) (H : Heap) (locs : List Loc) (hB : q_B g K L (fun q => q ∈ L) [(12, 0, 0), (12, 39, 40), (167, 0, 479)] f f17 s H locs) (ls : Array Slot) (hl : lv_has ls 2 [(0, .ref mo), (1, .int (q_i v17_1))]), W p l e { frames := 7, cells := 0, slots := 0, locals := 155 } s m ([.ref mo] : List Value).toArray below meth c H locs 0 0 (MQ below (q_Q g K L [(12, 0, 0), (12, 39, 40), (167, 0, 479)] f (q_Pi (fun (z : Int) (f1 : Nat → va_E) => 0 ≤ z ∧ z ≤ 480))) ([.ref mo] : List Value).toArray s 0 0 (fun q => q ∈ L)) (F0 m 17 ls []) := by
    intro n
    induction n with
    | zero =>
      intro f17 v17_1 lv17_1 uv17_1 w17_mo_39 lw17_mo_39 uw17_mo_39 hj_mo_39 hq_mo_13 hq_mo_18 hq_mo_38 hgr17 hrp hmu
      exact absurd hmu (Nat.not_lt_zero _)
    | succ n ih17 =>
      intro f17 v17_1 lv17_1 uv17_1 w17_mo_39 lw17_mo_39 uw17_mo_39 hj_mo_39 hq_mo_13 hq_mo_18 hq_mo_38 hgr17 hrp hmu H locs hB ls hl
      refine q_ild_n cx dX12_report_17 rfl (lv_at hl 1 rfl) ?_
      refine q_ald_n cx dX12_report_18 rfl (lv_at hl 0 rfl) ?_
      refine q_gX12_20 cx hB hmo kmo hq_mo_13 dX12_report_19 (fun hb182 kb182 => ?_)
      refine q_iconst cx dX12_report_22 ?_
      obtain ⟨x183, ex183⟩ : ∃ zz, q_is (q_z f17 sr (Int.toNat 0)) zz := ⟨_, q_isr _⟩
      refine q_iald (lo := 0) (hi := 10) (n := 658) cx hB hsr ksr (by decide) rfl rfl (by decide) (by decide) (by decide) rfl ex183 dX12_report_23 (fun lb184 ub184 => ?_)
      refine q_icge (tgt := 38) cx ⟨by omega, by omega⟩ ⟨by omega, by omega⟩ dX12_report_24 (by decide) (fun c185 => ?_) (fun c185 => ?_)
      · refine q_ald_n cx dX12_report_38 rfl (lv_at hl 0 rfl) ?_
        refine q_gX12_515 cx hB hmo kmo hj_mo_39 dX12_report_39 (fun lb186 ub186 => ?_)
        refine q_iret cx hr hlk hB dX12_report_42 ⟨by omega, by omega⟩ ?_
        exact ⟨(by omega), (by omega)⟩
      · refine q_ald_n cx dX12_report_27 rfl (lv_at hl 0 rfl) ?_
        refine q_ild_n cx dX12_report_28 rfl (lv_at hl 1 rfl) ?_
        have h9 := k_cl_le (f := f17) (sr := sr) (n := v17_1) 60
        have hw9 : w17_mo_39 ≤ 447 := by omega
        refine q_cVv (As := [.int (q_i v17_1)]) (rest := []) cx hB (fun _ h => h) hN hmo kmo (by decide) rfl (r_tellNode l g hN hB.2.1 mo hmo kmo v17_1 (by omega) (by omega) sr hsr ksr nm hnm knm rp hrp krp w17_mo_39 (by omega) (by omega) hj_mo_39 hq_mo_13 hq_mo_18 hq_mo_38 hrp hgr17) q_cX12_527 q_dX12_tellNode (by decide) rfl rfl hl.1 rfl (Nat.le_of_ble_eq_true rfl) dX12_report_29 (fun H locs f187 h189 hF hB => ?_)
        obtain ⟨lz190, uz190, t191⟩ := h189
        have z192 : q_is (q_z f187 sr 0) x183 := Eq.trans (hF.z hsr (by rw [ksr]; rfl)) ex183
        have z193 : q_ir (q_r f187 mo 13) sr := Eq.trans (hF.r hmo (by rw [kmo]; rfl)) hq_mo_13
        have z194 : q_ir (q_r f187 mo 18) nm := Eq.trans (hF.r hmo (by rw [kmo]; rfl)) hq_mo_18
        have z195 : q_ir (q_r f187 mo 38) rp := Eq.trans (hF.r hmo (by rw [kmo]; rfl)) hq_mo_38
        have g196 : q_gr f187 sr := q_gr_fr hgr17 (fun i9 _ => hF.z hsr (by rw [ksr]; rfl))
        obtain ⟨x197, ex197⟩ : ∃ zz, q_is (q_z f187 mo 39) zz := ⟨_, q_isr _⟩
        obtain ⟨lx197, ux197⟩ := q_isb ex197 ⟨lz190, uz190⟩
        refine q_iinc (lv' := [(1, .int (q_i (v17_1 + 1))), (0, .ref mo)]) cx dX12_report_32 hl (k := 1) rfl (by decide) rfl (fun ls hl => ?_)
        refine lv_goto (tgt := 17) cx.1 cx.2.1 dX12_report_35 (by decide) ?_
        exact ih17 f187 (v17_1 + 1) (by omega) (by omega) x197 (by omega) (by omega) ex197 z193 z194 z195 g196 (q_isu9 ex197 t191) (by omega) H locs hB ls (lv_sub hl [1, 0] rfl)
  obtain ⟨H, hH⟩ : ∃ H : Heap, H = s.heap := ⟨_, rfl⟩
  obtain ⟨locs, hlocs⟩ : ∃ z : List Loc, z = [] := ⟨_, rfl⟩
  rw [← hH, ← hlocs] at hB
  rw [← hH, ← hlocs]
  refine q_ald_n cx dX12_report_0 rfl (lv_at hl 0 rfl) ?_
  refine q_iconst cx dX12_report_1 ?_
  refine q_pX12_75 cx hB hmo kmo ⟨by decide, by decide⟩ (by decide) (by decide) rfl dX12_report_2 (fun H locs f198 ef198 z199 hB => ?_)
  have z200 : q_ir (q_r f198 mo 13) sr := by rw [ef198, q_setr (Or.inr (by decide))]; exact hr0
  have z201 : q_ir (q_r f198 mo 18) nm := by rw [ef198, q_setr (Or.inr (by decide))]; exact hr1
  have z202 : q_ir (q_r f198 mo 38) rp := by rw [ef198, q_setr (Or.inr (by decide))]; exact hr2
  have g203 : q_gr f198 sr := q_gr_ne hgr ef198 (fun q => q_kne (k := 151) (k2 := 12) (by decide) ksr kmo q)
  refine q_ald_n cx dX12_report_5 rfl (lv_at hl 0 rfl) ?_
  refine q_iconst cx dX12_report_6 ?_
  refine q_pX12_515 cx hB hmo kmo ⟨by decide, by decide⟩ (by decide) (by decide) rfl dX12_report_7 (fun H locs f204 ef204 z205 hB => ?_)
  have z206 : q_is (q_z f204 mo 0) 0 := by rw [ef204, q_setz (Or.inr (by decide))]; exact z199
  have z207 : q_ir (q_r f204 mo 13) sr := by rw [ef204, q_setr (Or.inr (by decide))]; exact z200
  have z208 : q_ir (q_r f204 mo 18) nm := by rw [ef204, q_setr (Or.inr (by decide))]; exact z201
  have z209 : q_ir (q_r f204 mo 38) rp := by rw [ef204, q_setr (Or.inr (by decide))]; exact z202
  have g210 : q_gr f204 sr := q_gr_ne g203 ef204 (fun q => q_kne (k := 151) (k2 := 12) (by decide) ksr kmo q)
  refine q_ald_n cx dX12_report_10 rfl (lv_at hl 0 rfl) ?_
  refine q_iconst cx dX12_report_11 ?_
  refine q_pX12_524 cx hB hmo kmo ⟨by decide, by decide⟩ (by decide) (by decide) rfl dX12_report_12 (fun H locs f211 ef211 z212 hB => ?_)
  have z213 : q_is (q_z f211 mo 0) 0 := by rw [ef211, q_setz (Or.inr (by decide))]; exact z206
  have z214 : q_is (q_z f211 mo 39) 0 := by rw [ef211, q_setz (Or.inr (by decide))]; exact z205
  have z215 : q_ir (q_r f211 mo 13) sr := by rw [ef211, q_setr (Or.inr (by decide))]; exact z207
  have z216 : q_ir (q_r f211 mo 18) nm := by rw [ef211, q_setr (Or.inr (by decide))]; exact z208
  have z217 : q_ir (q_r f211 mo 38) rp := by rw [ef211, q_setr (Or.inr (by decide))]; exact z209
  have g218 : q_gr f211 sr := q_gr_ne g210 ef211 (fun q => q_kne (k := 151) (k2 := 12) (by decide) ksr kmo q)
  refine q_iconst cx dX12_report_15 ?_
  refine lv_istore_n (lv' := [(1, .int (q_i 0)), (0, .ref mo)]) cx.1 cx.2.1 dX12_report_16 rfl hl (by decide) rfl (fun ls hl => ?_)
  exact J17 ((Int.toNat (2147483647 - 0)) + 1) f211 0 (by decide) (by decide) 0 (by decide) (by decide) z214 z215 z216 z217 g218 (k_rp0 _ _) (Nat.lt_succ_self _) H locs hB ls (lv_sub hl [1, 0] rfl)
set_option maxHeartbeats 4000000 in
set_option maxRecDepth 100000 in
theorem r_reportByte (l : Launch) (g : q_G) {K : Nat → Nat} {L : List Nat} (hN : L.Nodup) {f : Nat → va_E} (hT : q_Ty g K L f) (mo : Nat) (hmo : mo ∈ L) (kmo : K mo = 12) (a0 : Int) (la0 : (-2147483648) ≤ a0) (ua0 : a0 ≤ 2147483647) (rp : Nat) (hrp : rp ∈ L) (krp : K rp = 167) (hr0 : q_ir (q_r f mo 38) rp) : q_Ct l g K L yX12_reportByte cX12_reportByte 2 (some .int) 2 41 [.ref mo, .int (q_i a0)] f [(12, 0, 0)] (q_Pi (fun (z : Int) (f1 : Nat → va_E) => True)) := by
  refine q_ofb (by decide +kernel) hN hT (Nat.le_of_ble_eq_true rfl) ?_
  intro p e s m below meth c ls cx hr hlk hB hl
  have hl : lv_has ls 2 [(0, .ref mo), (1, .int (q_i a0))] := hl
  obtain ⟨H, hH⟩ : ∃ H : Heap, H = s.heap := ⟨_, rfl⟩
  obtain ⟨locs, hlocs⟩ : ∃ z : List Loc, z = [] := ⟨_, rfl⟩
  rw [← hH, ← hlocs] at hB
  rw [← hH, ← hlocs]
  refine q_ald_n cx dX12_reportByte_0 rfl (lv_at hl 0 rfl) ?_
  refine q_ald_n cx dX12_reportByte_1 rfl (lv_at hl 0 rfl) ?_
  obtain ⟨x42, ex42⟩ : ∃ zz, q_is (q_z f mo 40) zz := ⟨_, q_isr _⟩
  refine q_gX12_524 cx hB hmo kmo ex42 dX12_reportByte_2 (fun lb43 ub43 => ?_)
  refine q_ifeq (tgt := 28) cx ⟨by omega, by omega⟩ dX12_reportByte_5 (by decide) (fun c44 => ?_) (fun c44 => ?_)
  · refine q_iconst cx dX12_reportByte_28 ?_
    refine q_cVi (As := [.int (q_i 0)]) (rest := []) cx hB (fun _ h => h) hN hmo kmo (by decide) rfl (r_goes0 l g hN hB.2.1 mo hmo kmo 0 (by decide) (by decide)) q_cX12_85 q_dX12_goes (by decide) rfl rfl hl.1 rfl (Nat.le_of_ble_eq_true rfl) dX12_reportByte_29 (fun y46 H locs f45 ry46 h47 hF hB => ?_)
    obtain ⟨qy46, z48⟩ := h47
    have z49 : q_is (q_z f45 mo 40) x42 := Eq.trans (hF.z hmo (by rw [kmo]; rfl)) ex42
    have z50 : q_ir (q_r f45 mo 38) rp := Eq.trans (hF.r hmo (by rw [kmo]; rfl)) hr0
    subst qy46
    refine q_ifeq (tgt := 44) cx ⟨by decide, by decide⟩ dX12_reportByte_32 (by decide) (fun c51 => ?_) (fun c51 => ?_)
    · refine q_iconst cx dX12_reportByte_44 ?_
      refine q_iret cx hr hlk hB dX12_reportByte_45 ⟨by decide, by decide⟩ ?_
      trivial
    · exact absurd c51 (by omega)
  · refine q_ild_n cx dX12_reportByte_8 rfl (lv_at hl 1 rfl) ?_
    refine q_i2l cx ⟨by omega, by omega⟩ dX12_reportByte_9 ?_
    refine q_lconst (z := 0) cx (by decide) dX12_reportByte_10 ?_
    refine q_ald_n cx dX12_reportByte_11 rfl (lv_at hl 0 rfl) ?_
    obtain ⟨x52, ex52⟩ : ∃ zz, q_is (q_z f mo 39) zz := ⟨_, q_isr _⟩
    refine q_gX12_515 cx hB hmo kmo ex52 dX12_reportByte_12 (fun lb53 ub53 => ?_)
    refine q_iconst cx dX12_reportByte_15 ?_
    refine q_isub cx dX12_reportByte_16 ?_
    refine q_i2l cx ⟨by omega, by omega⟩ dX12_reportByte_17 ?_
    refine q_cSi (As := [.long (q_l a0), .long (q_l 0), .long (q_l (x52 - 1))]) (rest := [.ref mo]) cx hB (fun _ h => h) hN (r_isIn l g hN hB.2.1 a0 (by omega) (by omega) 0 (by decide) (by decide) (x52 - 1) (by omega) (by omega)) q_cX12_93 q_dX12_isIn (by decide) rfl rfl hl.1 rfl (Nat.le_of_ble_eq_true rfl) dX12_reportByte_18 (fun y55 H locs f54 ry55 h56 hF hB => ?_)
    rcases h56 with h57 | h58
    · obtain ⟨rfl, qy55, t59, t60⟩ := h57
      subst qy55
      refine q_ifeq (tgt := 28) cx ⟨by decide, by decide⟩ dX12_reportByte_21 (by decide) (fun c61 => ?_) (fun c61 => ?_)
      · exact absurd c61 (by omega)
      · refine q_iconst cx dX12_reportByte_24 ?_
        refine lv_goto (tgt := 29) cx.1 cx.2.1 dX12_reportByte_25 (by decide) ?_
        refine q_cVi (As := [.int (q_i 1)]) (rest := []) cx hB (fun _ h => h) hN hmo kmo (by decide) rfl (r_goes1 l g hN hB.2.1 mo hmo kmo 1 (by decide) (by decide)) q_cX12_85 q_dX12_goes (by decide) rfl rfl hl.1 rfl (Nat.le_of_ble_eq_true rfl) dX12_reportByte_29 (fun y63 H locs f62 ry63 h64 hF hB => ?_)
        obtain ⟨qy63, z65⟩ := h64
        have z66 : q_is (q_z f62 mo 40) x42 := Eq.trans (hF.z hmo (by rw [kmo]; rfl)) ex42
        have z67 : q_is (q_z f62 mo 39) x52 := Eq.trans (hF.z hmo (by rw [kmo]; rfl)) ex52
        have z68 : q_ir (q_r f62 mo 38) rp := Eq.trans (hF.r hmo (by rw [kmo]; rfl)) hr0
        subst qy63
        refine q_ifeq (tgt := 44) cx ⟨by decide, by decide⟩ dX12_reportByte_32 (by decide) (fun c69 => ?_) (fun c69 => ?_)
        · exact absurd c69 (by omega)
        · refine q_ald_n cx dX12_reportByte_35 rfl (lv_at hl 0 rfl) ?_
          refine q_gX12_69 cx hB hmo kmo z68 dX12_reportByte_36 (fun hb70 kb70 => ?_)
          refine q_ild_n cx dX12_reportByte_39 rfl (lv_at hl 1 rfl) ?_
          obtain ⟨x71, ex71⟩ : ∃ zz, q_is (q_z f62 rp (Int.toNat a0)) zz := ⟨_, q_isr _⟩
          refine q_iald (lo := (-2147483648)) (hi := 2147483647) (n := 480) cx hB hrp krp (by decide) rfl rfl (by omega) (by omega) (by decide) rfl ex71 dX12_reportByte_40 (fun lb72 ub72 => ?_)
          refine lv_goto (tgt := 45) cx.1 cx.2.1 dX12_reportByte_41 (by decide) ?_
          refine q_iret cx hr hlk hB dX12_reportByte_45 ⟨by omega, by omega⟩ ?_
          trivial
    · obtain ⟨rfl, qy55, t73⟩ := h58
      subst qy55
      refine q_ifeq (tgt := 28) cx ⟨by decide, by decide⟩ dX12_reportByte_21 (by decide) (fun c74 => ?_) (fun c74 => ?_)
      · refine q_iconst cx dX12_reportByte_28 ?_
        refine q_cVi (As := [.int (q_i 0)]) (rest := []) cx hB (fun _ h => h) hN hmo kmo (by decide) rfl (r_goes0 l g hN hB.2.1 mo hmo kmo 0 (by decide) (by decide)) q_cX12_85 q_dX12_goes (by decide) rfl rfl hl.1 rfl (Nat.le_of_ble_eq_true rfl) dX12_reportByte_29 (fun y76 H locs f75 ry76 h77 hF hB => ?_)
        obtain ⟨qy76, z78⟩ := h77
        have z79 : q_is (q_z f75 mo 40) x42 := Eq.trans (hF.z hmo (by rw [kmo]; rfl)) ex42
        have z80 : q_is (q_z f75 mo 39) x52 := Eq.trans (hF.z hmo (by rw [kmo]; rfl)) ex52
        have z81 : q_ir (q_r f75 mo 38) rp := Eq.trans (hF.r hmo (by rw [kmo]; rfl)) hr0
        subst qy76
        refine q_ifeq (tgt := 44) cx ⟨by decide, by decide⟩ dX12_reportByte_32 (by decide) (fun c82 => ?_) (fun c82 => ?_)
        · refine q_iconst cx dX12_reportByte_44 ?_
          refine q_iret cx hr hlk hB dX12_reportByte_45 ⟨by decide, by decide⟩ ?_
          trivial
        · exact absurd c82 (by omega)
      · exact absurd c74 (by omega)
