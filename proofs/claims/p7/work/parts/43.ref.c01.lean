set_option maxHeartbeats 4000000 in
set_option maxRecDepth 100000 in
theorem r_laysHops (l : Launch) (g : q_G) {K : Nat → Nat} {L : List Nat} (hN : L.Nodup) {f : Nat → va_E} (hT : q_Ty g K L f) (mo : Nat) (hmo : mo ∈ L) (kmo : K mo = 12) (a0 : Int) (la0 : 0 ≤ a0) (ua0 : a0 ≤ 9) (sr : Nat) (hsr : sr ∈ L) (ksr : K sr = 151) (hp : Nat) (hhp : hp ∈ L) (khp : K hp = 159) (hr0 : q_ir (q_r f mo 13) sr) (hr1 : q_ir (q_r f mo 24) hp) (hgr : q_gr f sr) : q_Ct l g K L yX12_laysHops cX12_laysHops 3 none 4 88 [.ref mo, .int (q_i a0)] f [(159, 0, 9)] (q_Pv (fun (f1 : Nat → va_E) => True)) := by
  refine q_ofb (by decide +kernel) hN hT (Nat.le_of_ble_eq_true rfl) ?_
  intro p e s m below meth c ls cx hr hlk hB hl
  have hl : lv_has ls 3 [(0, .ref mo), (1, .int (q_i a0))] := hl
  have J40 : ∀ (n : Nat) (f40 : Nat → va_E) (v40_2 : Int) (lv40_2 : 0 ≤ v40_2) (uv40_2 : v40_2 ≤ 1) (hq_mo_13 : q_ir (q_r f40 mo 13) sr) (hq_mo_24 : q_ir (q_r f40 mo 24) hp) (hgr40 : q_gr f40 sr) (hnn : 0 ≤ q_hs f40 hp) (hmu : (2 * Int.toNat (q_hs f40 hp) + Int.toNat v40_2) < n) (H : Heap) (locs : List Loc) (hB : q_B g K L (fun q => q ∈ L) [(159, 0, 9)] f f40 s H locs) (ls : Array Slot) (hl : lv_has ls 3 [(0, .ref mo), (2, .int (q_i v40_2))]), W p l e { frames := 4, cells := 0, slots := 0, locals := 88 } s m ([.ref mo, .int (q_i a0)] : List Value).toArray below meth c H locs 0 0 (MQ below (q_Q g K L [(159, 0, 9)] f (q_Pv (fun (f1 : Nat → va_E) => True))) ([.ref mo, .int (q_i a0)] : List Value).toArray s 0 0 (fun q => q ∈ L)) (F0 m 40 ls []) := by
    intro n
    induction n with
    | zero =>
      intro f40 v40_2 lv40_2 uv40_2 hq_mo_13 hq_mo_24 hgr40 hnn hmu
      exact absurd hmu (Nat.not_lt_zero _)
    | succ n ih40 =>
      intro f40 v40_2 lv40_2 uv40_2 hq_mo_13 hq_mo_24 hgr40 hnn hmu H locs hB ls hl
      refine q_ild_n cx dX12_laysHops_40 rfl (lv_at hl 1 rfl) ?_
      refine q_ifeq (tgt := 52) cx ⟨by omega, by omega⟩ dX12_laysHops_41 (by decide) (fun c99 => ?_) (fun c99 => ?_)
      · refine q_vret cx hr hlk hB dX12_laysHops_52 ?_
        trivial
      · refine q_ald_n cx dX12_laysHops_44 rfl (lv_at hl 0 rfl) ?_
        refine q_cVi (As := []) (rest := []) cx hB (fun _ h => h) hN hmo kmo (by decide) rfl (r_lowersHops l g hN hB.2.1 mo hmo kmo sr hsr ksr hp hhp khp hq_mo_13 hq_mo_24 hgr40) q_cX12_277 q_dX12_lowersHops (by decide) rfl rfl hl.1 rfl (Nat.le_of_ble_eq_true rfl) dX12_laysHops_45 (fun y101 H locs f100 ry101 h102 hF hB => ?_)
        obtain ⟨ly101, uy101, t103, t104⟩ := h102
        have z105 : q_ir (q_r f100 mo 13) sr := Eq.trans (hF.r hmo (by rw [kmo]; rfl)) hq_mo_13
        have z106 : q_ir (q_r f100 mo 24) hp := Eq.trans (hF.r hmo (by rw [kmo]; rfl)) hq_mo_24
        have g107 : q_gr f100 sr := q_gr_fr hgr40 (fun i9 _ => hF.z hsr (by rw [ksr]; rfl))
        refine lv_istore_n (lv' := [(2, .int (q_i y101)), (0, .ref mo)]) cx.1 cx.2.1 dX12_laysHops_48 rfl hl (by decide) rfl (fun ls hl => ?_)
        refine lv_goto (tgt := 40) cx.1 cx.2.1 dX12_laysHops_49 (by decide) ?_
        exact ih40 f100 y101 (by omega) (by omega) z105 z106 g107 (q_hs_nn hB.2.1 hhp khp) (by omega) H locs hB ls (lv_sub hl [1, 0] rfl)
  have J2 : ∀ (n : Nat) (f2 : Nat → va_E) (v2_2 : Int) (lv2_2 : 0 ≤ v2_2) (uv2_2 : v2_2 ≤ 10) (hq_mo_13 : q_ir (q_r f2 mo 13) sr) (hq_mo_24 : q_ir (q_r f2 mo 24) hp) (hgr2 : q_gr f2 sr) (hmu : (Int.toNat (2147483647 - v2_2)) < n) (H : Heap) (locs : List Loc) (hB : q_B g K L (fun q => q ∈ L) [(159, 0, 9)] f f2 s H locs) (ls : Array Slot) (hl : lv_has ls 3 [(0, .ref mo), (1, .int (q_i a0)), (2, .int (q_i v2_2))]), W p l e { frames := 4, cells := 0, slots := 0, locals := 88 } s m ([.ref mo, .int (q_i a0)] : List Value).toArray below meth c H locs 0 0 (MQ below (q_Q g K L [(159, 0, 9)] f (q_Pv (fun (f1 : Nat → va_E) => True))) ([.ref mo, .int (q_i a0)] : List Value).toArray s 0 0 (fun q => q ∈ L)) (F0 m 2 ls []) := by
    intro n
    induction n with
    | zero =>
      intro f2 v2_2 lv2_2 uv2_2 hq_mo_13 hq_mo_24 hgr2 hmu
      exact absurd hmu (Nat.not_lt_zero _)
    | succ n ih2 =>
      intro f2 v2_2 lv2_2 uv2_2 hq_mo_13 hq_mo_24 hgr2 hmu H locs hB ls hl
      refine q_ild_n cx dX12_laysHops_2 rfl (lv_at hl 2 rfl) ?_
      refine q_bipush cx dX12_laysHops_3 rfl ?_
      refine q_icge (tgt := 23) cx ⟨by omega, by omega⟩ ⟨by decide, by decide⟩ dX12_laysHops_5 (by decide) (fun c108 => ?_) (fun c108 => ?_)
      · refine q_ald_n cx dX12_laysHops_23 rfl (lv_at hl 0 rfl) ?_
        refine q_ild_n cx dX12_laysHops_24 rfl (lv_at hl 1 rfl) ?_
        refine q_cVi (As := [.int (q_i a0)]) (rest := []) cx hB (fun _ h => h) hN hmo kmo (by decide) rfl (r_isOut l g hN hB.2.1 mo hmo kmo a0 (by omega) (by omega) sr hsr ksr hq_mo_13 hgr2) q_cX12_271 q_dX12_isOut (by decide) rfl rfl hl.1 rfl (Nat.le_of_ble_eq_true rfl) dX12_laysHops_25 (fun y110 H locs f109 ry110 h111 hF hB => ?_)
        obtain ⟨rfl, ly110, uy110⟩ := h111
        refine q_ifne (tgt := 38) cx ⟨by omega, by omega⟩ dX12_laysHops_28 (by decide) (fun c112 => ?_) (fun c112 => ?_)
        · refine q_iconst cx dX12_laysHops_38 ?_
          refine lv_istore_n (lv' := [(2, .int (q_i 1)), (0, .ref mo), (1, .int (q_i a0))]) cx.1 cx.2.1 dX12_laysHops_39 rfl hl (by decide) rfl (fun ls hl => ?_)
          exact J40 ((2 * Int.toNat (q_hs f2 hp) + Int.toNat 1) + 1) f2 1 (by decide) (by decide) hq_mo_13 hq_mo_24 hgr2 (q_hs_nn hB.2.1 hhp khp) (Nat.lt_succ_self _) H locs hB ls (lv_sub hl [1, 0] rfl)
        · refine q_ald_n cx dX12_laysHops_31 rfl (lv_at hl 0 rfl) ?_
          refine q_gX12_45 cx hB hmo kmo hq_mo_24 dX12_laysHops_32 (fun hb113 kb113 => ?_)
          refine q_ild_n cx dX12_laysHops_35 rfl (lv_at hl 1 rfl) ?_
          refine q_iconst cx dX12_laysHops_36 ?_
          refine q_iast (lo := 0) (hi := 1000) (n := 10) cx hB hhp khp (by decide) rfl rfl (by omega) (by omega) (by decide) rfl ⟨by decide, by decide⟩ (by decide) (by decide) (q_inWi (lo := 0) (hi := 9) (by decide) (by omega) (by omega)) dX12_laysHops_37 (fun H locs f114 ef114 z115 hB => ?_)
          have z116 : q_ir (q_r f114 mo 13) sr := by rw [ef114, q_setr (Or.inl (fun q => by rw [q, khp] at kmo; exact absurd kmo (by decide)))]; exact hq_mo_13
          have z117 : q_ir (q_r f114 mo 24) hp := by rw [ef114, q_setr (Or.inl (fun q => by rw [q, khp] at kmo; exact absurd kmo (by decide)))]; exact hq_mo_24
          have g118 : q_gr f114 sr := q_gr_ne hgr2 ef114 (fun q => q_kne (k := 151) (k2 := 159) (by decide) ksr khp q)
          refine q_iconst cx dX12_laysHops_38 ?_
          refine lv_istore_n (lv' := [(2, .int (q_i 1)), (0, .ref mo), (1, .int (q_i a0))]) cx.1 cx.2.1 dX12_laysHops_39 rfl hl (by decide) rfl (fun ls hl => ?_)
          exact J40 ((2 * Int.toNat (q_hs f114 hp) + Int.toNat 1) + 1) f114 1 (by decide) (by decide) z116 z117 g118 (q_hs_nn hB.2.1 hhp khp) (Nat.lt_succ_self _) H locs hB ls (lv_sub hl [1, 0] rfl)
      · refine q_ald_n cx dX12_laysHops_8 rfl (lv_at hl 0 rfl) ?_
        refine q_gX12_45 cx hB hmo kmo hq_mo_24 dX12_laysHops_9 (fun hb119 kb119 => ?_)
        refine q_ild_n cx dX12_laysHops_12 rfl (lv_at hl 2 rfl) ?_
        refine q_sipush cx dX12_laysHops_13 rfl ?_
        refine q_iast (lo := 0) (hi := 1000) (n := 10) cx hB hhp khp (by decide) rfl rfl (by omega) (by omega) (by decide) rfl ⟨by decide, by decide⟩ (by decide) (by decide) (q_inWi (lo := 0) (hi := 9) (by decide) (by omega) (by omega)) dX12_laysHops_16 (fun H locs f120 ef120 z121 hB => ?_)
        have z122 : q_ir (q_r f120 mo 13) sr := by rw [ef120, q_setr (Or.inl (fun q => by rw [q, khp] at kmo; exact absurd kmo (by decide)))]; exact hq_mo_13
        have z123 : q_ir (q_r f120 mo 24) hp := by rw [ef120, q_setr (Or.inl (fun q => by rw [q, khp] at kmo; exact absurd kmo (by decide)))]; exact hq_mo_24
        have g124 : q_gr f120 sr := q_gr_ne hgr2 ef120 (fun q => q_kne (k := 151) (k2 := 159) (by decide) ksr khp q)
        refine q_iinc (lv' := [(2, .int (q_i (v2_2 + 1))), (0, .ref mo), (1, .int (q_i a0))]) cx dX12_laysHops_17 hl (k := 2) rfl (by decide) rfl (fun ls hl => ?_)
        refine lv_goto (tgt := 2) cx.1 cx.2.1 dX12_laysHops_20 (by decide) ?_
        exact ih2 f120 (v2_2 + 1) (by omega) (by omega) z122 z123 g124 (by omega) H locs hB ls (lv_sub hl [1, 2, 0] rfl)
  obtain ⟨H, hH⟩ : ∃ H : Heap, H = s.heap := ⟨_, rfl⟩
  obtain ⟨locs, hlocs⟩ : ∃ z : List Loc, z = [] := ⟨_, rfl⟩
  rw [← hH, ← hlocs] at hB
  rw [← hH, ← hlocs]
  refine q_iconst cx dX12_laysHops_0 ?_
  refine lv_istore_n (lv' := [(2, .int (q_i 0)), (0, .ref mo), (1, .int (q_i a0))]) cx.1 cx.2.1 dX12_laysHops_1 rfl hl (by decide) rfl (fun ls hl => ?_)
  exact J2 ((Int.toNat (2147483647 - 0)) + 1) f 0 (by decide) (by decide) hr0 hr1 hgr (Nat.lt_succ_self _) H locs hB ls (lv_sub hl [1, 2, 0] rfl)
set_option maxHeartbeats 4000000 in
set_option maxRecDepth 100000 in
theorem r_hopsBetween (l : Launch) (g : q_G) {K : Nat → Nat} {L : List Nat} (hN : L.Nodup) {f : Nat → va_E} (hT : q_Ty g K L f) (mo : Nat) (hmo : mo ∈ L) (kmo : K mo = 12) (a0 : Int) (la0 : 0 ≤ a0) (ua0 : a0 ≤ 9) (b0 : Int) (lb0 : 0 ≤ b0) (ub0 : b0 ≤ 9) (sr : Nat) (hsr : sr ∈ L) (ksr : K sr = 151) (hp : Nat) (hhp : hp ∈ L) (khp : K hp = 159) (hr0 : q_ir (q_r f mo 13) sr) (hr1 : q_ir (q_r f mo 24) hp) (hgr : q_gr f sr) : q_Ct l g K L yX12_hopsBetween cX12_hopsBetween 3 (some .int) 5 110 [.ref mo, .int (q_i a0), .int (q_i b0)] f [(159, 0, 9)] (q_Pi (fun (z : Int) (f1 : Nat → va_E) => (-1) ≤ z ∧ z ≤ 999)) := by
  refine q_ofb (by decide +kernel) hN hT (Nat.le_of_ble_eq_true rfl) ?_
  intro p e s m below meth c ls cx hr hlk hB hl
  have hl : lv_has ls 3 [(0, .ref mo), (1, .int (q_i a0)), (2, .int (q_i b0))] := hl
  obtain ⟨H, hH⟩ : ∃ H : Heap, H = s.heap := ⟨_, rfl⟩
  obtain ⟨locs, hlocs⟩ : ∃ z : List Loc, z = [] := ⟨_, rfl⟩
  rw [← hH, ← hlocs] at hB
  rw [← hH, ← hlocs]
  refine q_ald_n cx dX12_hopsBetween_0 rfl (lv_at hl 0 rfl) ?_
  refine q_ild_n cx dX12_hopsBetween_1 rfl (lv_at hl 2 rfl) ?_
  refine q_cVv (As := [.int (q_i b0)]) (rest := []) cx hB (fun _ h => h) hN hmo kmo (by decide) rfl (r_laysHops l g hN hB.2.1 mo hmo kmo b0 (by omega) (by omega) sr hsr ksr hp hhp khp hr0 hr1 hgr) q_cX12_280 q_dX12_laysHops (by decide) rfl rfl hl.1 rfl (Nat.le_of_ble_eq_true rfl) dX12_hopsBetween_2 (fun H locs f14 h16 hF hB => ?_)
  have z17 : q_ir (q_r f14 mo 13) sr := Eq.trans (hF.r hmo (by rw [kmo]; rfl)) hr0
  have z18 : q_ir (q_r f14 mo 24) hp := Eq.trans (hF.r hmo (by rw [kmo]; rfl)) hr1
  have g19 : q_gr f14 sr := q_gr_fr hgr (fun i9 _ => hF.z hsr (by rw [ksr]; rfl))
  refine q_ald_n cx dX12_hopsBetween_5 rfl (lv_at hl 0 rfl) ?_
  refine q_gX12_45 cx hB hmo kmo z18 dX12_hopsBetween_6 (fun hb20 kb20 => ?_)
  refine q_ild_n cx dX12_hopsBetween_9 rfl (lv_at hl 1 rfl) ?_
  obtain ⟨x21, ex21⟩ : ∃ zz, q_is (q_z f14 hp (Int.toNat a0)) zz := ⟨_, q_isr _⟩
  refine q_iald (lo := 0) (hi := 1000) (n := 10) cx hB hhp khp (by decide) rfl rfl (by omega) (by omega) (by decide) rfl ex21 dX12_hopsBetween_10 (fun lb22 ub22 => ?_)
  refine q_sipush cx dX12_hopsBetween_11 rfl ?_
  refine q_icge (tgt := 26) cx ⟨by omega, by omega⟩ ⟨by decide, by decide⟩ dX12_hopsBetween_14 (by decide) (fun c23 => ?_) (fun c23 => ?_)
  · refine q_iconst cx dX12_hopsBetween_26 ?_
    refine q_iret cx hr hlk hB dX12_hopsBetween_27 ⟨by decide, by decide⟩ ?_
    exact ⟨(by decide), (by decide)⟩
  · refine q_ald_n cx dX12_hopsBetween_17 rfl (lv_at hl 0 rfl) ?_
    refine q_gX12_45 cx hB hmo kmo z18 dX12_hopsBetween_18 (fun hb24 kb24 => ?_)
    refine q_ild_n cx dX12_hopsBetween_21 rfl (lv_at hl 1 rfl) ?_
    refine q_iald (lo := 0) (hi := 1000) (n := 10) cx hB hhp khp (by decide) rfl rfl (by omega) (by omega) (by decide) rfl ex21 dX12_hopsBetween_22 (fun lb26 ub26 => ?_)
    refine lv_goto (tgt := 27) cx.1 cx.2.1 dX12_hopsBetween_23 (by decide) ?_
    refine q_iret cx hr hlk hB dX12_hopsBetween_27 ⟨by omega, by omega⟩ ?_
    exact ⟨(by omega), (by omega)⟩
set_option maxHeartbeats 4000000 in
set_option maxRecDepth 100000 in
theorem r_nextOf (l : Launch) (g : q_G) {K : Nat → Nat} {L : List Nat} (hN : L.Nodup) {f : Nat → va_E} (hT : q_Ty g K L f) (mo : Nat) (hmo : mo ∈ L) (kmo : K mo = 12) (a0 : Int) (la0 : 0 ≤ a0) (ua0 : a0 ≤ 9) (b0 : Int) (lb0 : 0 ≤ b0) (ub0 : b0 ≤ 9) (sr : Nat) (hsr : sr ∈ L) (ksr : K sr = 151) (hp : Nat) (hhp : hp ∈ L) (khp : K hp = 159) (hr0 : q_ir (q_r f mo 13) sr) (hr1 : q_ir (q_r f mo 24) hp) (hgr : q_gr f sr) : q_Ct l g K L yX12_nextOf cX12_nextOf 6 (some .int) 5 110 [.ref mo, .int (q_i a0), .int (q_i b0)] f [(159, 0, 9)] (q_Pi (fun (z : Int) (f1 : Nat → va_E) => (-1) ≤ z ∧ z ≤ 9)) := by
  refine q_ofb (by decide +kernel) hN hT (Nat.le_of_ble_eq_true rfl) ?_
  intro p e s m below meth c ls cx hr hlk hB hl
  have hl : lv_has ls 6 [(0, .ref mo), (1, .int (q_i a0)), (2, .int (q_i b0))] := hl
  have J32 : ∀ (n : Nat) (f32 : Nat → va_E) (v32_3 : Int) (lv32_3 : (-2147483648) ≤ v32_3) (uv32_3 : v32_3 ≤ 2147483647) (v32_4 : Int) (lv32_4 : (-1) ≤ v32_4) (uv32_4 : v32_4 ≤ 9) (v32_5 : Int) (lv32_5 : 0 ≤ v32_5) (uv32_5 : v32_5 ≤ 10) (hq_mo_13 : q_ir (q_r f32 mo 13) sr) (hq_mo_24 : q_ir (q_r f32 mo 24) hp) (hgr32 : q_gr f32 sr) (hmu : (Int.toNat (2147483647 - v32_5)) < n) (H : Heap) (locs : List Loc) (hB : q_B g K L (fun q => q ∈ L) [(159, 0, 9)] f f32 s H locs) (ls : Array Slot) (hl : lv_has ls 6 [(0, .ref mo), (3, .int (q_i v32_3)), (4, .int (q_i v32_4)), (5, .int (q_i v32_5))]), W p l e { frames := 5, cells := 0, slots := 0, locals := 110 } s m ([.ref mo, .int (q_i a0), .int (q_i b0)] : List Value).toArray below meth c H locs 0 0 (MQ below (q_Q g K L [(159, 0, 9)] f (q_Pi (fun (z : Int) (f1 : Nat → va_E) => (-1) ≤ z ∧ z ≤ 9))) ([.ref mo, .int (q_i a0), .int (q_i b0)] : List Value).toArray s 0 0 (fun q => q ∈ L)) (F0 m 32 ls []) := by
    intro n
    induction n with
    | zero =>
      intro f32 v32_3 lv32_3 uv32_3 v32_4 lv32_4 uv32_4 v32_5 lv32_5 uv32_5 hq_mo_13 hq_mo_24 hgr32 hmu
      exact absurd hmu (Nat.not_lt_zero _)
    | succ n ih32 =>
      intro f32 v32_3 lv32_3 uv32_3 v32_4 lv32_4 uv32_4 v32_5 lv32_5 uv32_5 hq_mo_13 hq_mo_24 hgr32 hmu H locs hB ls hl
      refine lv_iload cx.1 cx.2.1 dX12_nextOf_32 (lv_at hl 3 rfl) ?_
      refine q_ald_n cx dX12_nextOf_34 rfl (lv_at hl 0 rfl) ?_
      refine q_gX12_20 cx hB hmo kmo hq_mo_13 dX12_nextOf_35 (fun hb248 kb248 => ?_)
      refine q_iconst cx dX12_nextOf_38 ?_
      obtain ⟨x249, ex249⟩ : ∃ zz, q_is (q_z f32 sr (Int.toNat 0)) zz := ⟨_, q_isr _⟩
      refine q_iald (lo := 0) (hi := 10) (n := 658) cx hB hsr ksr (by decide) rfl rfl (by decide) (by decide) (by decide) rfl ex249 dX12_nextOf_39 (fun lb250 ub250 => ?_)
      refine q_icge (tgt := 110) cx ⟨by omega, by omega⟩ ⟨by omega, by omega⟩ dX12_nextOf_40 (by decide) (fun c251 => ?_) (fun c251 => ?_)
      · refine lv_iload cx.1 cx.2.1 dX12_nextOf_110 (lv_at hl 2 rfl) ?_
        refine q_iret cx hr hlk hB dX12_nextOf_112 ⟨by omega, by omega⟩ ?_
        exact ⟨(by omega), (by omega)⟩
      · refine q_ild_n cx dX12_nextOf_43 rfl (lv_at hl 1 rfl) ?_
        refine lv_iload cx.1 cx.2.1 dX12_nextOf_44 (lv_at hl 3 rfl) ?_
        refine q_cSi (As := [.int (q_i v32_3), .int (q_i v32_5)]) (rest := []) cx hB (fun _ h => h) hN (r_has l g hN hB.2.1 v32_3 (by omega) (by omega) v32_5 (by omega) (by omega)) q_cX12_185 q_dX12_has (by decide) rfl rfl hl.1 rfl (Nat.le_of_ble_eq_true rfl) dX12_nextOf_46 (fun y253 H locs f252 ry253 h254 hF hB => ?_)
        obtain ⟨rfl, ly253, uy253⟩ := h254
        refine q_ifeq (tgt := 104) cx ⟨by omega, by omega⟩ dX12_nextOf_49 (by decide) (fun c255 => ?_) (fun c255 => ?_)
        · refine q_iinc (lv' := [(5, .int (q_i (v32_5 + 1))), (0, .ref mo), (3, .int (q_i v32_3)), (4, .int (q_i v32_4))]) cx dX12_nextOf_104 hl (k := 3) rfl (by decide) rfl (fun ls hl => ?_)
          refine lv_goto (tgt := 32) cx.1 cx.2.1 dX12_nextOf_107 (by decide) ?_
          exact ih32 f32 v32_3 (by omega) (by omega) v32_4 (by omega) (by omega) (v32_5 + 1) (by omega) (by omega) hq_mo_13 hq_mo_24 hgr32 (by omega) H locs hB ls (lv_sub hl [1, 2, 3, 0] rfl)
        · refine q_ald_n cx dX12_nextOf_52 rfl (lv_at hl 0 rfl) ?_
          refine lv_iload cx.1 cx.2.1 dX12_nextOf_53 (lv_at hl 3 rfl) ?_
          refine q_cVi (As := [.int (q_i v32_5)]) (rest := []) cx hB (fun _ h => h) hN hmo kmo (by decide) rfl (r_isOut l g hN hB.2.1 mo hmo kmo v32_5 (by omega) (by omega) sr hsr ksr hq_mo_13 hgr32) q_cX12_271 q_dX12_isOut (by decide) rfl rfl hl.1 rfl (Nat.le_of_ble_eq_true rfl) dX12_nextOf_55 (fun y257 H locs f256 ry257 h258 hF hB => ?_)
          obtain ⟨rfl, ly257, uy257⟩ := h258
          refine q_ifne (tgt := 104) cx ⟨by omega, by omega⟩ dX12_nextOf_58 (by decide) (fun c259 => ?_) (fun c259 => ?_)
          · refine q_iinc (lv' := [(5, .int (q_i (v32_5 + 1))), (0, .ref mo), (3, .int (q_i v32_3)), (4, .int (q_i v32_4))]) cx dX12_nextOf_104 hl (k := 3) rfl (by decide) rfl (fun ls hl => ?_)
            refine lv_goto (tgt := 32) cx.1 cx.2.1 dX12_nextOf_107 (by decide) ?_
            exact ih32 f32 v32_3 (by omega) (by omega) v32_4 (by omega) (by omega) (v32_5 + 1) (by omega) (by omega) hq_mo_13 hq_mo_24 hgr32 (by omega) H locs hB ls (lv_sub hl [1, 2, 3, 0] rfl)
          · refine q_ald_n cx dX12_nextOf_61 rfl (lv_at hl 0 rfl) ?_
            refine q_gX12_45 cx hB hmo kmo hq_mo_24 dX12_nextOf_62 (fun hb260 kb260 => ?_)
            refine lv_iload cx.1 cx.2.1 dX12_nextOf_65 (lv_at hl 3 rfl) ?_
            obtain ⟨x261, ex261⟩ : ∃ zz, q_is (q_z f32 hp (Int.toNat v32_5)) zz := ⟨_, q_isr _⟩
            refine q_iald (lo := 0) (hi := 1000) (n := 10) cx hB hhp khp (by decide) rfl rfl (by omega) (by omega) (by decide) rfl ex261 dX12_nextOf_67 (fun lb262 ub262 => ?_)
            refine q_sipush cx dX12_nextOf_68 rfl ?_
            refine q_iclt (tgt := 77) cx ⟨by omega, by omega⟩ ⟨by decide, by decide⟩ dX12_nextOf_71 (by decide) (fun c263 => ?_) (fun c263 => ?_)
            · refine lv_iload cx.1 cx.2.1 dX12_nextOf_77 (lv_at hl 2 rfl) ?_
              refine q_iconst cx dX12_nextOf_79 ?_
              refine q_iceq (tgt := 100) cx ⟨by omega, by omega⟩ ⟨by decide, by decide⟩ dX12_nextOf_80 (by decide) (fun c264 => ?_) (fun c264 => ?_)
              · refine lv_iload cx.1 cx.2.1 dX12_nextOf_100 (lv_at hl 3 rfl) ?_
                refine lv_istore (lv' := [(4, .int (q_i v32_5)), (0, .ref mo), (3, .int (q_i v32_3)), (5, .int (q_i v32_5))]) cx.1 cx.2.1 dX12_nextOf_102 hl (by decide) rfl (fun ls hl => ?_)
                refine q_iinc (lv' := [(5, .int (q_i (v32_5 + 1))), (4, .int (q_i v32_5)), (0, .ref mo), (3, .int (q_i v32_3))]) cx dX12_nextOf_104 hl (k := 3) rfl (by decide) rfl (fun ls hl => ?_)
                refine lv_goto (tgt := 32) cx.1 cx.2.1 dX12_nextOf_107 (by decide) ?_
                exact ih32 f32 v32_3 (by omega) (by omega) v32_5 (by omega) (by omega) (v32_5 + 1) (by omega) (by omega) hq_mo_13 hq_mo_24 hgr32 (by omega) H locs hB ls (lv_sub hl [2, 3, 1, 0] rfl)
              · refine q_ald_n cx dX12_nextOf_83 rfl (lv_at hl 0 rfl) ?_
                refine q_gX12_45 cx hB hmo kmo hq_mo_24 dX12_nextOf_84 (fun hb265 kb265 => ?_)
                refine lv_iload cx.1 cx.2.1 dX12_nextOf_87 (lv_at hl 3 rfl) ?_
                refine q_iald (lo := 0) (hi := 1000) (n := 10) cx hB hhp khp (by decide) rfl rfl (by omega) (by omega) (by decide) rfl ex261 dX12_nextOf_89 (fun lb267 ub267 => ?_)
                refine q_ald_n cx dX12_nextOf_90 rfl (lv_at hl 0 rfl) ?_
                refine q_gX12_45 cx hB hmo kmo hq_mo_24 dX12_nextOf_91 (fun hb268 kb268 => ?_)
                refine lv_iload cx.1 cx.2.1 dX12_nextOf_94 (lv_at hl 2 rfl) ?_
                obtain ⟨x269, ex269⟩ : ∃ zz, q_is (q_z f32 hp (Int.toNat v32_4)) zz := ⟨_, q_isr _⟩
                refine q_iald (lo := 0) (hi := 1000) (n := 10) cx hB hhp khp (by decide) rfl rfl (by omega) (by omega) (by decide) rfl ex269 dX12_nextOf_96 (fun lb270 ub270 => ?_)
                refine q_icge (tgt := 104) cx ⟨by omega, by omega⟩ ⟨by omega, by omega⟩ dX12_nextOf_97 (by decide) (fun c271 => ?_) (fun c271 => ?_)
                · refine q_iinc (lv' := [(5, .int (q_i (v32_5 + 1))), (0, .ref mo), (3, .int (q_i v32_3)), (4, .int (q_i v32_4))]) cx dX12_nextOf_104 hl (k := 3) rfl (by decide) rfl (fun ls hl => ?_)
                  refine lv_goto (tgt := 32) cx.1 cx.2.1 dX12_nextOf_107 (by decide) ?_
                  exact ih32 f32 v32_3 (by omega) (by omega) v32_4 (by omega) (by omega) (v32_5 + 1) (by omega) (by omega) hq_mo_13 hq_mo_24 hgr32 (by omega) H locs hB ls (lv_sub hl [1, 2, 3, 0] rfl)
                · refine lv_iload cx.1 cx.2.1 dX12_nextOf_100 (lv_at hl 3 rfl) ?_
                  refine lv_istore (lv' := [(4, .int (q_i v32_5)), (0, .ref mo), (3, .int (q_i v32_3)), (5, .int (q_i v32_5))]) cx.1 cx.2.1 dX12_nextOf_102 hl (by decide) rfl (fun ls hl => ?_)
                  refine q_iinc (lv' := [(5, .int (q_i (v32_5 + 1))), (4, .int (q_i v32_5)), (0, .ref mo), (3, .int (q_i v32_3))]) cx dX12_nextOf_104 hl (k := 3) rfl (by decide) rfl (fun ls hl => ?_)
                  refine lv_goto (tgt := 32) cx.1 cx.2.1 dX12_nextOf_107 (by decide) ?_
                  exact ih32 f32 v32_3 (by omega) (by omega) v32_5 (by omega) (by omega) (v32_5 + 1) (by omega) (by omega) hq_mo_13 hq_mo_24 hgr32 (by omega) H locs hB ls (lv_sub hl [2, 3, 1, 0] rfl)
            · refine lv_goto (tgt := 104) cx.1 cx.2.1 dX12_nextOf_74 (by decide) ?_
              refine q_iinc (lv' := [(5, .int (q_i (v32_5 + 1))), (0, .ref mo), (3, .int (q_i v32_3)), (4, .int (q_i v32_4))]) cx dX12_nextOf_104 hl (k := 3) rfl (by decide) rfl (fun ls hl => ?_)
              refine lv_goto (tgt := 32) cx.1 cx.2.1 dX12_nextOf_107 (by decide) ?_
              exact ih32 f32 v32_3 (by omega) (by omega) v32_4 (by omega) (by omega) (v32_5 + 1) (by omega) (by omega) hq_mo_13 hq_mo_24 hgr32 (by omega) H locs hB ls (lv_sub hl [1, 2, 3, 0] rfl)
  obtain ⟨H, hH⟩ : ∃ H : Heap, H = s.heap := ⟨_, rfl⟩
  obtain ⟨locs, hlocs⟩ : ∃ z : List Loc, z = [] := ⟨_, rfl⟩
  rw [← hH, ← hlocs] at hB
  rw [← hH, ← hlocs]
  refine q_ild_n cx dX12_nextOf_0 rfl (lv_at hl 1 rfl) ?_
  refine q_ild_n cx dX12_nextOf_1 rfl (lv_at hl 2 rfl) ?_
  refine q_iceq (tgt := 13) cx ⟨by omega, by omega⟩ ⟨by omega, by omega⟩ dX12_nextOf_2 (by decide) (fun c272 => ?_) (fun c272 => ?_)
  · refine q_iconst cx dX12_nextOf_13 ?_
    refine q_iret cx hr hlk hB dX12_nextOf_14 ⟨by decide, by decide⟩ ?_
    exact ⟨(by decide), (by decide)⟩
  · refine q_ald_n cx dX12_nextOf_5 rfl (lv_at hl 0 rfl) ?_
    refine q_ild_n cx dX12_nextOf_6 rfl (lv_at hl 1 rfl) ?_
    refine q_cVi (As := [.int (q_i a0)]) (rest := []) cx hB (fun _ h => h) hN hmo kmo (by decide) rfl (r_isOut l g hN hB.2.1 mo hmo kmo a0 (by omega) (by omega) sr hsr ksr hr0 hgr) q_cX12_271 q_dX12_isOut (by decide) rfl rfl hl.1 rfl (Nat.le_of_ble_eq_true rfl) dX12_nextOf_7 (fun y274 H locs f273 ry274 h275 hF hB => ?_)
    obtain ⟨rfl, ly274, uy274⟩ := h275
    refine q_ifeq (tgt := 15) cx ⟨by omega, by omega⟩ dX12_nextOf_10 (by decide) (fun c276 => ?_) (fun c276 => ?_)
    · refine q_ald_n cx dX12_nextOf_15 rfl (lv_at hl 0 rfl) ?_
      refine q_ild_n cx dX12_nextOf_16 rfl (lv_at hl 2 rfl) ?_
      refine q_cVv (As := [.int (q_i b0)]) (rest := []) cx hB (fun _ h => h) hN hmo kmo (by decide) rfl (r_laysHops l g hN hB.2.1 mo hmo kmo b0 (by omega) (by omega) sr hsr ksr hp hhp khp hr0 hr1 hgr) q_cX12_280 q_dX12_laysHops (by decide) rfl rfl hl.1 rfl (Nat.le_of_ble_eq_true rfl) dX12_nextOf_17 (fun H locs f277 h279 hF hB => ?_)
      have z280 : q_ir (q_r f277 mo 13) sr := Eq.trans (hF.r hmo (by rw [kmo]; rfl)) hr0
      have z281 : q_ir (q_r f277 mo 24) hp := Eq.trans (hF.r hmo (by rw [kmo]; rfl)) hr1
      have g282 : q_gr f277 sr := q_gr_fr hgr (fun i9 _ => hF.z hsr (by rw [ksr]; rfl))
      refine q_ald_n cx dX12_nextOf_20 rfl (lv_at hl 0 rfl) ?_
      refine q_ild_n cx dX12_nextOf_21 rfl (lv_at hl 1 rfl) ?_
      refine q_cVi (As := [.int (q_i a0)]) (rest := []) cx hB (fun _ h => h) hN hmo kmo (by decide) rfl (r_neighbours l g hN hB.2.1 mo hmo kmo a0 (by omega) (by omega) sr hsr ksr z280 g282) q_cX12_265 q_dX12_neighbours (by decide) rfl rfl hl.1 rfl (Nat.le_of_ble_eq_true rfl) dX12_nextOf_22 (fun y284 H locs f283 ry284 h285 hF hB => ?_)
      obtain rfl := h285
      refine lv_istore_n (lv' := [(3, .int (q_i y284)), (0, .ref mo), (1, .int (q_i a0)), (2, .int (q_i b0))]) cx.1 cx.2.1 dX12_nextOf_25 rfl hl (by decide) rfl (fun ls hl => ?_)
      refine q_iconst cx dX12_nextOf_26 ?_
      refine lv_istore (lv' := [(4, .int (q_i (-1))), (3, .int (q_i y284)), (0, .ref mo), (1, .int (q_i a0)), (2, .int (q_i b0))]) cx.1 cx.2.1 dX12_nextOf_27 hl (by decide) rfl (fun ls hl => ?_)
      refine q_iconst cx dX12_nextOf_29 ?_
      refine lv_istore (lv' := [(5, .int (q_i 0)), (4, .int (q_i (-1))), (3, .int (q_i y284)), (0, .ref mo), (1, .int (q_i a0)), (2, .int (q_i b0))]) cx.1 cx.2.1 dX12_nextOf_30 hl (by decide) rfl (fun ls hl => ?_)
      exact J32 ((Int.toNat (2147483647 - 0)) + 1) f277 y284 (by omega) (by omega) (-1) (by decide) (by decide) 0 (by decide) (by decide) z280 z281 g282 (Nat.lt_succ_self _) H locs hB ls (lv_sub hl [3, 2, 1, 0] rfl)
    · refine q_iconst cx dX12_nextOf_13 ?_
      refine q_iret cx hr hlk hB dX12_nextOf_14 ⟨by decide, by decide⟩ ?_
      exact ⟨(by decide), (by decide)⟩
set_option maxHeartbeats 4000000 in
set_option maxRecDepth 100000 in
theorem r_uses1 (l : Launch) (g : q_G) {K : Nat → Nat} {L : List Nat} (hN : L.Nodup) {f : Nat → va_E} (hT : q_Ty g K L f) (mo : Nat) (hmo : mo ∈ L) (kmo : K mo = 12) (a0 : Int) (la0 : 0 ≤ a0) (ua0 : a0 ≤ 9) (b0 : Int) (lb0 : 0 ≤ b0) (ub0 : b0 ≤ 198) (sr : Nat) (hsr : sr ∈ L) (ksr : K sr = 151) (hr0 : q_ir (q_r f mo 13) sr) (hp0 : b0 ≤ q_z f sr (Int.toNat (8 * a0 + 12))) (hgr : q_gr f sr) : q_Ct l g K L yX12_uses cX12_uses 3 none 2 44 [.ref mo, .int (q_i a0), .int (q_i b0)] f [(151, 12, 84)] (q_Pv (fun (f1 : Nat → va_E) => (∀ n : Int, 0 ≤ n → n ≤ 9 → q_z f sr (Int.toNat (8 * n + 12)) - b0 ≤ q_z f1 sr (Int.toNat (8 * n + 12))) ∧ q_gr f1 sr)) := by
  refine q_ofb (by decide +kernel) hN hT (Nat.le_of_ble_eq_true rfl) ?_
  intro p e s m below meth c ls cx hr hlk hB hl
  have hl : lv_has ls 3 [(0, .ref mo), (1, .int (q_i a0)), (2, .int (q_i b0))] := hl
  obtain ⟨H, hH⟩ : ∃ H : Heap, H = s.heap := ⟨_, rfl⟩
  obtain ⟨locs, hlocs⟩ : ∃ z : List Loc, z = [] := ⟨_, rfl⟩
  rw [← hH, ← hlocs] at hB
  rw [← hH, ← hlocs]
  refine q_ald_n cx dX12_uses_0 rfl (lv_at hl 0 rfl) ?_
  refine q_ild_n cx dX12_uses_1 rfl (lv_at hl 1 rfl) ?_
  refine q_iconst cx dX12_uses_2 ?_
  refine q_ald_n cx dX12_uses_3 rfl (lv_at hl 0 rfl) ?_
  refine q_ild_n cx dX12_uses_4 rfl (lv_at hl 1 rfl) ?_
  refine q_iconst cx dX12_uses_5 ?_
  refine q_cVi (As := [.int (q_i a0), .int (q_i 2)]) (rest := [.int (q_i 2), .int (q_i a0), .ref mo]) cx hB (fun _ h => h) hN hmo kmo (by decide) rfl (r_ofNode2 l g hN hB.2.1 mo hmo kmo a0 (by omega) (by omega) 2 (by decide) (by decide) sr hsr ksr hr0 hgr) q_cX12_256 q_dX12_ofNode (by decide) rfl rfl hl.1 rfl (Nat.le_of_ble_eq_true rfl) dX12_uses_6 (fun y13 H locs f12 ry13 h14 hF hB => ?_)
  obtain ⟨rfl, ly13, uy13, t15⟩ := h14
  refine q_ild_n cx dX12_uses_9 rfl (lv_at hl 2 rfl) ?_
  have hk9 : b0 ≤ y13 := by omega
  refine q_isub cx dX12_uses_10 ?_
  refine q_cVv (As := [.int (q_i a0), .int (q_i 2), .int (q_i (y13 - b0))]) (rest := []) cx hB (fun _ h => h) hN hmo kmo (by decide) rfl (r_setsNode2 l g hN hB.2.1 mo hmo kmo a0 (by omega) (by omega) 2 (by decide) (by decide) (y13 - b0) (by omega) (by omega) sr hsr ksr hr0 hgr) q_cX12_202 q_dX12_setsNode (by decide) rfl rfl hl.1 rfl (Nat.le_of_ble_eq_true rfl) dX12_uses_11 (fun H locs f16 h18 hF hB => ?_)
  obtain ⟨t19, t20, g21⟩ := h18
  have z22 : q_ir (q_r f16 mo 13) sr := Eq.trans (hF.r hmo (by rw [kmo]; rfl)) hr0
  refine q_vret cx hr hlk hB dX12_uses_14 ?_
  exact ⟨(k_uses t19 rfl t15 t20 (by omega)), g21⟩
set_option maxHeartbeats 4000000 in
set_option maxRecDepth 100000 in
theorem r_uses2 (l : Launch) (g : q_G) {K : Nat → Nat} {L : List Nat} (hN : L.Nodup) {f : Nat → va_E} (hT : q_Ty g K L f) (mo : Nat) (hmo : mo ∈ L) (kmo : K mo = 12) (a0 : Int) (la0 : 0 ≤ a0) (ua0 : a0 ≤ 9) (b0 : Int) (lb0 : 0 ≤ b0) (ub0 : b0 ≤ 198) (sr : Nat) (hsr : sr ∈ L) (ksr : K sr = 151) (hr0 : q_ir (q_r f mo 13) sr) (hp0 : 0 ≤ q_z f sr (Int.toNat (8 * a0 + 12))) (hgr : q_gr f sr) : q_Ct l g K L yX12_uses cX12_uses 3 none 2 44 [.ref mo, .int (q_i a0), .int (q_i b0)] f [(151, 12, 84)] (q_Pv (fun (f1 : Nat → va_E) => q_gr f1 sr)) := by
  refine q_ofb (by decide +kernel) hN hT (Nat.le_of_ble_eq_true rfl) ?_
  intro p e s m below meth c ls cx hr hlk hB hl
  have hl : lv_has ls 3 [(0, .ref mo), (1, .int (q_i a0)), (2, .int (q_i b0))] := hl
  obtain ⟨H, hH⟩ : ∃ H : Heap, H = s.heap := ⟨_, rfl⟩
  obtain ⟨locs, hlocs⟩ : ∃ z : List Loc, z = [] := ⟨_, rfl⟩
  rw [← hH, ← hlocs] at hB
  rw [← hH, ← hlocs]
  refine q_ald_n cx dX12_uses_0 rfl (lv_at hl 0 rfl) ?_
  refine q_ild_n cx dX12_uses_1 rfl (lv_at hl 1 rfl) ?_
  refine q_iconst cx dX12_uses_2 ?_
  refine q_ald_n cx dX12_uses_3 rfl (lv_at hl 0 rfl) ?_
  refine q_ild_n cx dX12_uses_4 rfl (lv_at hl 1 rfl) ?_
  refine q_iconst cx dX12_uses_5 ?_
  refine q_cVi (As := [.int (q_i a0), .int (q_i 2)]) (rest := [.int (q_i 2), .int (q_i a0), .ref mo]) cx hB (fun _ h => h) hN hmo kmo (by decide) rfl (r_ofNode2 l g hN hB.2.1 mo hmo kmo a0 (by omega) (by omega) 2 (by decide) (by decide) sr hsr ksr hr0 hgr) q_cX12_256 q_dX12_ofNode (by decide) rfl rfl hl.1 rfl (Nat.le_of_ble_eq_true rfl) dX12_uses_6 (fun y13 H locs f12 ry13 h14 hF hB => ?_)
  obtain ⟨rfl, ly13, uy13, t15⟩ := h14
  refine q_ild_n cx dX12_uses_9 rfl (lv_at hl 2 rfl) ?_
  have hk9 : 0 ≤ y13 := by omega
  refine q_isub cx dX12_uses_10 ?_
  refine q_cVv (As := [.int (q_i a0), .int (q_i 2), .int (q_i (y13 - b0))]) (rest := []) cx hB (fun _ h => h) hN hmo kmo (by decide) rfl (r_setsNode2 l g hN hB.2.1 mo hmo kmo a0 (by omega) (by omega) 2 (by decide) (by decide) (y13 - b0) (by omega) (by omega) sr hsr ksr hr0 hgr) q_cX12_202 q_dX12_setsNode (by decide) rfl rfl hl.1 rfl (Nat.le_of_ble_eq_true rfl) dX12_uses_11 (fun H locs f16 h18 hF hB => ?_)
  obtain ⟨t19, t20, g21⟩ := h18
  have z22 : q_ir (q_r f16 mo 13) sr := Eq.trans (hF.r hmo (by rw [kmo]; rfl)) hr0
  refine q_vret cx hr hlk hB dX12_uses_14 ?_
  exact g21
set_option maxHeartbeats 4000000 in
set_option maxRecDepth 100000 in
theorem r_uses3 (l : Launch) (g : q_G) {K : Nat → Nat} {L : List Nat} (hN : L.Nodup) {f : Nat → va_E} (hT : q_Ty g K L f) (mo : Nat) (hmo : mo ∈ L) (kmo : K mo = 12) (a0 : Int) (la0 : 0 ≤ a0) (ua0 : a0 ≤ 9) (b0 : Int) (lb0 : (-198) ≤ b0) (ub0 : b0 ≤ 99) (sr : Nat) (hsr : sr ∈ L) (ksr : K sr = 151) (hr0 : q_ir (q_r f mo 13) sr) (hp0 : b0 ≤ q_z f sr (Int.toNat (8 * a0 + 12))) (hp1 : q_z f sr (Int.toNat (8 * a0 + 12)) - b0 ≤ 9999) (hgr : q_gr f sr) : q_Ct l g K L yX12_uses cX12_uses 3 none 2 44 [.ref mo, .int (q_i a0), .int (q_i b0)] f [(151, 12, 84)] (q_Pv (fun (f1 : Nat → va_E) => q_gr f1 sr)) := by
  refine q_ofb (by decide +kernel) hN hT (Nat.le_of_ble_eq_true rfl) ?_
  intro p e s m below meth c ls cx hr hlk hB hl
  have hl : lv_has ls 3 [(0, .ref mo), (1, .int (q_i a0)), (2, .int (q_i b0))] := hl
  obtain ⟨H, hH⟩ : ∃ H : Heap, H = s.heap := ⟨_, rfl⟩
  obtain ⟨locs, hlocs⟩ : ∃ z : List Loc, z = [] := ⟨_, rfl⟩
  rw [← hH, ← hlocs] at hB
  rw [← hH, ← hlocs]
  refine q_ald_n cx dX12_uses_0 rfl (lv_at hl 0 rfl) ?_
  refine q_ild_n cx dX12_uses_1 rfl (lv_at hl 1 rfl) ?_
  refine q_iconst cx dX12_uses_2 ?_
  refine q_ald_n cx dX12_uses_3 rfl (lv_at hl 0 rfl) ?_
  refine q_ild_n cx dX12_uses_4 rfl (lv_at hl 1 rfl) ?_
  refine q_iconst cx dX12_uses_5 ?_
  refine q_cVi (As := [.int (q_i a0), .int (q_i 2)]) (rest := [.int (q_i 2), .int (q_i a0), .ref mo]) cx hB (fun _ h => h) hN hmo kmo (by decide) rfl (r_ofNode2 l g hN hB.2.1 mo hmo kmo a0 (by omega) (by omega) 2 (by decide) (by decide) sr hsr ksr hr0 hgr) q_cX12_256 q_dX12_ofNode (by decide) rfl rfl hl.1 rfl (Nat.le_of_ble_eq_true rfl) dX12_uses_6 (fun y13 H locs f12 ry13 h14 hF hB => ?_)
  obtain ⟨rfl, ly13, uy13, t15⟩ := h14
  refine q_ild_n cx dX12_uses_9 rfl (lv_at hl 2 rfl) ?_
  have hk9 : 0 ≤ y13 - b0 ∧ y13 - b0 ≤ 9999 := by omega
  refine q_isub cx dX12_uses_10 ?_
  refine q_cVv (As := [.int (q_i a0), .int (q_i 2), .int (q_i (y13 - b0))]) (rest := []) cx hB (fun _ h => h) hN hmo kmo (by decide) rfl (r_setsNode2 l g hN hB.2.1 mo hmo kmo a0 (by omega) (by omega) 2 (by decide) (by decide) (y13 - b0) (by omega) (by omega) sr hsr ksr hr0 hgr) q_cX12_202 q_dX12_setsNode (by decide) rfl rfl hl.1 rfl (Nat.le_of_ble_eq_true rfl) dX12_uses_11 (fun H locs f16 h18 hF hB => ?_)
  obtain ⟨t19, t20, g21⟩ := h18
  have z22 : q_ir (q_r f16 mo 13) sr := Eq.trans (hF.r hmo (by rw [kmo]; rfl)) hr0
  refine q_vret cx hr hlk hB dX12_uses_14 ?_
  exact g21
set_option maxHeartbeats 4000000 in
set_option maxRecDepth 100000 in
theorem r_wakes (l : Launch) (g : q_G) {K : Nat → Nat} {L : List Nat} (hN : L.Nodup) {f : Nat → va_E} (hT : q_Ty g K L f) (mo : Nat) (hmo : mo ∈ L) (kmo : K mo = 12) (sr : Nat) (hsr : sr ∈ L) (ksr : K sr = 151) (dy : Nat) (hdy : dy ∈ L) (kdy : K dy = 160) (hr0 : q_ir (q_r f mo 13) sr) (hr1 : q_ir (q_r f mo 25) dy) (hgr : q_gr f sr) : q_Ct l g K L yX12_wakes cX12_wakes 3 none 6 135 [.ref mo] f [(12, 26, 26), (151, 12, 85), (160, 0, 9)] (q_Pv (fun (f1 : Nat → va_E) => q_gr f1 sr)) := by
  refine q_ofb (by decide +kernel) hN hT (Nat.le_of_ble_eq_true rfl) ?_
  intro p e s m below meth c ls cx hr hlk hB hl
  have hl : lv_has ls 3 [(0, .ref mo)] := hl
  have J13 : ∀ (n : Nat) (f13 : Nat → va_E) (v13_1 : Int) (lv13_1 : (-2147483648) ≤ v13_1) (uv13_1 : v13_1 ≤ 2147483647) (v13_2 : Int) (lv13_2 : 0 ≤ v13_2) (uv13_2 : v13_2 ≤ 10) (hq_mo_13 : q_ir (q_r f13 mo 13) sr) (hq_mo_25 : q_ir (q_r f13 mo 25) dy) (hgr13 : q_gr f13 sr) (hmu : (Int.toNat (2147483647 - v13_2)) < n) (H : Heap) (locs : List Loc) (hB : q_B g K L (fun q => q ∈ L) [(12, 26, 26), (151, 12, 85), (160, 0, 9)] f f13 s H locs) (ls : Array Slot) (hl : lv_has ls 3 [(0, .ref mo), (1, .int (q_i v13_1)), (2, .int (q_i v13_2))]), W p l e { frames := 6, cells := 0, slots := 0, locals := 135 } s m ([.ref mo] : List Value).toArray below meth c H locs 0 0 (MQ below (q_Q g K L [(12, 26, 26), (151, 12, 85), (160, 0, 9)] f (q_Pv (fun (f1 : Nat → va_E) => q_gr f1 sr))) ([.ref mo] : List Value).toArray s 0 0 (fun q => q ∈ L)) (F0 m 13 ls []) := by
    intro n
    induction n with
    | zero =>
      intro f13 v13_1 lv13_1 uv13_1 v13_2 lv13_2 uv13_2 hq_mo_13 hq_mo_25 hgr13 hmu
      exact absurd hmu (Nat.not_lt_zero _)
    | succ n ih13 =>
      intro f13 v13_1 lv13_1 uv13_1 v13_2 lv13_2 uv13_2 hq_mo_13 hq_mo_25 hgr13 hmu H locs hB ls hl
      refine q_ild_n cx dX12_wakes_13 rfl (lv_at hl 2 rfl) ?_
      refine q_ald_n cx dX12_wakes_14 rfl (lv_at hl 0 rfl) ?_
      refine q_gX12_20 cx hB hmo kmo hq_mo_13 dX12_wakes_15 (fun hb1049 kb1049 => ?_)
      refine q_iconst cx dX12_wakes_18 ?_
      obtain ⟨x1050, ex1050⟩ : ∃ zz, q_is (q_z f13 sr (Int.toNat 0)) zz := ⟨_, q_isr _⟩
      refine q_iald (lo := 0) (hi := 10) (n := 658) cx hB hsr ksr (by decide) rfl rfl (by decide) (by decide) (by decide) rfl ex1050 dX12_wakes_19 (fun lb1051 ub1051 => ?_)
      refine q_icge (tgt := 108) cx ⟨by omega, by omega⟩ ⟨by omega, by omega⟩ dX12_wakes_20 (by decide) (fun c1052 => ?_) (fun c1052 => ?_)
      · refine q_vret cx hr hlk hB dX12_wakes_108 ?_
        exact hgr13
      · refine q_ald_n cx dX12_wakes_23 rfl (lv_at hl 0 rfl) ?_
        refine q_gX12_48 cx hB hmo kmo hq_mo_25 dX12_wakes_24 (fun hb1053 kb1053 => ?_)
        refine q_ild_n cx dX12_wakes_27 rfl (lv_at hl 2 rfl) ?_
        refine q_ald_n cx dX12_wakes_28 rfl (lv_at hl 0 rfl) ?_
        refine q_ild_n cx dX12_wakes_29 rfl (lv_at hl 2 rfl) ?_
        refine q_cVi (As := [.int (q_i v13_2)]) (rest := [.int (q_i v13_2), .ref dy]) cx hB (fun _ h => h) hN hmo kmo (by decide) rfl (r_dayOf l g hN hB.2.1 mo hmo kmo v13_2 (by omega) (by omega) sr hsr ksr hq_mo_13 hgr13) q_cX12_289 q_dX12_dayOf (by decide) rfl rfl hl.1 rfl (Nat.le_of_ble_eq_true rfl) dX12_wakes_30 (fun y1055 H locs f1054 ry1055 h1056 hF hB => ?_)
        obtain ⟨rfl, ly1055, uy1055⟩ := h1056
        refine q_iast (lo := 0) (hi := 59) (n := 10) cx hB hdy kdy (by decide) rfl rfl (by omega) (by omega) (by decide) rfl ⟨by omega, by omega⟩ (by omega) (by omega) (q_inWi (lo := 0) (hi := 9) (by decide) (by omega) (by omega)) dX12_wakes_33 (fun H locs f1057 ef1057 z1058 hB => ?_)
        have z1059 : q_is (q_z f1057 sr 0) x1050 := by rw [ef1057, q_setz (Or.inl (fun q => by rw [q, kdy] at ksr; exact absurd ksr (by decide)))]; exact ex1050
        have z1060 : q_ir (q_r f1057 mo 13) sr := by rw [ef1057, q_setr (Or.inl (fun q => by rw [q, kdy] at kmo; exact absurd kmo (by decide)))]; exact hq_mo_13
        have z1061 : q_ir (q_r f1057 mo 25) dy := by rw [ef1057, q_setr (Or.inl (fun q => by rw [q, kdy] at kmo; exact absurd kmo (by decide)))]; exact hq_mo_25
        have g1062 : q_gr f1057 sr := q_gr_ne hgr13 ef1057 (fun q => q_kne (k := 151) (k2 := 160) (by decide) ksr kdy q)
        refine q_ild_n cx dX12_wakes_34 rfl (lv_at hl 1 rfl) ?_
        refine q_ild_n cx dX12_wakes_35 rfl (lv_at hl 2 rfl) ?_
        refine q_cSi (As := [.int (q_i v13_1), .int (q_i v13_2)]) (rest := []) cx hB (fun _ h => h) hN (r_has l g hN hB.2.1 v13_1 (by omega) (by omega) v13_2 (by omega) (by omega)) q_cX12_185 q_dX12_has (by decide) rfl rfl hl.1 rfl (Nat.le_of_ble_eq_true rfl) dX12_wakes_36 (fun y1064 H locs f1063 ry1064 h1065 hF hB => ?_)
        obtain ⟨rfl, ly1064, uy1064⟩ := h1065
        refine q_ifne (tgt := 45) cx ⟨by omega, by omega⟩ dX12_wakes_39 (by decide) (fun c1066 => ?_) (fun c1066 => ?_)
        · refine q_ald_n cx dX12_wakes_45 rfl (lv_at hl 0 rfl) ?_
          refine q_ild_n cx dX12_wakes_46 rfl (lv_at hl 2 rfl) ?_
          refine q_ald_n cx dX12_wakes_47 rfl (lv_at hl 0 rfl) ?_
          refine q_gX12_20 cx hB hmo kmo z1060 dX12_wakes_48 (fun hb1067 kb1067 => ?_)
          refine q_iconst cx dX12_wakes_51 ?_
          obtain ⟨x1068, ex1068⟩ : ∃ zz, q_is (q_z f1057 sr (Int.toNat 5)) zz := ⟨_, q_isr _⟩
          refine q_sald cx hB hsr ksr (by decide) (by decide) ex1068 dX12_wakes_52 (fun rx1068 => ?_)
          obtain ⟨lx1068, ux1068⟩ : 0 ≤ x1068 ∧ x1068 ≤ 99 := q_isb ex1068 (q_gr_at g1062 (by decide) rfl)
          refine q_ald_n cx dX12_wakes_53 rfl (lv_at hl 0 rfl) ?_
          refine q_ild_n cx dX12_wakes_54 rfl (lv_at hl 2 rfl) ?_
          refine q_iconst cx dX12_wakes_55 ?_
          refine q_cVi (As := [.int (q_i v13_2), .int (q_i 2)]) (rest := [.int (q_i x1068), .int (q_i v13_2), .ref mo]) cx hB (fun _ h => h) hN hmo kmo (by decide) rfl (r_ofNode2 l g hN hB.2.1 mo hmo kmo v13_2 (by omega) (by omega) 2 (by decide) (by decide) sr hsr ksr z1060 g1062) q_cX12_256 q_dX12_ofNode (by decide) rfl rfl hl.1 rfl (Nat.le_of_ble_eq_true rfl) dX12_wakes_56 (fun y1071 H locs f1070 ry1071 h1072 hF hB => ?_)
          obtain ⟨rfl, ly1071, uy1071, t1073⟩ := h1072
          refine q_cSi (As := [.int (q_i x1068), .int (q_i y1071)]) (rest := [.int (q_i v13_2), .ref mo]) cx hB (fun _ h => h) hN (r_lesser l g hN hB.2.1 x1068 (by omega) (by omega) y1071 (by omega) (by omega)) q_cX12_292 q_dX12_lesser (by decide) rfl rfl hl.1 rfl (Nat.le_of_ble_eq_true rfl) dX12_wakes_59 (fun y1075 H locs f1074 ry1075 h1076 hF hB => ?_)
          rcases h1076 with h1077 | h1078
          · obtain ⟨rfl, qy1075, t1079⟩ := h1077
            refine q_cVv (As := [.int (q_i v13_2), .int (q_i y1075)]) (rest := []) cx hB (fun _ h => h) hN hmo kmo (by decide) rfl (r_uses3 l g hN hB.2.1 mo hmo kmo v13_2 (by omega) (by omega) y1075 (by omega) (by omega) sr hsr ksr z1060 (by omega) (by omega) g1062) q_cX12_295 q_dX12_uses (by decide) rfl rfl hl.1 rfl (Nat.le_of_ble_eq_true rfl) dX12_wakes_62 (fun H locs f1080 h1082 hF hB => ?_)
            have g1083 := h1082
            have z1084 : q_is (q_z f1080 sr 0) x1050 := Eq.trans (hF.z hsr (by rw [ksr]; rfl)) z1059
            have z1085 : q_is (q_z f1080 sr 5) x1068 := Eq.trans (hF.z hsr (by rw [ksr]; rfl)) ex1068
            have z1086 : q_ir (q_r f1080 mo 13) sr := Eq.trans (hF.r hmo (by rw [kmo]; rfl)) z1060
            have z1087 : q_ir (q_r f1080 mo 25) dy := Eq.trans (hF.r hmo (by rw [kmo]; rfl)) z1061
            refine q_ald_n cx dX12_wakes_65 rfl (lv_at hl 0 rfl) ?_
            refine q_ild_n cx dX12_wakes_66 rfl (lv_at hl 2 rfl) ?_
            refine q_cVi (As := [.int (q_i v13_2)]) (rest := []) cx hB (fun _ h => h) hN hmo kmo (by decide) rfl (r_isOut l g hN hB.2.1 mo hmo kmo v13_2 (by omega) (by omega) sr hsr ksr z1086 g1083) q_cX12_271 q_dX12_isOut (by decide) rfl rfl hl.1 rfl (Nat.le_of_ble_eq_true rfl) dX12_wakes_67 (fun y1089 H locs f1088 ry1089 h1090 hF hB => ?_)
            obtain ⟨rfl, ly1089, uy1089⟩ := h1090
            refine q_ifeq (tgt := 76) cx ⟨by omega, by omega⟩ dX12_wakes_70 (by decide) (fun c1091 => ?_) (fun c1091 => ?_)
            · refine q_ald_n cx dX12_wakes_76 rfl (lv_at hl 0 rfl) ?_
              refine lv_dup cx.1 cx.2.1 dX12_wakes_77 rfl ?_
              obtain ⟨x1092, ex1092⟩ : ∃ zz, q_is (q_z f1080 mo 26) zz := ⟨_, q_isr _⟩
              refine q_gX12_283 cx hB hmo kmo ex1092 dX12_wakes_78 (fun lb1093 ub1093 => ?_)
              refine q_iconst cx dX12_wakes_81 ?_
              refine q_ild_n cx dX12_wakes_82 rfl (lv_at hl 2 rfl) ?_
              refine q_ishl cx dX12_wakes_83 (fun y1094 ry1094 ey1094 => ?_)
              refine q_ior cx dX12_wakes_84 (fun y1095 ry1095 ey1095 => ?_)
              refine q_pX12_283 cx hB hmo kmo ⟨by omega, by omega⟩ (by omega) (by omega) rfl dX12_wakes_85 (fun H locs f1096 ef1096 z1097 hB => ?_)
              have z1098 : q_is (q_z f1096 sr 0) x1050 := by rw [ef1096, q_setz (Or.inr (by decide))]; exact z1084
              have z1099 : q_is (q_z f1096 sr 5) x1068 := by rw [ef1096, q_setz (Or.inr (by decide))]; exact z1085
              have z1100 : q_ir (q_r f1096 mo 13) sr := by rw [ef1096, q_setr (Or.inr (by decide))]; exact z1086
              have z1101 : q_ir (q_r f1096 mo 25) dy := by rw [ef1096, q_setr (Or.inr (by decide))]; exact z1087
              have g1102 : q_gr f1096 sr := q_gr_ne g1083 ef1096 (fun q => q_kne (k := 151) (k2 := 12) (by decide) ksr kmo q)
              refine q_ald_n cx dX12_wakes_88 rfl (lv_at hl 0 rfl) ?_
              refine q_ild_n cx dX12_wakes_89 rfl (lv_at hl 2 rfl) ?_
              refine q_iconst cx dX12_wakes_90 ?_
              refine q_ald_n cx dX12_wakes_91 rfl (lv_at hl 0 rfl) ?_
              refine q_ild_n cx dX12_wakes_92 rfl (lv_at hl 2 rfl) ?_
              refine q_iconst cx dX12_wakes_93 ?_
              refine q_cVi (As := [.int (q_i v13_2), .int (q_i 3)]) (rest := [.int (q_i 3), .int (q_i v13_2), .ref mo]) cx hB (fun _ h => h) hN hmo kmo (by decide) rfl (r_ofNode3 l g hN hB.2.1 mo hmo kmo v13_2 (by omega) (by omega) 3 (by decide) (by decide) sr hsr ksr z1100 g1102) q_cX12_256 q_dX12_ofNode (by decide) rfl rfl hl.1 rfl (Nat.le_of_ble_eq_true rfl) dX12_wakes_94 (fun y1104 H locs f1103 ry1104 h1105 hF hB => ?_)
              obtain rfl := h1105
              refine q_iconst cx dX12_wakes_97 ?_
              refine q_iadd cx dX12_wakes_98 ?_
              refine q_any (fun y1106 ry1106 ey1106 => ?_)
              refine q_cVv (As := [.int (q_i v13_2), .int (q_i 3), .int (q_i y1106)]) (rest := []) cx hB (fun _ h => h) hN hmo kmo (by decide) rfl (r_setsNode3 l g hN hB.2.1 mo hmo kmo v13_2 (by omega) (by omega) 3 (by decide) (by decide) y1106 (by omega) (by omega) sr hsr ksr z1100 g1102) q_cX12_202 q_dX12_setsNode (by decide) rfl rfl hl.1 rfl (Nat.le_of_ble_eq_true rfl) dX12_wakes_99 (fun H locs f1107 h1109 hF hB => ?_)
              have g1110 := h1109
              have z1111 : q_is (q_z f1107 sr 0) x1050 := Eq.trans (hF.z hsr (by rw [ksr]; rfl)) z1098
              have z1112 : q_is (q_z f1107 sr 5) x1068 := Eq.trans (hF.z hsr (by rw [ksr]; rfl)) z1099
              have z1113 : q_is (q_z f1107 mo 26) y1095 := Eq.trans (hF.z hmo (by rw [kmo]; rfl)) z1097
              have z1114 : q_ir (q_r f1107 mo 13) sr := Eq.trans (hF.r hmo (by rw [kmo]; rfl)) z1100
              have z1115 : q_ir (q_r f1107 mo 25) dy := Eq.trans (hF.r hmo (by rw [kmo]; rfl)) z1101
              refine q_iinc (lv' := [(2, .int (q_i (v13_2 + 1))), (0, .ref mo), (1, .int (q_i v13_1))]) cx dX12_wakes_102 hl (k := 2) rfl (by decide) rfl (fun ls hl => ?_)
              refine lv_goto (tgt := 13) cx.1 cx.2.1 dX12_wakes_105 (by decide) ?_
              exact ih13 f1107 v13_1 (by omega) (by omega) (v13_2 + 1) (by omega) (by omega) z1114 z1115 g1110 (by omega) H locs hB ls (lv_sub hl [1, 2, 0] rfl)
            · refine lv_goto (tgt := 102) cx.1 cx.2.1 dX12_wakes_73 (by decide) ?_
              refine q_iinc (lv' := [(2, .int (q_i (v13_2 + 1))), (0, .ref mo), (1, .int (q_i v13_1))]) cx dX12_wakes_102 hl (k := 2) rfl (by decide) rfl (fun ls hl => ?_)
              refine lv_goto (tgt := 13) cx.1 cx.2.1 dX12_wakes_105 (by decide) ?_
              exact ih13 f1080 v13_1 (by omega) (by omega) (v13_2 + 1) (by omega) (by omega) z1086 z1087 g1083 (by omega) H locs hB ls (lv_sub hl [1, 2, 0] rfl)
          · obtain ⟨rfl, qy1075, t1116⟩ := h1078
            refine q_cVv (As := [.int (q_i v13_2), .int (q_i y1075)]) (rest := []) cx hB (fun _ h => h) hN hmo kmo (by decide) rfl (r_uses3 l g hN hB.2.1 mo hmo kmo v13_2 (by omega) (by omega) y1075 (by omega) (by omega) sr hsr ksr z1060 (by omega) (by omega) g1062) q_cX12_295 q_dX12_uses (by decide) rfl rfl hl.1 rfl (Nat.le_of_ble_eq_true rfl) dX12_wakes_62 (fun H locs f1117 h1119 hF hB => ?_)
            have g1120 := h1119
            have z1121 : q_is (q_z f1117 sr 0) x1050 := Eq.trans (hF.z hsr (by rw [ksr]; rfl)) z1059
            have z1122 : q_is (q_z f1117 sr 5) x1068 := Eq.trans (hF.z hsr (by rw [ksr]; rfl)) ex1068
            have z1123 : q_ir (q_r f1117 mo 13) sr := Eq.trans (hF.r hmo (by rw [kmo]; rfl)) z1060
            have z1124 : q_ir (q_r f1117 mo 25) dy := Eq.trans (hF.r hmo (by rw [kmo]; rfl)) z1061
            refine q_ald_n cx dX12_wakes_65 rfl (lv_at hl 0 rfl) ?_
            refine q_ild_n cx dX12_wakes_66 rfl (lv_at hl 2 rfl) ?_
            refine q_cVi (As := [.int (q_i v13_2)]) (rest := []) cx hB (fun _ h => h) hN hmo kmo (by decide) rfl (r_isOut l g hN hB.2.1 mo hmo kmo v13_2 (by omega) (by omega) sr hsr ksr z1123 g1120) q_cX12_271 q_dX12_isOut (by decide) rfl rfl hl.1 rfl (Nat.le_of_ble_eq_true rfl) dX12_wakes_67 (fun y1126 H locs f1125 ry1126 h1127 hF hB => ?_)
            obtain ⟨rfl, ly1126, uy1126⟩ := h1127
            refine q_ifeq (tgt := 76) cx ⟨by omega, by omega⟩ dX12_wakes_70 (by decide) (fun c1128 => ?_) (fun c1128 => ?_)
            · refine q_ald_n cx dX12_wakes_76 rfl (lv_at hl 0 rfl) ?_
              refine lv_dup cx.1 cx.2.1 dX12_wakes_77 rfl ?_
              obtain ⟨x1129, ex1129⟩ : ∃ zz, q_is (q_z f1117 mo 26) zz := ⟨_, q_isr _⟩
              refine q_gX12_283 cx hB hmo kmo ex1129 dX12_wakes_78 (fun lb1130 ub1130 => ?_)
              refine q_iconst cx dX12_wakes_81 ?_
              refine q_ild_n cx dX12_wakes_82 rfl (lv_at hl 2 rfl) ?_
              refine q_ishl cx dX12_wakes_83 (fun y1131 ry1131 ey1131 => ?_)
              refine q_ior cx dX12_wakes_84 (fun y1132 ry1132 ey1132 => ?_)
              refine q_pX12_283 cx hB hmo kmo ⟨by omega, by omega⟩ (by omega) (by omega) rfl dX12_wakes_85 (fun H locs f1133 ef1133 z1134 hB => ?_)
              have z1135 : q_is (q_z f1133 sr 0) x1050 := by rw [ef1133, q_setz (Or.inr (by decide))]; exact z1121
              have z1136 : q_is (q_z f1133 sr 5) x1068 := by rw [ef1133, q_setz (Or.inr (by decide))]; exact z1122
              have z1137 : q_ir (q_r f1133 mo 13) sr := by rw [ef1133, q_setr (Or.inr (by decide))]; exact z1123
              have z1138 : q_ir (q_r f1133 mo 25) dy := by rw [ef1133, q_setr (Or.inr (by decide))]; exact z1124
              have g1139 : q_gr f1133 sr := q_gr_ne g1120 ef1133 (fun q => q_kne (k := 151) (k2 := 12) (by decide) ksr kmo q)
              refine q_ald_n cx dX12_wakes_88 rfl (lv_at hl 0 rfl) ?_
              refine q_ild_n cx dX12_wakes_89 rfl (lv_at hl 2 rfl) ?_
              refine q_iconst cx dX12_wakes_90 ?_
              refine q_ald_n cx dX12_wakes_91 rfl (lv_at hl 0 rfl) ?_
              refine q_ild_n cx dX12_wakes_92 rfl (lv_at hl 2 rfl) ?_
              refine q_iconst cx dX12_wakes_93 ?_
              refine q_cVi (As := [.int (q_i v13_2), .int (q_i 3)]) (rest := [.int (q_i 3), .int (q_i v13_2), .ref mo]) cx hB (fun _ h => h) hN hmo kmo (by decide) rfl (r_ofNode3 l g hN hB.2.1 mo hmo kmo v13_2 (by omega) (by omega) 3 (by decide) (by decide) sr hsr ksr z1137 g1139) q_cX12_256 q_dX12_ofNode (by decide) rfl rfl hl.1 rfl (Nat.le_of_ble_eq_true rfl) dX12_wakes_94 (fun y1141 H locs f1140 ry1141 h1142 hF hB => ?_)
              obtain rfl := h1142
              refine q_iconst cx dX12_wakes_97 ?_
              refine q_iadd cx dX12_wakes_98 ?_
              refine q_any (fun y1143 ry1143 ey1143 => ?_)
              refine q_cVv (As := [.int (q_i v13_2), .int (q_i 3), .int (q_i y1143)]) (rest := []) cx hB (fun _ h => h) hN hmo kmo (by decide) rfl (r_setsNode3 l g hN hB.2.1 mo hmo kmo v13_2 (by omega) (by omega) 3 (by decide) (by decide) y1143 (by omega) (by omega) sr hsr ksr z1137 g1139) q_cX12_202 q_dX12_setsNode (by decide) rfl rfl hl.1 rfl (Nat.le_of_ble_eq_true rfl) dX12_wakes_99 (fun H locs f1144 h1146 hF hB => ?_)
              have g1147 := h1146
              have z1148 : q_is (q_z f1144 sr 0) x1050 := Eq.trans (hF.z hsr (by rw [ksr]; rfl)) z1135
              have z1149 : q_is (q_z f1144 sr 5) x1068 := Eq.trans (hF.z hsr (by rw [ksr]; rfl)) z1136
              have z1150 : q_is (q_z f1144 mo 26) y1132 := Eq.trans (hF.z hmo (by rw [kmo]; rfl)) z1134
              have z1151 : q_ir (q_r f1144 mo 13) sr := Eq.trans (hF.r hmo (by rw [kmo]; rfl)) z1137
              have z1152 : q_ir (q_r f1144 mo 25) dy := Eq.trans (hF.r hmo (by rw [kmo]; rfl)) z1138
              refine q_iinc (lv' := [(2, .int (q_i (v13_2 + 1))), (0, .ref mo), (1, .int (q_i v13_1))]) cx dX12_wakes_102 hl (k := 2) rfl (by decide) rfl (fun ls hl => ?_)
              refine lv_goto (tgt := 13) cx.1 cx.2.1 dX12_wakes_105 (by decide) ?_
              exact ih13 f1144 v13_1 (by omega) (by omega) (v13_2 + 1) (by omega) (by omega) z1151 z1152 g1147 (by omega) H locs hB ls (lv_sub hl [1, 2, 0] rfl)
            · refine lv_goto (tgt := 102) cx.1 cx.2.1 dX12_wakes_73 (by decide) ?_
              refine q_iinc (lv' := [(2, .int (q_i (v13_2 + 1))), (0, .ref mo), (1, .int (q_i v13_1))]) cx dX12_wakes_102 hl (k := 2) rfl (by decide) rfl (fun ls hl => ?_)
              refine lv_goto (tgt := 13) cx.1 cx.2.1 dX12_wakes_105 (by decide) ?_
              exact ih13 f1117 v13_1 (by omega) (by omega) (v13_2 + 1) (by omega) (by omega) z1123 z1124 g1120 (by omega) H locs hB ls (lv_sub hl [1, 2, 0] rfl)
        · refine lv_goto (tgt := 102) cx.1 cx.2.1 dX12_wakes_42 (by decide) ?_
          refine q_iinc (lv' := [(2, .int (q_i (v13_2 + 1))), (0, .ref mo), (1, .int (q_i v13_1))]) cx dX12_wakes_102 hl (k := 2) rfl (by decide) rfl (fun ls hl => ?_)
          refine lv_goto (tgt := 13) cx.1 cx.2.1 dX12_wakes_105 (by decide) ?_
          exact ih13 f1057 v13_1 (by omega) (by omega) (v13_2 + 1) (by omega) (by omega) z1060 z1061 g1062 (by omega) H locs hB ls (lv_sub hl [1, 2, 0] rfl)
  obtain ⟨H, hH⟩ : ∃ H : Heap, H = s.heap := ⟨_, rfl⟩
  obtain ⟨locs, hlocs⟩ : ∃ z : List Loc, z = [] := ⟨_, rfl⟩
  rw [← hH, ← hlocs] at hB
  rw [← hH, ← hlocs]
  refine q_ald_n cx dX12_wakes_0 rfl (lv_at hl 0 rfl) ?_
  refine q_iconst cx dX12_wakes_1 ?_
  refine q_pX12_283 cx hB hmo kmo ⟨by decide, by decide⟩ (by decide) (by decide) rfl dX12_wakes_2 (fun H locs f1153 ef1153 z1154 hB => ?_)
  have z1155 : q_ir (q_r f1153 mo 13) sr := by rw [ef1153, q_setr (Or.inr (by decide))]; exact hr0
  have z1156 : q_ir (q_r f1153 mo 25) dy := by rw [ef1153, q_setr (Or.inr (by decide))]; exact hr1
  have g1157 : q_gr f1153 sr := q_gr_ne hgr ef1153 (fun q => q_kne (k := 151) (k2 := 12) (by decide) ksr kmo q)
  refine q_ald_n cx dX12_wakes_5 rfl (lv_at hl 0 rfl) ?_
  refine q_iconst cx dX12_wakes_6 ?_
  refine q_cVi (As := [.int (q_i 0)]) (rest := []) cx hB (fun _ h => h) hN hmo kmo (by decide) rfl (r_awakeSet l g hN hB.2.1 mo hmo kmo 0 (by decide) (by decide) sr hsr ksr z1155 g1157) q_cX12_286 q_dX12_awakeSet (by decide) rfl rfl hl.1 rfl (Nat.le_of_ble_eq_true rfl) dX12_wakes_7 (fun y1159 H locs f1158 ry1159 h1160 hF hB => ?_)
  obtain rfl := h1160
  refine lv_istore_n (lv' := [(1, .int (q_i y1159)), (0, .ref mo)]) cx.1 cx.2.1 dX12_wakes_10 rfl hl (by decide) rfl (fun ls hl => ?_)
  refine q_iconst cx dX12_wakes_11 ?_
  refine lv_istore_n (lv' := [(2, .int (q_i 0)), (1, .int (q_i y1159)), (0, .ref mo)]) cx.1 cx.2.1 dX12_wakes_12 rfl hl (by decide) rfl (fun ls hl => ?_)
  exact J13 ((Int.toNat (2147483647 - 0)) + 1) f1153 y1159 (by omega) (by omega) 0 (by decide) (by decide) z1155 z1156 g1157 (Nat.lt_succ_self _) H locs hB ls (lv_sub hl [2, 1, 0] rfl)
set_option maxHeartbeats 4000000 in
set_option maxRecDepth 100000 in
theorem r_meets (l : Launch) (g : q_G) {K : Nat → Nat} {L : List Nat} (hN : L.Nodup) {f : Nat → va_E} (hT : q_Ty g K L f) (mo : Nat) (hmo : mo ∈ L) (kmo : K mo = 12) (a0 : Int) (la0 : 0 ≤ a0) (ua0 : a0 ≤ 15) (sr : Nat) (hsr : sr ∈ L) (ksr : K sr = 151) (hr0 : q_ir (q_r f mo 13) sr) (hgr : q_gr f sr) : q_Ct l g K L yX12_meets cX12_meets 2 none 1 23 [.ref mo, .int (q_i a0)] f [(151, 92, 168)] (q_Pv (fun (f1 : Nat → va_E) => q_gr f1 sr)) := by
  refine q_ofb (by decide +kernel) hN hT (Nat.le_of_ble_eq_true rfl) ?_
  intro p e s m below meth c ls cx hr hlk hB hl
  have hl : lv_has ls 2 [(0, .ref mo), (1, .int (q_i a0))] := hl
  obtain ⟨H, hH⟩ : ∃ H : Heap, H = s.heap := ⟨_, rfl⟩
  obtain ⟨locs, hlocs⟩ : ∃ z : List Loc, z = [] := ⟨_, rfl⟩
  rw [← hH, ← hlocs] at hB
  rw [← hH, ← hlocs]
  refine q_ald_n cx dX12_meets_0 rfl (lv_at hl 0 rfl) ?_
  refine q_ild_n cx dX12_meets_1 rfl (lv_at hl 1 rfl) ?_
  refine q_iconst cx dX12_meets_2 ?_
  refine q_ald_n cx dX12_meets_3 rfl (lv_at hl 0 rfl) ?_
  refine q_ild_n cx dX12_meets_4 rfl (lv_at hl 1 rfl) ?_
  refine q_iconst cx dX12_meets_5 ?_
  refine q_cVi (As := [.int (q_i a0), .int (q_i 3)]) (rest := [.int (q_i 3), .int (q_i a0), .ref mo]) cx hB (fun _ h => h) hN hmo kmo (by decide) rfl (r_ofLink3 l g hN hB.2.1 mo hmo kmo a0 (by omega) (by omega) 3 (by decide) (by decide) sr hsr ksr hr0 hgr) q_cX12_210 q_dX12_ofLink (by decide) rfl rfl hl.1 rfl (Nat.le_of_ble_eq_true rfl) dX12_meets_6 (fun y16 H locs f15 ry16 h17 hF hB => ?_)
  obtain rfl := h17
  refine q_iconst cx dX12_meets_9 ?_
  refine q_iadd cx dX12_meets_10 ?_
  refine q_any (fun y18 ry18 ey18 => ?_)
  refine q_cVv (As := [.int (q_i a0), .int (q_i 3), .int (q_i y18)]) (rest := []) cx hB (fun _ h => h) hN hmo kmo (by decide) rfl (r_setsLink3 l g hN hB.2.1 mo hmo kmo a0 (by omega) (by omega) 3 (by decide) (by decide) y18 (by omega) (by omega) sr hsr ksr hr0 hgr) q_cX12_219 q_dX12_setsLink (by decide) rfl rfl hl.1 rfl (Nat.le_of_ble_eq_true rfl) dX12_meets_11 (fun H locs f19 h21 hF hB => ?_)
  have g22 := h21
  have z23 : q_ir (q_r f19 mo 13) sr := Eq.trans (hF.r hmo (by rw [kmo]; rfl)) hr0
  refine q_ald_n cx dX12_meets_14 rfl (lv_at hl 0 rfl) ?_
  refine q_ild_n cx dX12_meets_15 rfl (lv_at hl 1 rfl) ?_
  refine q_iconst cx dX12_meets_16 ?_
  refine q_iconst cx dX12_meets_17 ?_
  refine q_cVv (As := [.int (q_i a0), .int (q_i 2), .int (q_i 0)]) (rest := []) cx hB (fun _ h => h) hN hmo kmo (by decide) rfl (r_setsLink2 l g hN hB.2.1 mo hmo kmo a0 (by omega) (by omega) 2 (by decide) (by decide) 0 (by decide) (by decide) sr hsr ksr z23 g22) q_cX12_219 q_dX12_setsLink (by decide) rfl rfl hl.1 rfl (Nat.le_of_ble_eq_true rfl) dX12_meets_18 (fun H locs f24 h26 hF hB => ?_)
  have g27 := h26
  have z28 : q_ir (q_r f24 mo 13) sr := Eq.trans (hF.r hmo (by rw [kmo]; rfl)) z23
  refine q_vret cx hr hlk hB dX12_meets_21 ?_
  exact g27
set_option maxHeartbeats 4000000 in
set_option maxRecDepth 100000 in
theorem r_misses (l : Launch) (g : q_G) {K : Nat → Nat} {L : List Nat} (hN : L.Nodup) {f : Nat → va_E} (hT : q_Ty g K L f) (mo : Nat) (hmo : mo ∈ L) (kmo : K mo = 12) (a0 : Int) (la0 : 0 ≤ a0) (ua0 : a0 ≤ 15) (b0 : Int) (lb0 : 0 ≤ b0) (ub0 : b0 ≤ 9) (c0 : Int) (lc0 : 0 ≤ c0) (uc0 : c0 ≤ 9) (sr : Nat) (hsr : sr ∈ L) (ksr : K sr = 151) (hr0 : q_ir (q_r f mo 13) sr) (hgr : q_gr f sr) : q_Ct l g K L yX12_misses cX12_misses 4 none 2 44 [.ref mo, .int (q_i a0), .int (q_i b0), .int (q_i c0)] f [(151, 9, 9), (151, 11, 83), (151, 92, 169)] (q_Pv (fun (f1 : Nat → va_E) => q_gr f1 sr)) := by
  refine q_ofb (by decide +kernel) hN hT (Nat.le_of_ble_eq_true rfl) ?_
  intro p e s m below meth c ls cx hr hlk hB hl
  have hl : lv_has ls 4 [(0, .ref mo), (1, .int (q_i a0)), (2, .int (q_i b0)), (3, .int (q_i c0))] := hl
  obtain ⟨H, hH⟩ : ∃ H : Heap, H = s.heap := ⟨_, rfl⟩
  obtain ⟨locs, hlocs⟩ : ∃ z : List Loc, z = [] := ⟨_, rfl⟩
  rw [← hH, ← hlocs] at hB
  rw [← hH, ← hlocs]
  refine q_ald_n cx dX12_misses_0 rfl (lv_at hl 0 rfl) ?_
  refine q_ild_n cx dX12_misses_1 rfl (lv_at hl 1 rfl) ?_
  refine q_iconst cx dX12_misses_2 ?_
  refine q_ald_n cx dX12_misses_3 rfl (lv_at hl 0 rfl) ?_
  refine q_ild_n cx dX12_misses_4 rfl (lv_at hl 1 rfl) ?_
  refine q_iconst cx dX12_misses_5 ?_
  refine q_cVi (As := [.int (q_i a0), .int (q_i 4)]) (rest := [.int (q_i 4), .int (q_i a0), .ref mo]) cx hB (fun _ h => h) hN hmo kmo (by decide) rfl (r_ofLink4 l g hN hB.2.1 mo hmo kmo a0 (by omega) (by omega) 4 (by decide) (by decide) sr hsr ksr hr0 hgr) q_cX12_210 q_dX12_ofLink (by decide) rfl rfl hl.1 rfl (Nat.le_of_ble_eq_true rfl) dX12_misses_6 (fun y126 H locs f125 ry126 h127 hF hB => ?_)
  obtain rfl := h127
  refine q_iconst cx dX12_misses_9 ?_
  refine q_iadd cx dX12_misses_10 ?_
  refine q_any (fun y128 ry128 ey128 => ?_)
  refine q_cVv (As := [.int (q_i a0), .int (q_i 4), .int (q_i y128)]) (rest := []) cx hB (fun _ h => h) hN hmo kmo (by decide) rfl (r_setsLink4 l g hN hB.2.1 mo hmo kmo a0 (by omega) (by omega) 4 (by decide) (by decide) y128 (by omega) (by omega) sr hsr ksr hr0 hgr) q_cX12_219 q_dX12_setsLink (by decide) rfl rfl hl.1 rfl (Nat.le_of_ble_eq_true rfl) dX12_misses_11 (fun H locs f129 h131 hF hB => ?_)
  have g132 := h131
  have z133 : q_ir (q_r f129 mo 13) sr := Eq.trans (hF.r hmo (by rw [kmo]; rfl)) hr0
  refine q_ald_n cx dX12_misses_14 rfl (lv_at hl 0 rfl) ?_
  refine q_ild_n cx dX12_misses_15 rfl (lv_at hl 1 rfl) ?_
  refine q_iconst cx dX12_misses_16 ?_
  refine q_ald_n cx dX12_misses_17 rfl (lv_at hl 0 rfl) ?_
  refine q_ild_n cx dX12_misses_18 rfl (lv_at hl 1 rfl) ?_
  refine q_iconst cx dX12_misses_19 ?_
  refine q_cVi (As := [.int (q_i a0), .int (q_i 2)]) (rest := [.int (q_i 2), .int (q_i a0), .ref mo]) cx hB (fun _ h => h) hN hmo kmo (by decide) rfl (r_ofLink2 l g hN hB.2.1 mo hmo kmo a0 (by omega) (by omega) 2 (by decide) (by decide) sr hsr ksr z133 g132) q_cX12_210 q_dX12_ofLink (by decide) rfl rfl hl.1 rfl (Nat.le_of_ble_eq_true rfl) dX12_misses_20 (fun y135 H locs f134 ry135 h136 hF hB => ?_)
  obtain rfl := h136
  refine q_iconst cx dX12_misses_23 ?_
  refine q_iadd cx dX12_misses_24 ?_
  refine q_any (fun y137 ry137 ey137 => ?_)
  refine q_cVv (As := [.int (q_i a0), .int (q_i 2), .int (q_i y137)]) (rest := []) cx hB (fun _ h => h) hN hmo kmo (by decide) rfl (r_setsLink2 l g hN hB.2.1 mo hmo kmo a0 (by omega) (by omega) 2 (by decide) (by decide) y137 (by omega) (by omega) sr hsr ksr z133 g132) q_cX12_219 q_dX12_setsLink (by decide) rfl rfl hl.1 rfl (Nat.le_of_ble_eq_true rfl) dX12_misses_25 (fun H locs f138 h140 hF hB => ?_)
  have g141 := h140
  have z142 : q_ir (q_r f138 mo 13) sr := Eq.trans (hF.r hmo (by rw [kmo]; rfl)) z133
  refine q_ald_n cx dX12_misses_28 rfl (lv_at hl 0 rfl) ?_
  refine q_ild_n cx dX12_misses_29 rfl (lv_at hl 1 rfl) ?_
  refine q_iconst cx dX12_misses_30 ?_
  refine q_cVi (As := [.int (q_i a0), .int (q_i 2)]) (rest := []) cx hB (fun _ h => h) hN hmo kmo (by decide) rfl (r_ofLink2 l g hN hB.2.1 mo hmo kmo a0 (by omega) (by omega) 2 (by decide) (by decide) sr hsr ksr z142 g141) q_cX12_210 q_dX12_ofLink (by decide) rfl rfl hl.1 rfl (Nat.le_of_ble_eq_true rfl) dX12_misses_31 (fun y144 H locs f143 ry144 h145 hF hB => ?_)
  obtain rfl := h145
  refine q_ald_n cx dX12_misses_34 rfl (lv_at hl 0 rfl) ?_
  refine q_gX12_20 cx hB hmo kmo z142 dX12_misses_35 (fun hb146 kb146 => ?_)
  refine q_bipush cx dX12_misses_38 rfl ?_
  obtain ⟨x147, ex147⟩ : ∃ zz, q_is (q_z f138 sr (Int.toNat 8)) zz := ⟨_, q_isr _⟩
  refine q_sald cx hB hsr ksr (by decide) (by decide) ex147 dX12_misses_40 (fun rx147 => ?_)
  obtain ⟨lx147, ux147⟩ : 0 ≤ x147 ∧ x147 ≤ 9 := q_isb ex147 (q_gr_at g141 (by decide) rfl)
  refine q_icge (tgt := 45) cx ⟨by omega, by omega⟩ ⟨by omega, by omega⟩ dX12_misses_41 (by decide) (fun c149 => ?_) (fun c149 => ?_)
  · refine q_ald_n cx dX12_misses_45 rfl (lv_at hl 0 rfl) ?_
    refine q_ild_n cx dX12_misses_46 rfl (lv_at hl 1 rfl) ?_
    refine q_iconst cx dX12_misses_47 ?_
    refine q_iconst cx dX12_misses_48 ?_
    refine q_cVv (As := [.int (q_i a0), .int (q_i 2), .int (q_i 0)]) (rest := []) cx hB (fun _ h => h) hN hmo kmo (by decide) rfl (r_setsLink2 l g hN hB.2.1 mo hmo kmo a0 (by omega) (by omega) 2 (by decide) (by decide) 0 (by decide) (by decide) sr hsr ksr z142 g141) q_cX12_219 q_dX12_setsLink (by decide) rfl rfl hl.1 rfl (Nat.le_of_ble_eq_true rfl) dX12_misses_49 (fun H locs f150 h152 hF hB => ?_)
    have g153 := h152
    have z154 : q_is (q_z f150 sr 8) x147 := Eq.trans (hF.z hsr (by rw [ksr]; rfl)) ex147
    have z155 : q_ir (q_r f150 mo 13) sr := Eq.trans (hF.r hmo (by rw [kmo]; rfl)) z142
    refine q_ald_n cx dX12_misses_52 rfl (lv_at hl 0 rfl) ?_
    refine q_ild_n cx dX12_misses_53 rfl (lv_at hl 2 rfl) ?_
    refine q_ild_n cx dX12_misses_54 rfl (lv_at hl 3 rfl) ?_
    refine q_cSi (As := [.int (q_i b0), .int (q_i c0)]) (rest := [.ref mo]) cx hB (fun _ h => h) hN (r_greater l g hN hB.2.1 b0 (by omega) (by omega) c0 (by omega) (by omega)) q_cX12_299 q_dX12_greater (by decide) rfl rfl hl.1 rfl (Nat.le_of_ble_eq_true rfl) dX12_misses_55 (fun y157 H locs f156 ry157 h158 hF hB => ?_)
    rcases h158 with h159 | h160
    · obtain ⟨rfl, qy157, t161⟩ := h159
      refine q_iconst cx dX12_misses_58 ?_
      refine q_ald_n cx dX12_misses_59 rfl (lv_at hl 0 rfl) ?_
      refine q_ild_n cx dX12_misses_60 rfl (lv_at hl 2 rfl) ?_
      refine q_ild_n cx dX12_misses_61 rfl (lv_at hl 3 rfl) ?_
      refine q_cSi (As := [.int (q_i b0), .int (q_i c0)]) (rest := [.ref mo, .int (q_i 1), .int (q_i y157), .ref mo]) cx hB (fun _ h => h) hN (r_lesser l g hN hB.2.1 b0 (by omega) (by omega) c0 (by omega) (by omega)) q_cX12_292 q_dX12_lesser (by decide) rfl rfl hl.1 rfl (Nat.le_of_ble_eq_true rfl) dX12_misses_62 (fun y163 H locs f162 ry163 h164 hF hB => ?_)
      rcases h164 with h165 | h166
      · obtain ⟨rfl, qy163, t167⟩ := h165
        refine q_iconst cx dX12_misses_65 ?_
        refine q_cVi (As := [.int (q_i y163), .int (q_i 1)]) (rest := [.int (q_i 1), .int (q_i y157), .ref mo]) cx hB (fun _ h => h) hN hmo kmo (by decide) rfl (r_ofNode1 l g hN hB.2.1 mo hmo kmo y163 (by omega) (by omega) 1 (by decide) (by decide) sr hsr ksr z155 g153) q_cX12_256 q_dX12_ofNode (by decide) rfl rfl hl.1 rfl (Nat.le_of_ble_eq_true rfl) dX12_misses_66 (fun y169 H locs f168 ry169 h170 hF hB => ?_)
        obtain ⟨rfl, ly169, uy169⟩ := h170
        refine q_cVv (As := [.int (q_i y157), .int (q_i 1), .int (q_i y169)]) (rest := []) cx hB (fun _ h => h) hN hmo kmo (by decide) rfl (r_setsNode1 l g hN hB.2.1 mo hmo kmo y157 (by omega) (by omega) 1 (by decide) (by decide) y169 (by omega) (by omega) sr hsr ksr z155 g153) q_cX12_202 q_dX12_setsNode (by decide) rfl rfl hl.1 rfl (Nat.le_of_ble_eq_true rfl) dX12_misses_69 (fun H locs f171 h173 hF hB => ?_)
        have g174 := h173
        have z175 : q_is (q_z f171 sr 8) x147 := Eq.trans (hF.z hsr (by rw [ksr]; rfl)) z154
        have z176 : q_ir (q_r f171 mo 13) sr := Eq.trans (hF.r hmo (by rw [kmo]; rfl)) z155
        refine q_ald_n cx dX12_misses_72 rfl (lv_at hl 0 rfl) ?_
        refine q_gX12_20 cx hB hmo kmo z176 dX12_misses_73 (fun hb177 kb177 => ?_)
        refine q_bipush cx dX12_misses_76 rfl ?_
        refine lv_dup2_11 cx.1 cx.2.1 dX12_misses_78 rfl rfl ?_
        obtain ⟨x178, ex178⟩ : ∃ zz, q_is (q_z f171 sr (Int.toNat 9)) zz := ⟨_, q_isr _⟩
        refine q_sald cx hB hsr ksr (by decide) (by decide) ex178 dX12_misses_79 (fun rx178 => ?_)
        refine q_iconst cx dX12_misses_80 ?_
        refine q_iadd cx dX12_misses_81 ?_
        refine q_any (fun y180 ry180 ey180 => ?_)
        refine q_sast cx hB hsr ksr (by decide) (by decide) ⟨by omega, by omega⟩ rfl dX12_misses_82 (fun H locs f181 ef181 z182 hB => ?_)
        have z183 : q_is (q_z f181 sr 8) x147 := by rw [ef181, q_setz (Or.inr (by decide))]; exact z175
        have z184 : q_ir (q_r f181 mo 13) sr := by rw [ef181, q_setr (Or.inr (by decide))]; exact z176
        have g185 : q_gr f181 sr := q_gr_put g174 ef181 z182 rfl (by omega) (by omega)
        refine q_vret cx hr hlk hB dX12_misses_83 ?_
        exact g185
      · obtain ⟨rfl, qy163, t186⟩ := h166
        refine q_iconst cx dX12_misses_65 ?_
        refine q_cVi (As := [.int (q_i y163), .int (q_i 1)]) (rest := [.int (q_i 1), .int (q_i y157), .ref mo]) cx hB (fun _ h => h) hN hmo kmo (by decide) rfl (r_ofNode1 l g hN hB.2.1 mo hmo kmo y163 (by omega) (by omega) 1 (by decide) (by decide) sr hsr ksr z155 g153) q_cX12_256 q_dX12_ofNode (by decide) rfl rfl hl.1 rfl (Nat.le_of_ble_eq_true rfl) dX12_misses_66 (fun y188 H locs f187 ry188 h189 hF hB => ?_)
        obtain ⟨rfl, ly188, uy188⟩ := h189
        refine q_cVv (As := [.int (q_i y157), .int (q_i 1), .int (q_i y188)]) (rest := []) cx hB (fun _ h => h) hN hmo kmo (by decide) rfl (r_setsNode1 l g hN hB.2.1 mo hmo kmo y157 (by omega) (by omega) 1 (by decide) (by decide) y188 (by omega) (by omega) sr hsr ksr z155 g153) q_cX12_202 q_dX12_setsNode (by decide) rfl rfl hl.1 rfl (Nat.le_of_ble_eq_true rfl) dX12_misses_69 (fun H locs f190 h192 hF hB => ?_)
        have g193 := h192
        have z194 : q_is (q_z f190 sr 8) x147 := Eq.trans (hF.z hsr (by rw [ksr]; rfl)) z154
        have z195 : q_ir (q_r f190 mo 13) sr := Eq.trans (hF.r hmo (by rw [kmo]; rfl)) z155
        refine q_ald_n cx dX12_misses_72 rfl (lv_at hl 0 rfl) ?_
        refine q_gX12_20 cx hB hmo kmo z195 dX12_misses_73 (fun hb196 kb196 => ?_)
        refine q_bipush cx dX12_misses_76 rfl ?_
        refine lv_dup2_11 cx.1 cx.2.1 dX12_misses_78 rfl rfl ?_
        obtain ⟨x197, ex197⟩ : ∃ zz, q_is (q_z f190 sr (Int.toNat 9)) zz := ⟨_, q_isr _⟩
        refine q_sald cx hB hsr ksr (by decide) (by decide) ex197 dX12_misses_79 (fun rx197 => ?_)
        refine q_iconst cx dX12_misses_80 ?_
        refine q_iadd cx dX12_misses_81 ?_
        refine q_any (fun y199 ry199 ey199 => ?_)
        refine q_sast cx hB hsr ksr (by decide) (by decide) ⟨by omega, by omega⟩ rfl dX12_misses_82 (fun H locs f200 ef200 z201 hB => ?_)
        have z202 : q_is (q_z f200 sr 8) x147 := by rw [ef200, q_setz (Or.inr (by decide))]; exact z194
        have z203 : q_ir (q_r f200 mo 13) sr := by rw [ef200, q_setr (Or.inr (by decide))]; exact z195
        have g204 : q_gr f200 sr := q_gr_put g193 ef200 z201 rfl (by omega) (by omega)
        refine q_vret cx hr hlk hB dX12_misses_83 ?_
        exact g204
    · obtain ⟨rfl, qy157, t205⟩ := h160
      refine q_iconst cx dX12_misses_58 ?_
      refine q_ald_n cx dX12_misses_59 rfl (lv_at hl 0 rfl) ?_
      refine q_ild_n cx dX12_misses_60 rfl (lv_at hl 2 rfl) ?_
      refine q_ild_n cx dX12_misses_61 rfl (lv_at hl 3 rfl) ?_
      refine q_cSi (As := [.int (q_i b0), .int (q_i c0)]) (rest := [.ref mo, .int (q_i 1), .int (q_i y157), .ref mo]) cx hB (fun _ h => h) hN (r_lesser l g hN hB.2.1 b0 (by omega) (by omega) c0 (by omega) (by omega)) q_cX12_292 q_dX12_lesser (by decide) rfl rfl hl.1 rfl (Nat.le_of_ble_eq_true rfl) dX12_misses_62 (fun y207 H locs f206 ry207 h208 hF hB => ?_)
      rcases h208 with h209 | h210
      · obtain ⟨rfl, qy207, t211⟩ := h209
        refine q_iconst cx dX12_misses_65 ?_
        refine q_cVi (As := [.int (q_i y207), .int (q_i 1)]) (rest := [.int (q_i 1), .int (q_i y157), .ref mo]) cx hB (fun _ h => h) hN hmo kmo (by decide) rfl (r_ofNode1 l g hN hB.2.1 mo hmo kmo y207 (by omega) (by omega) 1 (by decide) (by decide) sr hsr ksr z155 g153) q_cX12_256 q_dX12_ofNode (by decide) rfl rfl hl.1 rfl (Nat.le_of_ble_eq_true rfl) dX12_misses_66 (fun y213 H locs f212 ry213 h214 hF hB => ?_)
        obtain ⟨rfl, ly213, uy213⟩ := h214
        refine q_cVv (As := [.int (q_i y157), .int (q_i 1), .int (q_i y213)]) (rest := []) cx hB (fun _ h => h) hN hmo kmo (by decide) rfl (r_setsNode1 l g hN hB.2.1 mo hmo kmo y157 (by omega) (by omega) 1 (by decide) (by decide) y213 (by omega) (by omega) sr hsr ksr z155 g153) q_cX12_202 q_dX12_setsNode (by decide) rfl rfl hl.1 rfl (Nat.le_of_ble_eq_true rfl) dX12_misses_69 (fun H locs f215 h217 hF hB => ?_)
        have g218 := h217
        have z219 : q_is (q_z f215 sr 8) x147 := Eq.trans (hF.z hsr (by rw [ksr]; rfl)) z154
        have z220 : q_ir (q_r f215 mo 13) sr := Eq.trans (hF.r hmo (by rw [kmo]; rfl)) z155
        refine q_ald_n cx dX12_misses_72 rfl (lv_at hl 0 rfl) ?_
        refine q_gX12_20 cx hB hmo kmo z220 dX12_misses_73 (fun hb221 kb221 => ?_)
        refine q_bipush cx dX12_misses_76 rfl ?_
        refine lv_dup2_11 cx.1 cx.2.1 dX12_misses_78 rfl rfl ?_
        obtain ⟨x222, ex222⟩ : ∃ zz, q_is (q_z f215 sr (Int.toNat 9)) zz := ⟨_, q_isr _⟩
        refine q_sald cx hB hsr ksr (by decide) (by decide) ex222 dX12_misses_79 (fun rx222 => ?_)
        refine q_iconst cx dX12_misses_80 ?_
        refine q_iadd cx dX12_misses_81 ?_
        refine q_any (fun y224 ry224 ey224 => ?_)
        refine q_sast cx hB hsr ksr (by decide) (by decide) ⟨by omega, by omega⟩ rfl dX12_misses_82 (fun H locs f225 ef225 z226 hB => ?_)
        have z227 : q_is (q_z f225 sr 8) x147 := by rw [ef225, q_setz (Or.inr (by decide))]; exact z219
        have z228 : q_ir (q_r f225 mo 13) sr := by rw [ef225, q_setr (Or.inr (by decide))]; exact z220
        have g229 : q_gr f225 sr := q_gr_put g218 ef225 z226 rfl (by omega) (by omega)
        refine q_vret cx hr hlk hB dX12_misses_83 ?_
        exact g229
      · obtain ⟨rfl, qy207, t230⟩ := h210
        refine q_iconst cx dX12_misses_65 ?_
        refine q_cVi (As := [.int (q_i y207), .int (q_i 1)]) (rest := [.int (q_i 1), .int (q_i y157), .ref mo]) cx hB (fun _ h => h) hN hmo kmo (by decide) rfl (r_ofNode1 l g hN hB.2.1 mo hmo kmo y207 (by omega) (by omega) 1 (by decide) (by decide) sr hsr ksr z155 g153) q_cX12_256 q_dX12_ofNode (by decide) rfl rfl hl.1 rfl (Nat.le_of_ble_eq_true rfl) dX12_misses_66 (fun y232 H locs f231 ry232 h233 hF hB => ?_)
        obtain ⟨rfl, ly232, uy232⟩ := h233
        refine q_cVv (As := [.int (q_i y157), .int (q_i 1), .int (q_i y232)]) (rest := []) cx hB (fun _ h => h) hN hmo kmo (by decide) rfl (r_setsNode1 l g hN hB.2.1 mo hmo kmo y157 (by omega) (by omega) 1 (by decide) (by decide) y232 (by omega) (by omega) sr hsr ksr z155 g153) q_cX12_202 q_dX12_setsNode (by decide) rfl rfl hl.1 rfl (Nat.le_of_ble_eq_true rfl) dX12_misses_69 (fun H locs f234 h236 hF hB => ?_)
        have g237 := h236
        have z238 : q_is (q_z f234 sr 8) x147 := Eq.trans (hF.z hsr (by rw [ksr]; rfl)) z154
        have z239 : q_ir (q_r f234 mo 13) sr := Eq.trans (hF.r hmo (by rw [kmo]; rfl)) z155
        refine q_ald_n cx dX12_misses_72 rfl (lv_at hl 0 rfl) ?_
        refine q_gX12_20 cx hB hmo kmo z239 dX12_misses_73 (fun hb240 kb240 => ?_)
        refine q_bipush cx dX12_misses_76 rfl ?_
        refine lv_dup2_11 cx.1 cx.2.1 dX12_misses_78 rfl rfl ?_
        obtain ⟨x241, ex241⟩ : ∃ zz, q_is (q_z f234 sr (Int.toNat 9)) zz := ⟨_, q_isr _⟩
        refine q_sald cx hB hsr ksr (by decide) (by decide) ex241 dX12_misses_79 (fun rx241 => ?_)
        refine q_iconst cx dX12_misses_80 ?_
        refine q_iadd cx dX12_misses_81 ?_
        refine q_any (fun y243 ry243 ey243 => ?_)
        refine q_sast cx hB hsr ksr (by decide) (by decide) ⟨by omega, by omega⟩ rfl dX12_misses_82 (fun H locs f244 ef244 z245 hB => ?_)
        have z246 : q_is (q_z f244 sr 8) x147 := by rw [ef244, q_setz (Or.inr (by decide))]; exact z238
        have z247 : q_ir (q_r f244 mo 13) sr := by rw [ef244, q_setr (Or.inr (by decide))]; exact z239
        have g248 : q_gr f244 sr := q_gr_put g237 ef244 z245 rfl (by omega) (by omega)
        refine q_vret cx hr hlk hB dX12_misses_83 ?_
        exact g248
  · refine q_vret cx hr hlk hB dX12_misses_44 ?_
    exact g141
