set_option maxHeartbeats 4000000 in
set_option maxRecDepth 100000 in
theorem r_laysHops (l : Launch) (g : q_G) {K : Nat → Nat} {L : List Nat} (hN : L.Nodup) {f : Nat → va_E} (hT : q_Ty g K L f) (mo : Nat) (hmo : mo ∈ L) (kmo : K mo = 12) (a0 : Int) (la0 : 0 ≤ a0) (ua0 : a0 ≤ 9) (sr : Nat) (hsr : sr ∈ L) (ksr : K sr = 151) (hp : Nat) (hhp : hp ∈ L) (khp : K hp = 159) (hr0 : q_ir (q_r f mo 13) sr) (hr1 : q_ir (q_r f mo 24) hp) (hgr : q_gr f sr) : q_Ct l g K L yX12_laysHops cX12_laysHops 3 none 4 88 [.ref mo, .int (q_i a0)] f [(159, 0, 9)] (q_Pv (fun (f1 : Nat → va_E) => True)) := by
  refine q_ofb (by decide +kernel) hN hT (Nat.le_of_ble_eq_true rfl) ?_
  intro p e s m below meth c ls cx hr hlk hB hl
  have hl : lv_has ls 3 [(0, .ref mo), (1, .int (q_i a0))] := hl
  have J40 : ∀ (n : Nat) (f40 : Nat → va_E) (v40_2 : Int) (lv40_2 : 0 ≤ v40_2) (uv40_2 : v40_2 ≤ 1) (hq_mo_13 : q_ir (q_r f40 mo 13) sr) (hq_mo_24 : q_ir (q_r f40 mo 24) hp) (hgr40 : q_gr f40 sr) (hnn : 0 ≤ q_hs f40 hp) (hmu : (2 * Int.toNat (q_hs f40 hp) + Int.toNat v40_2) < n) (H : Heap) (locs : List Loc) (hB : q_B g K L (fun q => q ∈ L) [(159, 0, 9)] f f40 s H locs) (ls : Array Slot) (hl : lv_has ls 3 [(0, .ref mo), (2, .int (q_i v40_2))]), W p l e { frames := 4, cells := 0, slots := 0, locals := 88 } s m ([.ref mo, .int (q_i a0)] : List Value).toArray below meth c H locs 0 0 (MQ below (q_Q g K L [(159, 0, 9)] f (q_Pv (fun (f1 : Nat → va_E) => True))) ([.ref mo, .int (q_i a0)] : List Value).toArray s 0 0 (fun q => q ∈ L)) (F0 m 40 ls []) := by
    intro n
    induction n with
    | zero =>
      intro f40 v40_2 lv40_2 uv40_2 hq_mo_13 hq_mo_24 hgr40 hnn hmu
      exact absurd hmu (Nat.not_lt_zero _)
    | succ n ih40 =>
      intro f40 v40_2 lv40_2 uv40_2 hq_mo_13 hq_mo_24 hgr40 hnn hmu H locs hB ls hl
      refine q_ild_n cx dX12_laysHops_40 rfl (lv_at hl 1 rfl) ?_
      refine q_ifeq (tgt := 52) cx ⟨by omega, by omega⟩ dX12_laysHops_41 (by decide) (fun c99 => ?_) (fun c99 => ?_)
      · refine q_vret cx hr hlk hB dX12_laysHops_52 ?_
        trivial
      · refine q_ald_n cx dX12_laysHops_44 rfl (lv_at hl 0 rfl) ?_
        refine q_cVi (As := []) (rest := []) cx hB (fun _ h => h) hN hmo kmo (by decide) rfl (r_lowersHops l g hN hB.2.1 mo hmo kmo sr hsr ksr hp hhp khp hq_mo_13 hq_mo_24 hgr40) q_cX12_277 q_dX12_lowersHops (by decide) rfl rfl hl.1 rfl (Nat.le_of_ble_eq_true rfl) dX12_laysHops_45 (fun y101 H locs f100 ry101 h102 hF hB => ?_)
        obtain ⟨ly101, uy101, t103, t104⟩ := h102
        have z105 : q_ir (q_r f100 mo 13) sr := Eq.trans (hF.r hmo (by rw [kmo]; rfl)) hq_mo_13
        have z106 : q_ir (q_r f100 mo 24) hp := Eq.trans (hF.r hmo (by rw [kmo]; rfl)) hq_mo_24
        have g107 : q_gr f100 sr := q_gr_fr hgr40 (fun i9 _ => hF.z hsr (by rw [ksr]; rfl))
        refine lv_istore_n (lv' := [(2, .int (q_i y101)), (0, .ref mo)]) cx.1 cx.2.1 dX12_laysHops_48 rfl hl (by decide) rfl (fun ls hl => ?_)
        refine lv_goto (tgt := 40) cx.1 cx.2.1 dX12_laysHops_49 (by decide) ?_
        exact ih40 f100 y101 (by omega) (by omega) z105 z106 g107 (q_hs_nn hB.2.1 hhp khp) (by omega) H locs hB ls (lv_sub hl [1, 0] rfl)
  have J2 : ∀ (n : Nat) (f2 : Nat → va_E) (v2_1 : Int) (lv2_1 : 0 ≤ v2_1) (uv2_1 : v2_1 ≤ 9) (v2_2 : Int) (lv2_2 : 0 ≤ v2_2) (uv2_2 : v2_2 ≤ 10) (hq_mo_13 : q_ir (q_r f2 mo 13) sr) (hq_mo_24 : q_ir (q_r f2 mo 24) hp) (hgr2 : q_gr f2 sr) (hmu : (Int.toNat (2147483647 - v2_2)) < n) (H : Heap) (locs : List Loc) (hB : q_B g K L (fun q => q ∈ L) [(159, 0, 9)] f f2 s H locs) (ls : Array Slot) (hl : lv_has ls 3 [(0, .ref mo), (1, .int (q_i v2_1)), (2, .int (q_i v2_2))]), W p l e { frames := 4, cells := 0, slots := 0, locals := 88 } s m ([.ref mo, .int (q_i a0)] : List Value).toArray below meth c H locs 0 0 (MQ below (q_Q g K L [(159, 0, 9)] f (q_Pv (fun (f1 : Nat → va_E) => True))) ([.ref mo, .int (q_i a0)] : List Value).toArray s 0 0 (fun q => q ∈ L)) (F0 m 2 ls []) := by
    intro n
    induction n with
    | zero =>
      intro f2 v2_1 lv2_1 uv2_1 v2_2 lv2_2 uv2_2 hq_mo_13 hq_mo_24 hgr2 hmu
      exact absurd hmu (Nat.not_lt_zero _)
    | succ n ih2 =>
      intro f2 v2_1 lv2_1 uv2_1 v2_2 lv2_2 uv2_2 hq_mo_13 hq_mo_24 hgr2 hmu H locs hB ls hl
      refine q_ild_n cx dX12_laysHops_2 rfl (lv_at hl 2 rfl) ?_
      refine q_bipush cx dX12_laysHops_3 rfl ?_
      refine q_icge (tgt := 23) cx ⟨by omega, by omega⟩ ⟨by decide, by decide⟩ dX12_laysHops_5 (by decide) (fun c108 => ?_) (fun c108 => ?_)
      · refine q_ald_n cx dX12_laysHops_23 rfl (lv_at hl 0 rfl) ?_
        refine q_ild_n cx dX12_laysHops_24 rfl (lv_at hl 1 rfl) ?_
        refine q_cVi (As := [.int (q_i v2_1)]) (rest := []) cx hB (fun _ h => h) hN hmo kmo (by decide) rfl (r_isOut l g hN hB.2.1 mo hmo kmo v2_1 (by omega) (by omega) sr hsr ksr hq_mo_13 hgr2) q_cX12_271 q_dX12_isOut (by decide) rfl rfl hl.1 rfl (Nat.le_of_ble_eq_true rfl) dX12_laysHops_25 (fun y110 H locs f109 ry110 h111 hF hB => ?_)
        obtain ⟨rfl, ly110, uy110⟩ := h111
        refine q_ifne (tgt := 38) cx ⟨by omega, by omega⟩ dX12_laysHops_28 (by decide) (fun c112 => ?_) (fun c112 => ?_)
        · refine q_iconst cx dX12_laysHops_38 ?_
          refine lv_istore_n (lv' := [(2, .int (q_i 1)), (0, .ref mo), (1, .int (q_i v2_1))]) cx.1 cx.2.1 dX12_laysHops_39 rfl hl (by decide) rfl (fun ls hl => ?_)
          exact J40 ((2 * Int.toNat (q_hs f2 hp) + Int.toNat 1) + 1) f2 1 (by decide) (by decide) hq_mo_13 hq_mo_24 hgr2 (q_hs_nn hB.2.1 hhp khp) (Nat.lt_succ_self _) H locs hB ls (lv_sub hl [1, 0] rfl)
        · refine q_ald_n cx dX12_laysHops_31 rfl (lv_at hl 0 rfl) ?_
          refine q_gX12_45 cx hB hmo kmo hq_mo_24 dX12_laysHops_32 (fun hb113 kb113 => ?_)
          refine q_ild_n cx dX12_laysHops_35 rfl (lv_at hl 1 rfl) ?_
          refine q_iconst cx dX12_laysHops_36 ?_
          refine q_iast (lo := 0) (hi := 1000) (n := 10) cx hB hhp khp (by decide) rfl rfl (by omega) (by omega) (by decide) rfl ⟨by decide, by decide⟩ (by decide) (by decide) (q_inWi (lo := 0) (hi := 9) (by decide) (by omega) (by omega)) dX12_laysHops_37 (fun H locs f114 ef114 z115 hB => ?_)
          have z116 : q_ir (q_r f114 mo 13) sr := by rw [ef114, q_setr (Or.inl (fun q => by rw [q, khp] at kmo; exact absurd kmo (by decide)))]; exact hq_mo_13
          have z117 : q_ir (q_r f114 mo 24) hp := by rw [ef114, q_setr (Or.inl (fun q => by rw [q, khp] at kmo; exact absurd kmo (by decide)))]; exact hq_mo_24
          have g118 : q_gr f114 sr := q_gr_ne hgr2 ef114 (fun q => q_kne (k := 151) (k2 := 159) (by decide) ksr khp q)
          refine q_iconst cx dX12_laysHops_38 ?_
          refine lv_istore_n (lv' := [(2, .int (q_i 1)), (0, .ref mo), (1, .int (q_i v2_1))]) cx.1 cx.2.1 dX12_laysHops_39 rfl hl (by decide) rfl (fun ls hl => ?_)
          exact J40 ((2 * Int.toNat (q_hs f114 hp) + Int.toNat 1) + 1) f114 1 (by decide) (by decide) z116 z117 g118 (q_hs_nn hB.2.1 hhp khp) (Nat.lt_succ_self _) H locs hB ls (lv_sub hl [1, 0] rfl)
      · refine q_ald_n cx dX12_laysHops_8 rfl (lv_at hl 0 rfl) ?_
        refine q_gX12_45 cx hB hmo kmo hq_mo_24 dX12_laysHops_9 (fun hb119 kb119 => ?_)
        refine q_ild_n cx dX12_laysHops_12 rfl (lv_at hl 2 rfl) ?_
        refine q_sipush cx dX12_laysHops_13 rfl ?_
        refine q_iast (lo := 0) (hi := 1000) (n := 10) cx hB hhp khp (by decide) rfl rfl (by omega) (by omega) (by decide) rfl ⟨by decide, by decide⟩ (by decide) (by decide) (q_inWi (lo := 0) (hi := 9) (by decide) (by omega) (by omega)) dX12_laysHops_16 (fun H locs f120 ef120 z121 hB => ?_)
        have z122 : q_ir (q_r f120 mo 13) sr := by rw [ef120, q_setr (Or.inl (fun q => by rw [q, khp] at kmo; exact absurd kmo (by decide)))]; exact hq_mo_13
        have z123 : q_ir (q_r f120 mo 24) hp := by rw [ef120, q_setr (Or.inl (fun q => by rw [q, khp] at kmo; exact absurd kmo (by decide)))]; exact hq_mo_24
        have g124 : q_gr f120 sr := q_gr_ne hgr2 ef120 (fun q => q_kne (k := 151) (k2 := 159) (by decide) ksr khp q)
        refine q_iinc (lv' := [(2, .int (q_i (v2_2 + 1))), (0, .ref mo), (1, .int (q_i v2_1))]) cx dX12_laysHops_17 hl (k := 2) rfl (by decide) rfl (fun ls hl => ?_)
        refine lv_goto (tgt := 2) cx.1 cx.2.1 dX12_laysHops_20 (by decide) ?_
        exact ih2 f120 v2_1 (by omega) (by omega) (v2_2 + 1) (by omega) (by omega) z122 z123 g124 (by omega) H locs hB ls (lv_sub hl [1, 2, 0] rfl)
  obtain ⟨H, hH⟩ : ∃ H : Heap, H = s.heap := ⟨_, rfl⟩
  obtain ⟨locs, hlocs⟩ : ∃ z : List Loc, z = [] := ⟨_, rfl⟩
  rw [← hH, ← hlocs] at hB
  rw [← hH, ← hlocs]
  refine q_iconst cx dX12_laysHops_0 ?_
  refine lv_istore_n (lv' := [(2, .int (q_i 0)), (0, .ref mo), (1, .int (q_i a0))]) cx.1 cx.2.1 dX12_laysHops_1 rfl hl (by decide) rfl (fun ls hl => ?_)
  exact J2 ((Int.toNat (2147483647 - 0)) + 1) f a0 (by omega) (by omega) 0 (by decide) (by decide) hr0 hr1 hgr (Nat.lt_succ_self _) H locs hB ls (lv_sub hl [1, 2, 0] rfl)
set_option maxHeartbeats 4000000 in
set_option maxRecDepth 100000 in
theorem r_hopsBetween (l : Launch) (g : q_G) {K : Nat → Nat} {L : List Nat} (hN : L.Nodup) {f : Nat → va_E} (hT : q_Ty g K L f) (mo : Nat) (hmo : mo ∈ L) (kmo : K mo = 12) (a0 : Int) (la0 : 0 ≤ a0) (ua0 : a0 ≤ 9) (b0 : Int) (lb0 : 0 ≤ b0) (ub0 : b0 ≤ 9) (sr : Nat) (hsr : sr ∈ L) (ksr : K sr = 151) (hp : Nat) (hhp : hp ∈ L) (khp : K hp = 159) (hr0 : q_ir (q_r f mo 13) sr) (hr1 : q_ir (q_r f mo 24) hp) (hgr : q_gr f sr) : q_Ct l g K L yX12_hopsBetween cX12_hopsBetween 3 (some .int) 5 110 [.ref mo, .int (q_i a0), .int (q_i b0)] f [(159, 0, 9)] (q_Pi (fun (z : Int) (f1 : Nat → va_E) => (-1) ≤ z ∧ z ≤ 999)) := by
  refine q_ofb (by decide +kernel) hN hT (Nat.le_of_ble_eq_true rfl) ?_
  intro p e s m below meth c ls cx hr hlk hB hl
  have hl : lv_has ls 3 [(0, .ref mo), (1, .int (q_i a0)), (2, .int (q_i b0))] := hl
  obtain ⟨H, hH⟩ : ∃ H : Heap, H = s.heap := ⟨_, rfl⟩
  obtain ⟨locs, hlocs⟩ : ∃ z : List Loc, z = [] := ⟨_, rfl⟩
  rw [← hH, ← hlocs] at hB
  rw [← hH, ← hlocs]
  refine q_ald_n cx dX12_hopsBetween_0 rfl (lv_at hl 0 rfl) ?_
  refine q_ild_n cx dX12_hopsBetween_1 rfl (lv_at hl 2 rfl) ?_
  refine q_cVv (As := [.int (q_i b0)]) (rest := []) cx hB (fun _ h => h) hN hmo kmo (by decide) rfl (r_laysHops l g hN hB.2.1 mo hmo kmo b0 (by omega) (by omega) sr hsr ksr hp hhp khp hr0 hr1 hgr) q_cX12_280 q_dX12_laysHops (by decide) rfl rfl hl.1 rfl (Nat.le_of_ble_eq_true rfl) dX12_hopsBetween_2 (fun H locs f14 h16 hF hB => ?_)
  have z17 : q_ir (q_r f14 mo 13) sr := Eq.trans (hF.r hmo (by rw [kmo]; rfl)) hr0
  have z18 : q_ir (q_r f14 mo 24) hp := Eq.trans (hF.r hmo (by rw [kmo]; rfl)) hr1
  have g19 : q_gr f14 sr := q_gr_fr hgr (fun i9 _ => hF.z hsr (by rw [ksr]; rfl))
  refine q_ald_n cx dX12_hopsBetween_5 rfl (lv_at hl 0 rfl) ?_
  refine q_gX12_45 cx hB hmo kmo z18 dX12_hopsBetween_6 (fun hb20 kb20 => ?_)
  refine q_ild_n cx dX12_hopsBetween_9 rfl (lv_at hl 1 rfl) ?_
  obtain ⟨x21, ex21⟩ : ∃ zz, q_is (q_z f14 hp (Int.toNat a0)) zz := ⟨_, rfl⟩
  refine q_iald (lo := 0) (hi := 1000) (n := 10) cx hB hhp khp (by decide) rfl rfl (by omega) (by omega) (by decide) rfl ex21 dX12_hopsBetween_10 (fun lb22 ub22 => ?_)
  refine q_sipush cx dX12_hopsBetween_11 rfl ?_
  refine q_icge (tgt := 26) cx ⟨by omega, by omega⟩ ⟨by decide, by decide⟩ dX12_hopsBetween_14 (by decide) (fun c23 => ?_) (fun c23 => ?_)
  · refine q_iconst cx dX12_hopsBetween_26 ?_
    refine q_iret cx hr hlk hB dX12_hopsBetween_27 ⟨by decide, by decide⟩ ?_
    exact ⟨(by decide), (by decide)⟩
  · refine q_ald_n cx dX12_hopsBetween_17 rfl (lv_at hl 0 rfl) ?_
    refine q_gX12_45 cx hB hmo kmo z18 dX12_hopsBetween_18 (fun hb24 kb24 => ?_)
    refine q_ild_n cx dX12_hopsBetween_21 rfl (lv_at hl 1 rfl) ?_
    refine q_iald (lo := 0) (hi := 1000) (n := 10) cx hB hhp khp (by decide) rfl rfl (by omega) (by omega) (by decide) rfl ex21 dX12_hopsBetween_22 (fun lb26 ub26 => ?_)
    refine lv_goto (tgt := 27) cx.1 cx.2.1 dX12_hopsBetween_23 (by decide) ?_
    refine q_iret cx hr hlk hB dX12_hopsBetween_27 ⟨by omega, by omega⟩ ?_
    exact ⟨(by omega), (by omega)⟩
set_option maxHeartbeats 4000000 in
set_option maxRecDepth 100000 in
theorem r_nextOf (l : Launch) (g : q_G) {K : Nat → Nat} {L : List Nat} (hN : L.Nodup) {f : Nat → va_E} (hT : q_Ty g K L f) (mo : Nat) (hmo : mo ∈ L) (kmo : K mo = 12) (a0 : Int) (la0 : 0 ≤ a0) (ua0 : a0 ≤ 9) (b0 : Int) (lb0 : 0 ≤ b0) (ub0 : b0 ≤ 9) (sr : Nat) (hsr : sr ∈ L) (ksr : K sr = 151) (hp : Nat) (hhp : hp ∈ L) (khp : K hp = 159) (hr0 : q_ir (q_r f mo 13) sr) (hr1 : q_ir (q_r f mo 24) hp) (hgr : q_gr f sr) : q_Ct l g K L yX12_nextOf cX12_nextOf 6 (some .int) 5 110 [.ref mo, .int (q_i a0), .int (q_i b0)] f [(159, 0, 9)] (q_Pi (fun (z : Int) (f1 : Nat → va_E) => (-1) ≤ z ∧ z ≤ 9)) := by
  refine q_ofb (by decide +kernel) hN hT (Nat.le_of_ble_eq_true rfl) ?_
  intro p e s m below meth c ls cx hr hlk hB hl
  have hl : lv_has ls 6 [(0, .ref mo), (1, .int (q_i a0)), (2, .int (q_i b0))] := hl
  have J32 : ∀ (n : Nat) (f32 : Nat → va_E) (v32_3 : Int) (lv32_3 : (-2147483648) ≤ v32_3) (uv32_3 : v32_3 ≤ 2147483647) (v32_4 : Int) (lv32_4 : (-1) ≤ v32_4) (uv32_4 : v32_4 ≤ 9) (v32_5 : Int) (lv32_5 : 0 ≤ v32_5) (uv32_5 : v32_5 ≤ 10) (hq_mo_13 : q_ir (q_r f32 mo 13) sr) (hq_mo_24 : q_ir (q_r f32 mo 24) hp) (hgr32 : q_gr f32 sr) (hmu : (Int.toNat (2147483647 - v32_5)) < n) (H : Heap) (locs : List Loc) (hB : q_B g K L (fun q => q ∈ L) [(159, 0, 9)] f f32 s H locs) (ls : Array Slot) (hl : lv_has ls 6 [(0, .ref mo), (3, .int (q_i v32_3)), (4, .int (q_i v32_4)), (5, .int (q_i v32_5))]), W p l e { frames := 5, cells := 0, slots := 0, locals := 110 } s m ([.ref mo, .int (q_i a0), .int (q_i b0)] : List Value).toArray below meth c H locs 0 0 (MQ below (q_Q g K L [(159, 0, 9)] f (q_Pi (fun (z : Int) (f1 : Nat → va_E) => (-1) ≤ z ∧ z ≤ 9))) ([.ref mo, .int (q_i a0), .int (q_i b0)] : List Value).toArray s 0 0 (fun q => q ∈ L)) (F0 m 32 ls []) := by
    intro n
    induction n with
    | zero =>
      intro f32 v32_3 lv32_3 uv32_3 v32_4 lv32_4 uv32_4 v32_5 lv32_5 uv32_5 hq_mo_13 hq_mo_24 hgr32 hmu
      exact absurd hmu (Nat.not_lt_zero _)
    | succ n ih32 =>
      intro f32 v32_3 lv32_3 uv32_3 v32_4 lv32_4 uv32_4 v32_5 lv32_5 uv32_5 hq_mo_13 hq_mo_24 hgr32 hmu H locs hB ls hl
      refine lv_iload cx.1 cx.2.1 dX12_nextOf_32 (lv_at hl 3 rfl) ?_
      refine q_ald_n cx dX12_nextOf_34 rfl (lv_at hl 0 rfl) ?_
      refine q_gX12_20 cx hB hmo kmo hq_mo_13 dX12_nextOf_35 (fun hb248 kb248 => ?_)
      refine q_iconst cx dX12_nextOf_38 ?_
      obtain ⟨x249, ex249⟩ : ∃ zz, q_is (q_z f32 sr (Int.toNat 0)) zz := ⟨_, rfl⟩
      refine q_iald (lo := 0) (hi := 10) (n := 658) cx hB hsr ksr (by decide) rfl rfl (by decide) (by decide) (by decide) rfl ex249 dX12_nextOf_39 (fun lb250 ub250 => ?_)
      refine q_icge (tgt := 110) cx ⟨by omega, by omega⟩ ⟨by omega, by omega⟩ dX12_nextOf_40 (by decide) (fun c251 => ?_) (fun c251 => ?_)
      · refine lv_iload cx.1 cx.2.1 dX12_nextOf_110 (lv_at hl 2 rfl) ?_
        refine q_iret cx hr hlk hB dX12_nextOf_112 ⟨by omega, by omega⟩ ?_
        exact ⟨(by omega), (by omega)⟩
      · refine q_ild_n cx dX12_nextOf_43 rfl (lv_at hl 1 rfl) ?_
        refine lv_iload cx.1 cx.2.1 dX12_nextOf_44 (lv_at hl 3 rfl) ?_
        refine q_cSi (As := [.int (q_i v32_3), .int (q_i v32_5)]) (rest := []) cx hB (fun _ h => h) hN (r_has l g hN hB.2.1 v32_3 (by omega) (by omega) v32_5 (by omega) (by omega)) q_cX12_185 q_dX12_has (by decide) rfl rfl hl.1 rfl (Nat.le_of_ble_eq_true rfl) dX12_nextOf_46 (fun y253 H locs f252 ry253 h254 hF hB => ?_)
        obtain ⟨rfl, ly253, uy253⟩ := h254
        refine q_ifeq (tgt := 104) cx ⟨by omega, by omega⟩ dX12_nextOf_49 (by decide) (fun c255 => ?_) (fun c255 => ?_)
        · refine q_iinc (lv' := [(5, .int (q_i (v32_5 + 1))), (0, .ref mo), (3, .int (q_i v32_3)), (4, .int (q_i v32_4))]) cx dX12_nextOf_104 hl (k := 3) rfl (by decide) rfl (fun ls hl => ?_)
          refine lv_goto (tgt := 32) cx.1 cx.2.1 dX12_nextOf_107 (by decide) ?_
          exact ih32 f32 v32_3 (by omega) (by omega) v32_4 (by omega) (by omega) (v32_5 + 1) (by omega) (by omega) hq_mo_13 hq_mo_24 hgr32 (by omega) H locs hB ls (lv_sub hl [1, 2, 3, 0] rfl)
        · refine q_ald_n cx dX12_nextOf_52 rfl (lv_at hl 0 rfl) ?_
          refine lv_iload cx.1 cx.2.1 dX12_nextOf_53 (lv_at hl 3 rfl) ?_
          refine q_cVi (As := [.int (q_i v32_5)]) (rest := []) cx hB (fun _ h => h) hN hmo kmo (by decide) rfl (r_isOut l g hN hB.2.1 mo hmo kmo v32_5 (by omega) (by omega) sr hsr ksr hq_mo_13 hgr32) q_cX12_271 q_dX12_isOut (by decide) rfl rfl hl.1 rfl (Nat.le_of_ble_eq_true rfl) dX12_nextOf_55 (fun y257 H locs f256 ry257 h258 hF hB => ?_)
          obtain ⟨rfl, ly257, uy257⟩ := h258
          refine q_ifne (tgt := 104) cx ⟨by omega, by omega⟩ dX12_nextOf_58 (by decide) (fun c259 => ?_) (fun c259 => ?_)
          · refine q_iinc (lv' := [(5, .int (q_i (v32_5 + 1))), (0, .ref mo), (3, .int (q_i v32_3)), (4, .int (q_i v32_4))]) cx dX12_nextOf_104 hl (k := 3) rfl (by decide) rfl (fun ls hl => ?_)
            refine lv_goto (tgt := 32) cx.1 cx.2.1 dX12_nextOf_107 (by decide) ?_
            exact ih32 f32 v32_3 (by omega) (by omega) v32_4 (by omega) (by omega) (v32_5 + 1) (by omega) (by omega) hq_mo_13 hq_mo_24 hgr32 (by omega) H locs hB ls (lv_sub hl [1, 2, 3, 0] rfl)
          · refine q_ald_n cx dX12_nextOf_61 rfl (lv_at hl 0 rfl) ?_
            refine q_gX12_45 cx hB hmo kmo hq_mo_24 dX12_nextOf_62 (fun hb260 kb260 => ?_)
            refine lv_iload cx.1 cx.2.1 dX12_nextOf_65 (lv_at hl 3 rfl) ?_
            obtain ⟨x261, ex261⟩ : ∃ zz, q_is (q_z f32 hp (Int.toNat v32_5)) zz := ⟨_, rfl⟩
            refine q_iald (lo := 0) (hi := 1000) (n := 10) cx hB hhp khp (by decide) rfl rfl (by omega) (by omega) (by decide) rfl ex261 dX12_nextOf_67 (fun lb262 ub262 => ?_)
            refine q_sipush cx dX12_nextOf_68 rfl ?_
            refine q_iclt (tgt := 77) cx ⟨by omega, by omega⟩ ⟨by decide, by decide⟩ dX12_nextOf_71 (by decide) (fun c263 => ?_) (fun c263 => ?_)
            · refine lv_iload cx.1 cx.2.1 dX12_nextOf_77 (lv_at hl 2 rfl) ?_
              refine q_iconst cx dX12_nextOf_79 ?_
              refine q_iceq (tgt := 100) cx ⟨by omega, by omega⟩ ⟨by decide, by decide⟩ dX12_nextOf_80 (by decide) (fun c264 => ?_) (fun c264 => ?_)
              · refine lv_iload cx.1 cx.2.1 dX12_nextOf_100 (lv_at hl 3 rfl) ?_
                refine lv_istore (lv' := [(4, .int (q_i v32_5)), (0, .ref mo), (3, .int (q_i v32_3)), (5, .int (q_i v32_5))]) cx.1 cx.2.1 dX12_nextOf_102 hl (by decide) rfl (fun ls hl => ?_)
                refine q_iinc (lv' := [(5, .int (q_i (v32_5 + 1))), (4, .int (q_i v32_5)), (0, .ref mo), (3, .int (q_i v32_3))]) cx dX12_nextOf_104 hl (k := 3) rfl (by decide) rfl (fun ls hl => ?_)
                refine lv_goto (tgt := 32) cx.1 cx.2.1 dX12_nextOf_107 (by decide) ?_
                exact ih32 f32 v32_3 (by omega) (by omega) v32_5 (by omega) (by omega) (v32_5 + 1) (by omega) (by omega) hq_mo_13 hq_mo_24 hgr32 (by omega) H locs hB ls (lv_sub hl [2, 3, 1, 0] rfl)
              · refine q_ald_n cx dX12_nextOf_83 rfl (lv_at hl 0 rfl) ?_
                refine q_gX12_45 cx hB hmo kmo hq_mo_24 dX12_nextOf_84 (fun hb265 kb265 => ?_)
                refine lv_iload cx.1 cx.2.1 dX12_nextOf_87 (lv_at hl 3 rfl) ?_
                refine q_iald (lo := 0) (hi := 1000) (n := 10) cx hB hhp khp (by decide) rfl rfl (by omega) (by omega) (by decide) rfl ex261 dX12_nextOf_89 (fun lb267 ub267 => ?_)
                refine q_ald_n cx dX12_nextOf_90 rfl (lv_at hl 0 rfl) ?_
                refine q_gX12_45 cx hB hmo kmo hq_mo_24 dX12_nextOf_91 (fun hb268 kb268 => ?_)
                refine lv_iload cx.1 cx.2.1 dX12_nextOf_94 (lv_at hl 2 rfl) ?_
                obtain ⟨x269, ex269⟩ : ∃ zz, q_is (q_z f32 hp (Int.toNat v32_4)) zz := ⟨_, rfl⟩
                refine q_iald (lo := 0) (hi := 1000) (n := 10) cx hB hhp khp (by decide) rfl rfl (by omega) (by omega) (by decide) rfl ex269 dX12_nextOf_96 (fun lb270 ub270 => ?_)
                refine q_icge (tgt := 104) cx ⟨by omega, by omega⟩ ⟨by omega, by omega⟩ dX12_nextOf_97 (by decide) (fun c271 => ?_) (fun c271 => ?_)
                · refine q_iinc (lv' := [(5, .int (q_i (v32_5 + 1))), (0, .ref mo), (3, .int (q_i v32_3)), (4, .int (q_i v32_4))]) cx dX12_nextOf_104 hl (k := 3) rfl (by decide) rfl (fun ls hl => ?_)
                  refine lv_goto (tgt := 32) cx.1 cx.2.1 dX12_nextOf_107 (by decide) ?_
                  exact ih32 f32 v32_3 (by omega) (by omega) v32_4 (by omega) (by omega) (v32_5 + 1) (by omega) (by omega) hq_mo_13 hq_mo_24 hgr32 (by omega) H locs hB ls (lv_sub hl [1, 2, 3, 0] rfl)
                · refine lv_iload cx.1 cx.2.1 dX12_nextOf_100 (lv_at hl 3 rfl) ?_
                  refine lv_istore (lv' := [(4, .int (q_i v32_5)), (0, .ref mo), (3, .int (q_i v32_3)), (5, .int (q_i v32_5))]) cx.1 cx.2.1 dX12_nextOf_102 hl (by decide) rfl (fun ls hl => ?_)
                  refine q_iinc (lv' := [(5, .int (q_i (v32_5 + 1))), (4, .int (q_i v32_5)), (0, .ref mo), (3, .int (q_i v32_3))]) cx dX12_nextOf_104 hl (k := 3) rfl (by decide) rfl (fun ls hl => ?_)
                  refine lv_goto (tgt := 32) cx.1 cx.2.1 dX12_nextOf_107 (by decide) ?_
                  exact ih32 f32 v32_3 (by omega) (by omega) v32_5 (by omega) (by omega) (v32_5 + 1) (by omega) (by omega) hq_mo_13 hq_mo_24 hgr32 (by omega) H locs hB ls (lv_sub hl [2, 3, 1, 0] rfl)
            · refine lv_goto (tgt := 104) cx.1 cx.2.1 dX12_nextOf_74 (by decide) ?_
              refine q_iinc (lv' := [(5, .int (q_i (v32_5 + 1))), (0, .ref mo), (3, .int (q_i v32_3)), (4, .int (q_i v32_4))]) cx dX12_nextOf_104 hl (k := 3) rfl (by decide) rfl (fun ls hl => ?_)
              refine lv_goto (tgt := 32) cx.1 cx.2.1 dX12_nextOf_107 (by decide) ?_
              exact ih32 f32 v32_3 (by omega) (by omega) v32_4 (by omega) (by omega) (v32_5 + 1) (by omega) (by omega) hq_mo_13 hq_mo_24 hgr32 (by omega) H locs hB ls (lv_sub hl [1, 2, 3, 0] rfl)
  obtain ⟨H, hH⟩ : ∃ H : Heap, H = s.heap := ⟨_, rfl⟩
  obtain ⟨locs, hlocs⟩ : ∃ z : List Loc, z = [] := ⟨_, rfl⟩
  rw [← hH, ← hlocs] at hB
  rw [← hH, ← hlocs]
  refine q_ild_n cx dX12_nextOf_0 rfl (lv_at hl 1 rfl) ?_
  refine q_ild_n cx dX12_nextOf_1 rfl (lv_at hl 2 rfl) ?_
  refine q_iceq (tgt := 13) cx ⟨by omega, by omega⟩ ⟨by omega, by omega⟩ dX12_nextOf_2 (by decide) (fun c272 => ?_) (fun c272 => ?_)
  · refine q_iconst cx dX12_nextOf_13 ?_
    refine q_iret cx hr hlk hB dX12_nextOf_14 ⟨by decide, by decide⟩ ?_
    exact ⟨(by decide), (by decide)⟩
  · refine q_ald_n cx dX12_nextOf_5 rfl (lv_at hl 0 rfl) ?_
    refine q_ild_n cx dX12_nextOf_6 rfl (lv_at hl 1 rfl) ?_
    refine q_cVi (As := [.int (q_i a0)]) (rest := []) cx hB (fun _ h => h) hN hmo kmo (by decide) rfl (r_isOut l g hN hB.2.1 mo hmo kmo a0 (by omega) (by omega) sr hsr ksr hr0 hgr) q_cX12_271 q_dX12_isOut (by decide) rfl rfl hl.1 rfl (Nat.le_of_ble_eq_true rfl) dX12_nextOf_7 (fun y274 H locs f273 ry274 h275 hF hB => ?_)
    obtain ⟨rfl, ly274, uy274⟩ := h275
    refine q_ifeq (tgt := 15) cx ⟨by omega, by omega⟩ dX12_nextOf_10 (by decide) (fun c276 => ?_) (fun c276 => ?_)
    · refine q_ald_n cx dX12_nextOf_15 rfl (lv_at hl 0 rfl) ?_
      refine q_ild_n cx dX12_nextOf_16 rfl (lv_at hl 2 rfl) ?_
      refine q_cVv (As := [.int (q_i b0)]) (rest := []) cx hB (fun _ h => h) hN hmo kmo (by decide) rfl (r_laysHops l g hN hB.2.1 mo hmo kmo b0 (by omega) (by omega) sr hsr ksr hp hhp khp hr0 hr1 hgr) q_cX12_280 q_dX12_laysHops (by decide) rfl rfl hl.1 rfl (Nat.le_of_ble_eq_true rfl) dX12_nextOf_17 (fun H locs f277 h279 hF hB => ?_)
      have z280 : q_ir (q_r f277 mo 13) sr := Eq.trans (hF.r hmo (by rw [kmo]; rfl)) hr0
      have z281 : q_ir (q_r f277 mo 24) hp := Eq.trans (hF.r hmo (by rw [kmo]; rfl)) hr1
      have g282 : q_gr f277 sr := q_gr_fr hgr (fun i9 _ => hF.z hsr (by rw [ksr]; rfl))
      refine q_ald_n cx dX12_nextOf_20 rfl (lv_at hl 0 rfl) ?_
      refine q_ild_n cx dX12_nextOf_21 rfl (lv_at hl 1 rfl) ?_
      refine q_cVi (As := [.int (q_i a0)]) (rest := []) cx hB (fun _ h => h) hN hmo kmo (by decide) rfl (r_neighbours l g hN hB.2.1 mo hmo kmo a0 (by omega) (by omega) sr hsr ksr z280 g282) q_cX12_265 q_dX12_neighbours (by decide) rfl rfl hl.1 rfl (Nat.le_of_ble_eq_true rfl) dX12_nextOf_22 (fun y284 H locs f283 ry284 h285 hF hB => ?_)
      obtain rfl := h285
      refine lv_istore_n (lv' := [(3, .int (q_i y284)), (0, .ref mo), (1, .int (q_i a0)), (2, .int (q_i b0))]) cx.1 cx.2.1 dX12_nextOf_25 rfl hl (by decide) rfl (fun ls hl => ?_)
      refine q_iconst cx dX12_nextOf_26 ?_
      refine lv_istore (lv' := [(4, .int (q_i (-1))), (3, .int (q_i y284)), (0, .ref mo), (1, .int (q_i a0)), (2, .int (q_i b0))]) cx.1 cx.2.1 dX12_nextOf_27 hl (by decide) rfl (fun ls hl => ?_)
      refine q_iconst cx dX12_nextOf_29 ?_
      refine lv_istore (lv' := [(5, .int (q_i 0)), (4, .int (q_i (-1))), (3, .int (q_i y284)), (0, .ref mo), (1, .int (q_i a0)), (2, .int (q_i b0))]) cx.1 cx.2.1 dX12_nextOf_30 hl (by decide) rfl (fun ls hl => ?_)
      exact J32 ((Int.toNat (2147483647 - 0)) + 1) f277 y284 (by omega) (by omega) (-1) (by decide) (by decide) 0 (by decide) (by decide) z280 z281 g282 (Nat.lt_succ_self _) H locs hB ls (lv_sub hl [3, 2, 1, 0] rfl)
    · refine q_iconst cx dX12_nextOf_13 ?_
      refine q_iret cx hr hlk hB dX12_nextOf_14 ⟨by decide, by decide⟩ ?_
      exact ⟨(by decide), (by decide)⟩
set_option maxHeartbeats 4000000 in
set_option maxRecDepth 100000 in
theorem r_uses1 (l : Launch) (g : q_G) {K : Nat → Nat} {L : List Nat} (hN : L.Nodup) {f : Nat → va_E} (hT : q_Ty g K L f) (mo : Nat) (hmo : mo ∈ L) (kmo : K mo = 12) (a0 : Int) (la0 : 0 ≤ a0) (ua0 : a0 ≤ 9) (b0 : Int) (lb0 : 0 ≤ b0) (ub0 : b0 ≤ 198) (sr : Nat) (hsr : sr ∈ L) (ksr : K sr = 151) (hr0 : q_ir (q_r f mo 13) sr) (hp0 : b0 ≤ q_z f sr (Int.toNat (8 * a0 + 12))) (hgr : q_gr f sr) : q_Ct l g K L yX12_uses cX12_uses 3 none 2 44 [.ref mo, .int (q_i a0), .int (q_i b0)] f [(151, 12, 84)] (q_Pv (fun (f1 : Nat → va_E) => (∀ n : Int, 0 ≤ n → n ≤ 9 → q_z f sr (Int.toNat (8 * n + 12)) - b0 ≤ q_z f1 sr (Int.toNat (8 * n + 12))) ∧ q_gr f1 sr)) := by
  refine q_ofb (by decide +kernel) hN hT (Nat.le_of_ble_eq_true rfl) ?_
  intro p e s m below meth c ls cx hr hlk hB hl
  have hl : lv_has ls 3 [(0, .ref mo), (1, .int (q_i a0)), (2, .int (q_i b0))] := hl
  obtain ⟨H, hH⟩ : ∃ H : Heap, H = s.heap := ⟨_, rfl⟩
  obtain ⟨locs, hlocs⟩ : ∃ z : List Loc, z = [] := ⟨_, rfl⟩
  rw [← hH, ← hlocs] at hB
  rw [← hH, ← hlocs]
  refine q_ald_n cx dX12_uses_0 rfl (lv_at hl 0 rfl) ?_
  refine q_ild_n cx dX12_uses_1 rfl (lv_at hl 1 rfl) ?_
  refine q_iconst cx dX12_uses_2 ?_
  refine q_ald_n cx dX12_uses_3 rfl (lv_at hl 0 rfl) ?_
  refine q_ild_n cx dX12_uses_4 rfl (lv_at hl 1 rfl) ?_
  refine q_iconst cx dX12_uses_5 ?_
  refine q_cVi (As := [.int (q_i a0), .int (q_i 2)]) (rest := [.int (q_i 2), .int (q_i a0), .ref mo]) cx hB (fun _ h => h) hN hmo kmo (by decide) rfl (r_ofNode2 l g hN hB.2.1 mo hmo kmo a0 (by omega) (by omega) 2 (by decide) (by decide) sr hsr ksr hr0 hgr) q_cX12_256 q_dX12_ofNode (by decide) rfl rfl hl.1 rfl (Nat.le_of_ble_eq_true rfl) dX12_uses_6 (fun y13 H locs f12 ry13 h14 hF hB => ?_)
  obtain ⟨rfl, ly13, uy13, t15⟩ := h14
  refine q_ild_n cx dX12_uses_9 rfl (lv_at hl 2 rfl) ?_
  have hk9 : b0 ≤ y13 := by omega
  refine q_isub cx dX12_uses_10 ?_
  refine q_cVv (As := [.int (q_i a0), .int (q_i 2), .int (q_i (y13 - b0))]) (rest := []) cx hB (fun _ h => h) hN hmo kmo (by decide) rfl (r_setsNode2 l g hN hB.2.1 mo hmo kmo a0 (by omega) (by omega) 2 (by decide) (by decide) (y13 - b0) (by omega) (by omega) sr hsr ksr hr0 hgr) q_cX12_202 q_dX12_setsNode (by decide) rfl rfl hl.1 rfl (Nat.le_of_ble_eq_true rfl) dX12_uses_11 (fun H locs f16 h18 hF hB => ?_)
  obtain ⟨t19, t20, g21⟩ := h18
  have z22 : q_ir (q_r f16 mo 13) sr := Eq.trans (hF.r hmo (by rw [kmo]; rfl)) hr0
  refine q_vret cx hr hlk hB dX12_uses_14 ?_
  exact ⟨(k_uses t19 rfl t15 t20 (by omega)), g21⟩
set_option maxHeartbeats 4000000 in
set_option maxRecDepth 100000 in
theorem r_uses2 (l : Launch) (g : q_G) {K : Nat → Nat} {L : List Nat} (hN : L.Nodup) {f : Nat → va_E} (hT : q_Ty g K L f) (mo : Nat) (hmo : mo ∈ L) (kmo : K mo = 12) (a0 : Int) (la0 : 0 ≤ a0) (ua0 : a0 ≤ 9) (b0 : Int) (lb0 : 0 ≤ b0) (ub0 : b0 ≤ 198) (sr : Nat) (hsr : sr ∈ L) (ksr : K sr = 151) (hr0 : q_ir (q_r f mo 13) sr) (hp0 : 0 ≤ q_z f sr (Int.toNat (8 * a0 + 12))) (hgr : q_gr f sr) : q_Ct l g K L yX12_uses cX12_uses 3 none 2 44 [.ref mo, .int (q_i a0), .int (q_i b0)] f [(151, 12, 84)] (q_Pv (fun (f1 : Nat → va_E) => q_gr f1 sr)) := by
  refine q_ofb (by decide +kernel) hN hT (Nat.le_of_ble_eq_true rfl) ?_
  intro p e s m below meth c ls cx hr hlk hB hl
  have hl : lv_has ls 3 [(0, .ref mo), (1, .int (q_i a0)), (2, .int (q_i b0))] := hl
  obtain ⟨H, hH⟩ : ∃ H : Heap, H = s.heap := ⟨_, rfl⟩
  obtain ⟨locs, hlocs⟩ : ∃ z : List Loc, z = [] := ⟨_, rfl⟩
  rw [← hH, ← hlocs] at hB
  rw [← hH, ← hlocs]
  refine q_ald_n cx dX12_uses_0 rfl (lv_at hl 0 rfl) ?_
  refine q_ild_n cx dX12_uses_1 rfl (lv_at hl 1 rfl) ?_
  refine q_iconst cx dX12_uses_2 ?_
  refine q_ald_n cx dX12_uses_3 rfl (lv_at hl 0 rfl) ?_
  refine q_ild_n cx dX12_uses_4 rfl (lv_at hl 1 rfl) ?_
  refine q_iconst cx dX12_uses_5 ?_
  refine q_cVi (As := [.int (q_i a0), .int (q_i 2)]) (rest := [.int (q_i 2), .int (q_i a0), .ref mo]) cx hB (fun _ h => h) hN hmo kmo (by decide) rfl (r_ofNode2 l g hN hB.2.1 mo hmo kmo a0 (by omega) (by omega) 2 (by decide) (by decide) sr hsr ksr hr0 hgr) q_cX12_256 q_dX12_ofNode (by decide) rfl rfl hl.1 rfl (Nat.le_of_ble_eq_true rfl) dX12_uses_6 (fun y13 H locs f12 ry13 h14 hF hB => ?_)
  obtain ⟨rfl, ly13, uy13, t15⟩ := h14
  refine q_ild_n cx dX12_uses_9 rfl (lv_at hl 2 rfl) ?_
  have hk9 : 0 ≤ y13 := by omega
  refine q_isub cx dX12_uses_10 ?_
  refine q_cVv (As := [.int (q_i a0), .int (q_i 2), .int (q_i (y13 - b0))]) (rest := []) cx hB (fun _ h => h) hN hmo kmo (by decide) rfl (r_setsNode2 l g hN hB.2.1 mo hmo kmo a0 (by omega) (by omega) 2 (by decide) (by decide) (y13 - b0) (by omega) (by omega) sr hsr ksr hr0 hgr) q_cX12_202 q_dX12_setsNode (by decide) rfl rfl hl.1 rfl (Nat.le_of_ble_eq_true rfl) dX12_uses_11 (fun H locs f16 h18 hF hB => ?_)
  obtain ⟨t19, t20, g21⟩ := h18
  have z22 : q_ir (q_r f16 mo 13) sr := Eq.trans (hF.r hmo (by rw [kmo]; rfl)) hr0
  refine q_vret cx hr hlk hB dX12_uses_14 ?_
  exact g21
set_option maxHeartbeats 4000000 in
set_option maxRecDepth 100000 in
theorem r_uses3 (l : Launch) (g : q_G) {K : Nat → Nat} {L : List Nat} (hN : L.Nodup) {f : Nat → va_E} (hT : q_Ty g K L f) (mo : Nat) (hmo : mo ∈ L) (kmo : K mo = 12) (a0 : Int) (la0 : 0 ≤ a0) (ua0 : a0 ≤ 9) (b0 : Int) (lb0 : (-198) ≤ b0) (ub0 : b0 ≤ 99) (sr : Nat) (hsr : sr ∈ L) (ksr : K sr = 151) (hr0 : q_ir (q_r f mo 13) sr) (hp0 : b0 ≤ q_z f sr (Int.toNat (8 * a0 + 12))) (hp1 : q_z f sr (Int.toNat (8 * a0 + 12)) - b0 ≤ 9999) (hgr : q_gr f sr) : q_Ct l g K L yX12_uses cX12_uses 3 none 2 44 [.ref mo, .int (q_i a0), .int (q_i b0)] f [(151, 12, 84)] (q_Pv (fun (f1 : Nat → va_E) => q_gr f1 sr)) := by
  refine q_ofb (by decide +kernel) hN hT (Nat.le_of_ble_eq_true rfl) ?_
  intro p e s m below meth c ls cx hr hlk hB hl
  have hl : lv_has ls 3 [(0, .ref mo), (1, .int (q_i a0)), (2, .int (q_i b0))] := hl
  obtain ⟨H, hH⟩ : ∃ H : Heap, H = s.heap := ⟨_, rfl⟩
  obtain ⟨locs, hlocs⟩ : ∃ z : List Loc, z = [] := ⟨_, rfl⟩
  rw [← hH, ← hlocs] at hB
  rw [← hH, ← hlocs]
  refine q_ald_n cx dX12_uses_0 rfl (lv_at hl 0 rfl) ?_
  refine q_ild_n cx dX12_uses_1 rfl (lv_at hl 1 rfl) ?_
  refine q_iconst cx dX12_uses_2 ?_
  refine q_ald_n cx dX12_uses_3 rfl (lv_at hl 0 rfl) ?_
  refine q_ild_n cx dX12_uses_4 rfl (lv_at hl 1 rfl) ?_
  refine q_iconst cx dX12_uses_5 ?_
  refine q_cVi (As := [.int (q_i a0), .int (q_i 2)]) (rest := [.int (q_i 2), .int (q_i a0), .ref mo]) cx hB (fun _ h => h) hN hmo kmo (by decide) rfl (r_ofNode2 l g hN hB.2.1 mo hmo kmo a0 (by omega) (by omega) 2 (by decide) (by decide) sr hsr ksr hr0 hgr) q_cX12_256 q_dX12_ofNode (by decide) rfl rfl hl.1 rfl (Nat.le_of_ble_eq_true rfl) dX12_uses_6 (fun y13 H locs f12 ry13 h14 hF hB => ?_)
  obtain ⟨rfl, ly13, uy13, t15⟩ := h14
  refine q_ild_n cx dX12_uses_9 rfl (lv_at hl 2 rfl) ?_
  have hk9 : 0 ≤ y13 - b0 ∧ y13 - b0 ≤ 9999 := by omega
  refine q_isub cx dX12_uses_10 ?_
  refine q_cVv (As := [.int (q_i a0), .int (q_i 2), .int (q_i (y13 - b0))]) (rest := []) cx hB (fun _ h => h) hN hmo kmo (by decide) rfl (r_setsNode2 l g hN hB.2.1 mo hmo kmo a0 (by omega) (by omega) 2 (by decide) (by decide) (y13 - b0) (by omega) (by omega) sr hsr ksr hr0 hgr) q_cX12_202 q_dX12_setsNode (by decide) rfl rfl hl.1 rfl (Nat.le_of_ble_eq_true rfl) dX12_uses_11 (fun H locs f16 h18 hF hB => ?_)
  obtain ⟨t19, t20, g21⟩ := h18
  have z22 : q_ir (q_r f16 mo 13) sr := Eq.trans (hF.r hmo (by rw [kmo]; rfl)) hr0
  refine q_vret cx hr hlk hB dX12_uses_14 ?_
  exact g21
set_option maxHeartbeats 4000000 in
set_option maxRecDepth 100000 in
theorem r_wakes (l : Launch) (g : q_G) {K : Nat → Nat} {L : List Nat} (hN : L.Nodup) {f : Nat → va_E} (hT : q_Ty g K L f) (mo : Nat) (hmo : mo ∈ L) (kmo : K mo = 12) (sr : Nat) (hsr : sr ∈ L) (ksr : K sr = 151) (dy : Nat) (hdy : dy ∈ L) (kdy : K dy = 160) (hr0 : q_ir (q_r f mo 13) sr) (hr1 : q_ir (q_r f mo 25) dy) (hgr : q_gr f sr) : q_Ct l g K L yX12_wakes cX12_wakes 3 none 6 135 [.ref mo] f [(12, 26, 26), (151, 12, 85), (160, 0, 9)] (q_Pv (fun (f1 : Nat → va_E) => q_gr f1 sr)) := by
  refine q_ofb (by decide +kernel) hN hT (Nat.le_of_ble_eq_true rfl) ?_
  intro p e s m below meth c ls cx hr hlk hB hl
  have hl : lv_has ls 3 [(0, .ref mo)] := hl
  have J13 : ∀ (n : Nat) (f13 : Nat → va_E) (v13_1 : Int) (lv13_1 : (-2147483648) ≤ v13_1) (uv13_1 : v13_1 ≤ 2147483647) (v13_2 : Int) (lv13_2 : 0 ≤ v13_2) (uv13_2 : v13_2 ≤ 10) (hq_mo_13 : q_ir (q_r f13 mo 13) sr) (hq_mo_25 : q_ir (q_r f13 mo 25) dy) (hgr13 : q_gr f13 sr) (hmu : (Int.toNat (2147483647 - v13_2)) < n) (H : Heap) (locs : List Loc) (hB : q_B g K L (fun q => q ∈ L) [(12, 26, 26), (151, 12, 85), (160, 0, 9)] f f13 s H locs) (ls : Array Slot) (hl : lv_has ls 3 [(0, .ref mo), (1, .int (q_i v13_1)), (2, .int (q_i v13_2))]), W p l e { frames := 6, cells := 0, slots := 0, locals := 135 } s m ([.ref mo] : List Value).toArray below meth c H locs 0 0 (MQ below (q_Q g K L [(12, 26, 26), (151, 12, 85), (160, 0, 9)] f (q_Pv (fun (f1 : Nat → va_E) => q_gr f1 sr))) ([.ref mo] : List Value).toArray s 0 0 (fun q => q ∈ L)) (F0 m 13 ls []) := by
    intro n
    induction n with
    | zero =>
      intro f13 v13_1 lv13_1 uv13_1 v13_2 lv13_2 uv13_2 hq_mo_13 hq_mo_25 hgr13 hmu
      exact absurd hmu (Nat.not_lt_zero _)
    | succ n ih13 =>
      intro f13 v13_1 lv13_1 uv13_1 v13_2 lv13_2 uv13_2 hq_mo_13 hq_mo_25 hgr13 hmu H locs hB ls hl
      refine q_ild_n cx dX12_wakes_13 rfl (lv_at hl 2 rfl) ?_
      refine q_ald_n cx dX12_wakes_14 rfl (lv_at hl 0 rfl) ?_
      refine q_gX12_20 cx hB hmo kmo hq_mo_13 dX12_wakes_15 (fun hb1069 kb1069 => ?_)
      refine q_iconst cx dX12_wakes_18 ?_
      obtain ⟨x1070, ex1070⟩ : ∃ zz, q_is (q_z f13 sr (Int.toNat 0)) zz := ⟨_, rfl⟩
      refine q_iald (lo := 0) (hi := 10) (n := 658) cx hB hsr ksr (by decide) rfl rfl (by decide) (by decide) (by decide) rfl ex1070 dX12_wakes_19 (fun lb1071 ub1071 => ?_)
      refine q_icge (tgt := 108) cx ⟨by omega, by omega⟩ ⟨by omega, by omega⟩ dX12_wakes_20 (by decide) (fun c1072 => ?_) (fun c1072 => ?_)
      · refine q_vret cx hr hlk hB dX12_wakes_108 ?_
        exact hgr13
      · refine q_ald_n cx dX12_wakes_23 rfl (lv_at hl 0 rfl) ?_
        refine q_gX12_48 cx hB hmo kmo hq_mo_25 dX12_wakes_24 (fun hb1073 kb1073 => ?_)
        refine q_ild_n cx dX12_wakes_27 rfl (lv_at hl 2 rfl) ?_
        refine q_ald_n cx dX12_wakes_28 rfl (lv_at hl 0 rfl) ?_
        refine q_ild_n cx dX12_wakes_29 rfl (lv_at hl 2 rfl) ?_
        refine q_cVi (As := [.int (q_i v13_2)]) (rest := [.int (q_i v13_2), .ref dy]) cx hB (fun _ h => h) hN hmo kmo (by decide) rfl (r_dayOf l g hN hB.2.1 mo hmo kmo v13_2 (by omega) (by omega) sr hsr ksr hq_mo_13 hgr13) q_cX12_289 q_dX12_dayOf (by decide) rfl rfl hl.1 rfl (Nat.le_of_ble_eq_true rfl) dX12_wakes_30 (fun y1075 H locs f1074 ry1075 h1076 hF hB => ?_)
        obtain ⟨rfl, ly1075, uy1075⟩ := h1076
        refine q_iast (lo := 0) (hi := 59) (n := 10) cx hB hdy kdy (by decide) rfl rfl (by omega) (by omega) (by decide) rfl ⟨by omega, by omega⟩ (by omega) (by omega) (q_inWi (lo := 0) (hi := 9) (by decide) (by omega) (by omega)) dX12_wakes_33 (fun H locs f1077 ef1077 z1078 hB => ?_)
        have z1079 : q_is (q_z f1077 sr 0) x1070 := by rw [ef1077, q_setz (Or.inl (fun q => by rw [q, kdy] at ksr; exact absurd ksr (by decide)))]; exact ex1070
        have z1080 : q_ir (q_r f1077 mo 13) sr := by rw [ef1077, q_setr (Or.inl (fun q => by rw [q, kdy] at kmo; exact absurd kmo (by decide)))]; exact hq_mo_13
        have z1081 : q_ir (q_r f1077 mo 25) dy := by rw [ef1077, q_setr (Or.inl (fun q => by rw [q, kdy] at kmo; exact absurd kmo (by decide)))]; exact hq_mo_25
        have g1082 : q_gr f1077 sr := q_gr_ne hgr13 ef1077 (fun q => q_kne (k := 151) (k2 := 160) (by decide) ksr kdy q)
        refine q_ild_n cx dX12_wakes_34 rfl (lv_at hl 1 rfl) ?_
        refine q_ild_n cx dX12_wakes_35 rfl (lv_at hl 2 rfl) ?_
        refine q_cSi (As := [.int (q_i v13_1), .int (q_i v13_2)]) (rest := []) cx hB (fun _ h => h) hN (r_has l g hN hB.2.1 v13_1 (by omega) (by omega) v13_2 (by omega) (by omega)) q_cX12_185 q_dX12_has (by decide) rfl rfl hl.1 rfl (Nat.le_of_ble_eq_true rfl) dX12_wakes_36 (fun y1084 H locs f1083 ry1084 h1085 hF hB => ?_)
        obtain ⟨rfl, ly1084, uy1084⟩ := h1085
        refine q_ifne (tgt := 45) cx ⟨by omega, by omega⟩ dX12_wakes_39 (by decide) (fun c1086 => ?_) (fun c1086 => ?_)
        · refine q_ald_n cx dX12_wakes_45 rfl (lv_at hl 0 rfl) ?_
          refine q_ild_n cx dX12_wakes_46 rfl (lv_at hl 2 rfl) ?_
          refine q_ald_n cx dX12_wakes_47 rfl (lv_at hl 0 rfl) ?_
          refine q_gX12_20 cx hB hmo kmo z1080 dX12_wakes_48 (fun hb1087 kb1087 => ?_)
          refine q_iconst cx dX12_wakes_51 ?_
          obtain ⟨x1088, ex1088⟩ : ∃ zz, q_is (q_z f1077 sr (Int.toNat 5)) zz := ⟨_, rfl⟩
          refine q_sald cx hB hsr ksr (by decide) (by decide) ex1088 dX12_wakes_52 (fun rx1088 => ?_)
          obtain ⟨lx1088, ux1088⟩ : 0 ≤ x1088 ∧ x1088 ≤ 99 := q_isb ex1088 (q_gr_at g1082 (by decide) rfl)
          refine q_ald_n cx dX12_wakes_53 rfl (lv_at hl 0 rfl) ?_
          refine q_ild_n cx dX12_wakes_54 rfl (lv_at hl 2 rfl) ?_
          refine q_iconst cx dX12_wakes_55 ?_
          refine q_cVi (As := [.int (q_i v13_2), .int (q_i 2)]) (rest := [.int (q_i x1088), .int (q_i v13_2), .ref mo]) cx hB (fun _ h => h) hN hmo kmo (by decide) rfl (r_ofNode2 l g hN hB.2.1 mo hmo kmo v13_2 (by omega) (by omega) 2 (by decide) (by decide) sr hsr ksr z1080 g1082) q_cX12_256 q_dX12_ofNode (by decide) rfl rfl hl.1 rfl (Nat.le_of_ble_eq_true rfl) dX12_wakes_56 (fun y1091 H locs f1090 ry1091 h1092 hF hB => ?_)
          obtain ⟨rfl, ly1091, uy1091, t1093⟩ := h1092
          refine q_cSi (As := [.int (q_i x1088), .int (q_i y1091)]) (rest := [.int (q_i v13_2), .ref mo]) cx hB (fun _ h => h) hN (r_lesser l g hN hB.2.1 x1088 (by omega) (by omega) y1091 (by omega) (by omega)) q_cX12_292 q_dX12_lesser (by decide) rfl rfl hl.1 rfl (Nat.le_of_ble_eq_true rfl) dX12_wakes_59 (fun y1095 H locs f1094 ry1095 h1096 hF hB => ?_)
          rcases h1096 with h1097 | h1098
          · obtain ⟨rfl, qy1095, t1099⟩ := h1097
            refine q_cVv (As := [.int (q_i v13_2), .int (q_i y1095)]) (rest := []) cx hB (fun _ h => h) hN hmo kmo (by decide) rfl (r_uses3 l g hN hB.2.1 mo hmo kmo v13_2 (by omega) (by omega) y1095 (by omega) (by omega) sr hsr ksr z1080 (by omega) (by omega) g1082) q_cX12_295 q_dX12_uses (by decide) rfl rfl hl.1 rfl (Nat.le_of_ble_eq_true rfl) dX12_wakes_62 (fun H locs f1100 h1102 hF hB => ?_)
            have g1103 := h1102
            have z1104 : q_is (q_z f1100 sr 0) x1070 := Eq.trans (hF.z hsr (by rw [ksr]; rfl)) z1079
            have z1105 : q_is (q_z f1100 sr 5) x1088 := Eq.trans (hF.z hsr (by rw [ksr]; rfl)) ex1088
            have z1106 : q_ir (q_r f1100 mo 13) sr := Eq.trans (hF.r hmo (by rw [kmo]; rfl)) z1080
            have z1107 : q_ir (q_r f1100 mo 25) dy := Eq.trans (hF.r hmo (by rw [kmo]; rfl)) z1081
            refine q_ald_n cx dX12_wakes_65 rfl (lv_at hl 0 rfl) ?_
            refine q_ild_n cx dX12_wakes_66 rfl (lv_at hl 2 rfl) ?_
            refine q_cVi (As := [.int (q_i v13_2)]) (rest := []) cx hB (fun _ h => h) hN hmo kmo (by decide) rfl (r_isOut l g hN hB.2.1 mo hmo kmo v13_2 (by omega) (by omega) sr hsr ksr z1106 g1103) q_cX12_271 q_dX12_isOut (by decide) rfl rfl hl.1 rfl (Nat.le_of_ble_eq_true rfl) dX12_wakes_67 (fun y1109 H locs f1108 ry1109 h1110 hF hB => ?_)
            obtain ⟨rfl, ly1109, uy1109⟩ := h1110
            refine q_ifeq (tgt := 76) cx ⟨by omega, by omega⟩ dX12_wakes_70 (by decide) (fun c1111 => ?_) (fun c1111 => ?_)
            · refine q_ald_n cx dX12_wakes_76 rfl (lv_at hl 0 rfl) ?_
              refine lv_dup cx.1 cx.2.1 dX12_wakes_77 rfl ?_
              obtain ⟨x1112, ex1112⟩ : ∃ zz, q_is (q_z f1100 mo 26) zz := ⟨_, rfl⟩
              refine q_gX12_283 cx hB hmo kmo ex1112 dX12_wakes_78 (fun lb1113 ub1113 => ?_)
              refine q_iconst cx dX12_wakes_81 ?_
              refine q_ild_n cx dX12_wakes_82 rfl (lv_at hl 2 rfl) ?_
              refine q_ishl cx dX12_wakes_83 (fun y1114 ry1114 ey1114 => ?_)
              refine q_ior cx dX12_wakes_84 (fun y1115 ry1115 ey1115 => ?_)
              refine q_pX12_283 cx hB hmo kmo ⟨by omega, by omega⟩ (by omega) (by omega) rfl dX12_wakes_85 (fun H locs f1116 ef1116 z1117 hB => ?_)
              have z1118 : q_is (q_z f1116 sr 0) x1070 := by rw [ef1116, q_setz (Or.inr (by decide))]; exact z1104
              have z1119 : q_is (q_z f1116 sr 5) x1088 := by rw [ef1116, q_setz (Or.inr (by decide))]; exact z1105
              have z1120 : q_ir (q_r f1116 mo 13) sr := by rw [ef1116, q_setr (Or.inr (by decide))]; exact z1106
              have z1121 : q_ir (q_r f1116 mo 25) dy := by rw [ef1116, q_setr (Or.inr (by decide))]; exact z1107
              have g1122 : q_gr f1116 sr := q_gr_ne g1103 ef1116 (fun q => q_kne (k := 151) (k2 := 12) (by decide) ksr kmo q)
              refine q_ald_n cx dX12_wakes_88 rfl (lv_at hl 0 rfl) ?_
              refine q_ild_n cx dX12_wakes_89 rfl (lv_at hl 2 rfl) ?_
              refine q_iconst cx dX12_wakes_90 ?_
              refine q_ald_n cx dX12_wakes_91 rfl (lv_at hl 0 rfl) ?_
              refine q_ild_n cx dX12_wakes_92 rfl (lv_at hl 2 rfl) ?_
              refine q_iconst cx dX12_wakes_93 ?_
              refine q_cVi (As := [.int (q_i v13_2), .int (q_i 3)]) (rest := [.int (q_i 3), .int (q_i v13_2), .ref mo]) cx hB (fun _ h => h) hN hmo kmo (by decide) rfl (r_ofNode3 l g hN hB.2.1 mo hmo kmo v13_2 (by omega) (by omega) 3 (by decide) (by decide) sr hsr ksr z1120 g1122) q_cX12_256 q_dX12_ofNode (by decide) rfl rfl hl.1 rfl (Nat.le_of_ble_eq_true rfl) dX12_wakes_94 (fun y1124 H locs f1123 ry1124 h1125 hF hB => ?_)
              obtain ⟨rfl, t1126⟩ := h1125
              refine q_iconst cx dX12_wakes_97 ?_
              refine q_iadd cx dX12_wakes_98 ?_
              refine q_any (fun y1127 ry1127 ey1127 => ?_)
              refine q_cVv (As := [.int (q_i v13_2), .int (q_i 3), .int (q_i y1127)]) (rest := []) cx hB (fun _ h => h) hN hmo kmo (by decide) rfl (r_setsNode3 l g hN hB.2.1 mo hmo kmo v13_2 (by omega) (by omega) 3 (by decide) (by decide) y1127 (by omega) (by omega) sr hsr ksr z1120 g1122) q_cX12_202 q_dX12_setsNode (by decide) rfl rfl hl.1 rfl (Nat.le_of_ble_eq_true rfl) dX12_wakes_99 (fun H locs f1128 h1130 hF hB => ?_)
              have g1131 := h1130
              have z1132 : q_is (q_z f1128 sr 0) x1070 := Eq.trans (hF.z hsr (by rw [ksr]; rfl)) z1118
              have z1133 : q_is (q_z f1128 sr 5) x1088 := Eq.trans (hF.z hsr (by rw [ksr]; rfl)) z1119
              have z1134 : q_is (q_z f1128 mo 26) y1115 := Eq.trans (hF.z hmo (by rw [kmo]; rfl)) z1117
              have z1135 : q_ir (q_r f1128 mo 13) sr := Eq.trans (hF.r hmo (by rw [kmo]; rfl)) z1120
              have z1136 : q_ir (q_r f1128 mo 25) dy := Eq.trans (hF.r hmo (by rw [kmo]; rfl)) z1121
              refine q_iinc (lv' := [(2, .int (q_i (v13_2 + 1))), (0, .ref mo), (1, .int (q_i v13_1))]) cx dX12_wakes_102 hl (k := 2) rfl (by decide) rfl (fun ls hl => ?_)
              refine lv_goto (tgt := 13) cx.1 cx.2.1 dX12_wakes_105 (by decide) ?_
              exact ih13 f1128 v13_1 (by omega) (by omega) (v13_2 + 1) (by omega) (by omega) z1135 z1136 g1131 (by omega) H locs hB ls (lv_sub hl [1, 2, 0] rfl)
            · refine lv_goto (tgt := 102) cx.1 cx.2.1 dX12_wakes_73 (by decide) ?_
              refine q_iinc (lv' := [(2, .int (q_i (v13_2 + 1))), (0, .ref mo), (1, .int (q_i v13_1))]) cx dX12_wakes_102 hl (k := 2) rfl (by decide) rfl (fun ls hl => ?_)
              refine lv_goto (tgt := 13) cx.1 cx.2.1 dX12_wakes_105 (by decide) ?_
              exact ih13 f1100 v13_1 (by omega) (by omega) (v13_2 + 1) (by omega) (by omega) z1106 z1107 g1103 (by omega) H locs hB ls (lv_sub hl [1, 2, 0] rfl)
          · obtain ⟨rfl, qy1095, t1137⟩ := h1098
            refine q_cVv (As := [.int (q_i v13_2), .int (q_i y1095)]) (rest := []) cx hB (fun _ h => h) hN hmo kmo (by decide) rfl (r_uses3 l g hN hB.2.1 mo hmo kmo v13_2 (by omega) (by omega) y1095 (by omega) (by omega) sr hsr ksr z1080 (by omega) (by omega) g1082) q_cX12_295 q_dX12_uses (by decide) rfl rfl hl.1 rfl (Nat.le_of_ble_eq_true rfl) dX12_wakes_62 (fun H locs f1138 h1140 hF hB => ?_)
            have g1141 := h1140
            have z1142 : q_is (q_z f1138 sr 0) x1070 := Eq.trans (hF.z hsr (by rw [ksr]; rfl)) z1079
            have z1143 : q_is (q_z f1138 sr 5) x1088 := Eq.trans (hF.z hsr (by rw [ksr]; rfl)) ex1088
            have z1144 : q_ir (q_r f1138 mo 13) sr := Eq.trans (hF.r hmo (by rw [kmo]; rfl)) z1080
            have z1145 : q_ir (q_r f1138 mo 25) dy := Eq.trans (hF.r hmo (by rw [kmo]; rfl)) z1081
            refine q_ald_n cx dX12_wakes_65 rfl (lv_at hl 0 rfl) ?_
            refine q_ild_n cx dX12_wakes_66 rfl (lv_at hl 2 rfl) ?_
            refine q_cVi (As := [.int (q_i v13_2)]) (rest := []) cx hB (fun _ h => h) hN hmo kmo (by decide) rfl (r_isOut l g hN hB.2.1 mo hmo kmo v13_2 (by omega) (by omega) sr hsr ksr z1144 g1141) q_cX12_271 q_dX12_isOut (by decide) rfl rfl hl.1 rfl (Nat.le_of_ble_eq_true rfl) dX12_wakes_67 (fun y1147 H locs f1146 ry1147 h1148 hF hB => ?_)
            obtain ⟨rfl, ly1147, uy1147⟩ := h1148
            refine q_ifeq (tgt := 76) cx ⟨by omega, by omega⟩ dX12_wakes_70 (by decide) (fun c1149 => ?_) (fun c1149 => ?_)
            · refine q_ald_n cx dX12_wakes_76 rfl (lv_at hl 0 rfl) ?_
              refine lv_dup cx.1 cx.2.1 dX12_wakes_77 rfl ?_
              obtain ⟨x1150, ex1150⟩ : ∃ zz, q_is (q_z f1138 mo 26) zz := ⟨_, rfl⟩
              refine q_gX12_283 cx hB hmo kmo ex1150 dX12_wakes_78 (fun lb1151 ub1151 => ?_)
              refine q_iconst cx dX12_wakes_81 ?_
              refine q_ild_n cx dX12_wakes_82 rfl (lv_at hl 2 rfl) ?_
              refine q_ishl cx dX12_wakes_83 (fun y1152 ry1152 ey1152 => ?_)
              refine q_ior cx dX12_wakes_84 (fun y1153 ry1153 ey1153 => ?_)
              refine q_pX12_283 cx hB hmo kmo ⟨by omega, by omega⟩ (by omega) (by omega) rfl dX12_wakes_85 (fun H locs f1154 ef1154 z1155 hB => ?_)
              have z1156 : q_is (q_z f1154 sr 0) x1070 := by rw [ef1154, q_setz (Or.inr (by decide))]; exact z1142
              have z1157 : q_is (q_z f1154 sr 5) x1088 := by rw [ef1154, q_setz (Or.inr (by decide))]; exact z1143
              have z1158 : q_ir (q_r f1154 mo 13) sr := by rw [ef1154, q_setr (Or.inr (by decide))]; exact z1144
              have z1159 : q_ir (q_r f1154 mo 25) dy := by rw [ef1154, q_setr (Or.inr (by decide))]; exact z1145
              have g1160 : q_gr f1154 sr := q_gr_ne g1141 ef1154 (fun q => q_kne (k := 151) (k2 := 12) (by decide) ksr kmo q)
              refine q_ald_n cx dX12_wakes_88 rfl (lv_at hl 0 rfl) ?_
              refine q_ild_n cx dX12_wakes_89 rfl (lv_at hl 2 rfl) ?_
              refine q_iconst cx dX12_wakes_90 ?_
              refine q_ald_n cx dX12_wakes_91 rfl (lv_at hl 0 rfl) ?_
              refine q_ild_n cx dX12_wakes_92 rfl (lv_at hl 2 rfl) ?_
              refine q_iconst cx dX12_wakes_93 ?_
              refine q_cVi (As := [.int (q_i v13_2), .int (q_i 3)]) (rest := [.int (q_i 3), .int (q_i v13_2), .ref mo]) cx hB (fun _ h => h) hN hmo kmo (by decide) rfl (r_ofNode3 l g hN hB.2.1 mo hmo kmo v13_2 (by omega) (by omega) 3 (by decide) (by decide) sr hsr ksr z1158 g1160) q_cX12_256 q_dX12_ofNode (by decide) rfl rfl hl.1 rfl (Nat.le_of_ble_eq_true rfl) dX12_wakes_94 (fun y1162 H locs f1161 ry1162 h1163 hF hB => ?_)
              obtain ⟨rfl, t1164⟩ := h1163
              refine q_iconst cx dX12_wakes_97 ?_
              refine q_iadd cx dX12_wakes_98 ?_
              refine q_any (fun y1165 ry1165 ey1165 => ?_)
              refine q_cVv (As := [.int (q_i v13_2), .int (q_i 3), .int (q_i y1165)]) (rest := []) cx hB (fun _ h => h) hN hmo kmo (by decide) rfl (r_setsNode3 l g hN hB.2.1 mo hmo kmo v13_2 (by omega) (by omega) 3 (by decide) (by decide) y1165 (by omega) (by omega) sr hsr ksr z1158 g1160) q_cX12_202 q_dX12_setsNode (by decide) rfl rfl hl.1 rfl (Nat.le_of_ble_eq_true rfl) dX12_wakes_99 (fun H locs f1166 h1168 hF hB => ?_)
              have g1169 := h1168
              have z1170 : q_is (q_z f1166 sr 0) x1070 := Eq.trans (hF.z hsr (by rw [ksr]; rfl)) z1156
              have z1171 : q_is (q_z f1166 sr 5) x1088 := Eq.trans (hF.z hsr (by rw [ksr]; rfl)) z1157
              have z1172 : q_is (q_z f1166 mo 26) y1153 := Eq.trans (hF.z hmo (by rw [kmo]; rfl)) z1155
              have z1173 : q_ir (q_r f1166 mo 13) sr := Eq.trans (hF.r hmo (by rw [kmo]; rfl)) z1158
              have z1174 : q_ir (q_r f1166 mo 25) dy := Eq.trans (hF.r hmo (by rw [kmo]; rfl)) z1159
              refine q_iinc (lv' := [(2, .int (q_i (v13_2 + 1))), (0, .ref mo), (1, .int (q_i v13_1))]) cx dX12_wakes_102 hl (k := 2) rfl (by decide) rfl (fun ls hl => ?_)
              refine lv_goto (tgt := 13) cx.1 cx.2.1 dX12_wakes_105 (by decide) ?_
              exact ih13 f1166 v13_1 (by omega) (by omega) (v13_2 + 1) (by omega) (by omega) z1173 z1174 g1169 (by omega) H locs hB ls (lv_sub hl [1, 2, 0] rfl)
            · refine lv_goto (tgt := 102) cx.1 cx.2.1 dX12_wakes_73 (by decide) ?_
              refine q_iinc (lv' := [(2, .int (q_i (v13_2 + 1))), (0, .ref mo), (1, .int (q_i v13_1))]) cx dX12_wakes_102 hl (k := 2) rfl (by decide) rfl (fun ls hl => ?_)
              refine lv_goto (tgt := 13) cx.1 cx.2.1 dX12_wakes_105 (by decide) ?_
              exact ih13 f1138 v13_1 (by omega) (by omega) (v13_2 + 1) (by omega) (by omega) z1144 z1145 g1141 (by omega) H locs hB ls (lv_sub hl [1, 2, 0] rfl)
        · refine lv_goto (tgt := 102) cx.1 cx.2.1 dX12_wakes_42 (by decide) ?_
          refine q_iinc (lv' := [(2, .int (q_i (v13_2 + 1))), (0, .ref mo), (1, .int (q_i v13_1))]) cx dX12_wakes_102 hl (k := 2) rfl (by decide) rfl (fun ls hl => ?_)
          refine lv_goto (tgt := 13) cx.1 cx.2.1 dX12_wakes_105 (by decide) ?_
          exact ih13 f1077 v13_1 (by omega) (by omega) (v13_2 + 1) (by omega) (by omega) z1080 z1081 g1082 (by omega) H locs hB ls (lv_sub hl [1, 2, 0] rfl)
  obtain ⟨H, hH⟩ : ∃ H : Heap, H = s.heap := ⟨_, rfl⟩
  obtain ⟨locs, hlocs⟩ : ∃ z : List Loc, z = [] := ⟨_, rfl⟩
  rw [← hH, ← hlocs] at hB
  rw [← hH, ← hlocs]
  refine q_ald_n cx dX12_wakes_0 rfl (lv_at hl 0 rfl) ?_
  refine q_iconst cx dX12_wakes_1 ?_
  refine q_pX12_283 cx hB hmo kmo ⟨by decide, by decide⟩ (by decide) (by decide) rfl dX12_wakes_2 (fun H locs f1175 ef1175 z1176 hB => ?_)
  have z1177 : q_ir (q_r f1175 mo 13) sr := by rw [ef1175, q_setr (Or.inr (by decide))]; exact hr0
  have z1178 : q_ir (q_r f1175 mo 25) dy := by rw [ef1175, q_setr (Or.inr (by decide))]; exact hr1
  have g1179 : q_gr f1175 sr := q_gr_ne hgr ef1175 (fun q => q_kne (k := 151) (k2 := 12) (by decide) ksr kmo q)
  refine q_ald_n cx dX12_wakes_5 rfl (lv_at hl 0 rfl) ?_
  refine q_iconst cx dX12_wakes_6 ?_
  refine q_cVi (As := [.int (q_i 0)]) (rest := []) cx hB (fun _ h => h) hN hmo kmo (by decide) rfl (r_awakeSet l g hN hB.2.1 mo hmo kmo 0 (by decide) (by decide) sr hsr ksr z1177 g1179) q_cX12_286 q_dX12_awakeSet (by decide) rfl rfl hl.1 rfl (Nat.le_of_ble_eq_true rfl) dX12_wakes_7 (fun y1181 H locs f1180 ry1181 h1182 hF hB => ?_)
  obtain rfl := h1182
  refine lv_istore_n (lv' := [(1, .int (q_i y1181)), (0, .ref mo)]) cx.1 cx.2.1 dX12_wakes_10 rfl hl (by decide) rfl (fun ls hl => ?_)
  refine q_iconst cx dX12_wakes_11 ?_
  refine lv_istore_n (lv' := [(2, .int (q_i 0)), (1, .int (q_i y1181)), (0, .ref mo)]) cx.1 cx.2.1 dX12_wakes_12 rfl hl (by decide) rfl (fun ls hl => ?_)
  exact J13 ((Int.toNat (2147483647 - 0)) + 1) f1175 y1181 (by omega) (by omega) 0 (by decide) (by decide) z1177 z1178 g1179 (Nat.lt_succ_self _) H locs hB ls (lv_sub hl [2, 1, 0] rfl)
set_option maxHeartbeats 4000000 in
set_option maxRecDepth 100000 in
theorem r_meets (l : Launch) (g : q_G) {K : Nat → Nat} {L : List Nat} (hN : L.Nodup) {f : Nat → va_E} (hT : q_Ty g K L f) (mo : Nat) (hmo : mo ∈ L) (kmo : K mo = 12) (a0 : Int) (la0 : 0 ≤ a0) (ua0 : a0 ≤ 15) (sr : Nat) (hsr : sr ∈ L) (ksr : K sr = 151) (hr0 : q_ir (q_r f mo 13) sr) (hgr : q_gr f sr) : q_Ct l g K L yX12_meets cX12_meets 2 none 1 23 [.ref mo, .int (q_i a0)] f [(151, 92, 168)] (q_Pv (fun (f1 : Nat → va_E) => q_gr f1 sr)) := by
  refine q_ofb (by decide +kernel) hN hT (Nat.le_of_ble_eq_true rfl) ?_
  intro p e s m below meth c ls cx hr hlk hB hl
  have hl : lv_has ls 2 [(0, .ref mo), (1, .int (q_i a0))] := hl
  obtain ⟨H, hH⟩ : ∃ H : Heap, H = s.heap := ⟨_, rfl⟩
  obtain ⟨locs, hlocs⟩ : ∃ z : List Loc, z = [] := ⟨_, rfl⟩
  rw [← hH, ← hlocs] at hB
  rw [← hH, ← hlocs]
  refine q_ald_n cx dX12_meets_0 rfl (lv_at hl 0 rfl) ?_
  refine q_ild_n cx dX12_meets_1 rfl (lv_at hl 1 rfl) ?_
  refine q_iconst cx dX12_meets_2 ?_
  refine q_ald_n cx dX12_meets_3 rfl (lv_at hl 0 rfl) ?_
  refine q_ild_n cx dX12_meets_4 rfl (lv_at hl 1 rfl) ?_
  refine q_iconst cx dX12_meets_5 ?_
  refine q_cVi (As := [.int (q_i a0), .int (q_i 3)]) (rest := [.int (q_i 3), .int (q_i a0), .ref mo]) cx hB (fun _ h => h) hN hmo kmo (by decide) rfl (r_ofLink3 l g hN hB.2.1 mo hmo kmo a0 (by omega) (by omega) 3 (by decide) (by decide) sr hsr ksr hr0 hgr) q_cX12_210 q_dX12_ofLink (by decide) rfl rfl hl.1 rfl (Nat.le_of_ble_eq_true rfl) dX12_meets_6 (fun y16 H locs f15 ry16 h17 hF hB => ?_)
  obtain rfl := h17
  refine q_iconst cx dX12_meets_9 ?_
  refine q_iadd cx dX12_meets_10 ?_
  refine q_any (fun y18 ry18 ey18 => ?_)
  refine q_cVv (As := [.int (q_i a0), .int (q_i 3), .int (q_i y18)]) (rest := []) cx hB (fun _ h => h) hN hmo kmo (by decide) rfl (r_setsLink3 l g hN hB.2.1 mo hmo kmo a0 (by omega) (by omega) 3 (by decide) (by decide) y18 (by omega) (by omega) sr hsr ksr hr0 hgr) q_cX12_219 q_dX12_setsLink (by decide) rfl rfl hl.1 rfl (Nat.le_of_ble_eq_true rfl) dX12_meets_11 (fun H locs f19 h21 hF hB => ?_)
  have g22 := h21
  have z23 : q_ir (q_r f19 mo 13) sr := Eq.trans (hF.r hmo (by rw [kmo]; rfl)) hr0
  refine q_ald_n cx dX12_meets_14 rfl (lv_at hl 0 rfl) ?_
  refine q_ild_n cx dX12_meets_15 rfl (lv_at hl 1 rfl) ?_
  refine q_iconst cx dX12_meets_16 ?_
  refine q_iconst cx dX12_meets_17 ?_
  refine q_cVv (As := [.int (q_i a0), .int (q_i 2), .int (q_i 0)]) (rest := []) cx hB (fun _ h => h) hN hmo kmo (by decide) rfl (r_setsLink2 l g hN hB.2.1 mo hmo kmo a0 (by omega) (by omega) 2 (by decide) (by decide) 0 (by decide) (by decide) sr hsr ksr z23 g22) q_cX12_219 q_dX12_setsLink (by decide) rfl rfl hl.1 rfl (Nat.le_of_ble_eq_true rfl) dX12_meets_18 (fun H locs f24 h26 hF hB => ?_)
  have g27 := h26
  have z28 : q_ir (q_r f24 mo 13) sr := Eq.trans (hF.r hmo (by rw [kmo]; rfl)) z23
  refine q_vret cx hr hlk hB dX12_meets_21 ?_
  exact g27
set_option maxHeartbeats 4000000 in
set_option maxRecDepth 100000 in
theorem r_misses (l : Launch) (g : q_G) {K : Nat → Nat} {L : List Nat} (hN : L.Nodup) {f : Nat → va_E} (hT : q_Ty g K L f) (mo : Nat) (hmo : mo ∈ L) (kmo : K mo = 12) (a0 : Int) (la0 : 0 ≤ a0) (ua0 : a0 ≤ 15) (b0 : Int) (lb0 : 0 ≤ b0) (ub0 : b0 ≤ 9) (c0 : Int) (lc0 : 0 ≤ c0) (uc0 : c0 ≤ 9) (sr : Nat) (hsr : sr ∈ L) (ksr : K sr = 151) (hr0 : q_ir (q_r f mo 13) sr) (hgr : q_gr f sr) : q_Ct l g K L yX12_misses cX12_misses 4 none 2 44 [.ref mo, .int (q_i a0), .int (q_i b0), .int (q_i c0)] f [(151, 9, 9), (151, 11, 83), (151, 92, 169)] (q_Pv (fun (f1 : Nat → va_E) => q_gr f1 sr)) := by
  refine q_ofb (by decide +kernel) hN hT (Nat.le_of_ble_eq_true rfl) ?_
  intro p e s m below meth c ls cx hr hlk hB hl
  have hl : lv_has ls 4 [(0, .ref mo), (1, .int (q_i a0)), (2, .int (q_i b0)), (3, .int (q_i c0))] := hl
  obtain ⟨H, hH⟩ : ∃ H : Heap, H = s.heap := ⟨_, rfl⟩
  obtain ⟨locs, hlocs⟩ : ∃ z : List Loc, z = [] := ⟨_, rfl⟩
  rw [← hH, ← hlocs] at hB
  rw [← hH, ← hlocs]
  refine q_ald_n cx dX12_misses_0 rfl (lv_at hl 0 rfl) ?_
  refine q_ild_n cx dX12_misses_1 rfl (lv_at hl 1 rfl) ?_
  refine q_iconst cx dX12_misses_2 ?_
  refine q_ald_n cx dX12_misses_3 rfl (lv_at hl 0 rfl) ?_
  refine q_ild_n cx dX12_misses_4 rfl (lv_at hl 1 rfl) ?_
  refine q_iconst cx dX12_misses_5 ?_
  refine q_cVi (As := [.int (q_i a0), .int (q_i 4)]) (rest := [.int (q_i 4), .int (q_i a0), .ref mo]) cx hB (fun _ h => h) hN hmo kmo (by decide) rfl (r_ofLink4 l g hN hB.2.1 mo hmo kmo a0 (by omega) (by omega) 4 (by decide) (by decide) sr hsr ksr hr0 hgr) q_cX12_210 q_dX12_ofLink (by decide) rfl rfl hl.1 rfl (Nat.le_of_ble_eq_true rfl) dX12_misses_6 (fun y130 H locs f129 ry130 h131 hF hB => ?_)
  obtain rfl := h131
  refine q_iconst cx dX12_misses_9 ?_
  refine q_iadd cx dX12_misses_10 ?_
  refine q_any (fun y132 ry132 ey132 => ?_)
  refine q_cVv (As := [.int (q_i a0), .int (q_i 4), .int (q_i y132)]) (rest := []) cx hB (fun _ h => h) hN hmo kmo (by decide) rfl (r_setsLink4 l g hN hB.2.1 mo hmo kmo a0 (by omega) (by omega) 4 (by decide) (by decide) y132 (by omega) (by omega) sr hsr ksr hr0 hgr) q_cX12_219 q_dX12_setsLink (by decide) rfl rfl hl.1 rfl (Nat.le_of_ble_eq_true rfl) dX12_misses_11 (fun H locs f133 h135 hF hB => ?_)
  have g136 := h135
  have z137 : q_ir (q_r f133 mo 13) sr := Eq.trans (hF.r hmo (by rw [kmo]; rfl)) hr0
  refine q_ald_n cx dX12_misses_14 rfl (lv_at hl 0 rfl) ?_
  refine q_ild_n cx dX12_misses_15 rfl (lv_at hl 1 rfl) ?_
  refine q_iconst cx dX12_misses_16 ?_
  refine q_ald_n cx dX12_misses_17 rfl (lv_at hl 0 rfl) ?_
  refine q_ild_n cx dX12_misses_18 rfl (lv_at hl 1 rfl) ?_
  refine q_iconst cx dX12_misses_19 ?_
  refine q_cVi (As := [.int (q_i a0), .int (q_i 2)]) (rest := [.int (q_i 2), .int (q_i a0), .ref mo]) cx hB (fun _ h => h) hN hmo kmo (by decide) rfl (r_ofLink2 l g hN hB.2.1 mo hmo kmo a0 (by omega) (by omega) 2 (by decide) (by decide) sr hsr ksr z137 g136) q_cX12_210 q_dX12_ofLink (by decide) rfl rfl hl.1 rfl (Nat.le_of_ble_eq_true rfl) dX12_misses_20 (fun y139 H locs f138 ry139 h140 hF hB => ?_)
  obtain rfl := h140
  refine q_iconst cx dX12_misses_23 ?_
  refine q_iadd cx dX12_misses_24 ?_
  refine q_any (fun y141 ry141 ey141 => ?_)
  refine q_cVv (As := [.int (q_i a0), .int (q_i 2), .int (q_i y141)]) (rest := []) cx hB (fun _ h => h) hN hmo kmo (by decide) rfl (r_setsLink2 l g hN hB.2.1 mo hmo kmo a0 (by omega) (by omega) 2 (by decide) (by decide) y141 (by omega) (by omega) sr hsr ksr z137 g136) q_cX12_219 q_dX12_setsLink (by decide) rfl rfl hl.1 rfl (Nat.le_of_ble_eq_true rfl) dX12_misses_25 (fun H locs f142 h144 hF hB => ?_)
  have g145 := h144
  have z146 : q_ir (q_r f142 mo 13) sr := Eq.trans (hF.r hmo (by rw [kmo]; rfl)) z137
  refine q_ald_n cx dX12_misses_28 rfl (lv_at hl 0 rfl) ?_
  refine q_ild_n cx dX12_misses_29 rfl (lv_at hl 1 rfl) ?_
  refine q_iconst cx dX12_misses_30 ?_
  refine q_cVi (As := [.int (q_i a0), .int (q_i 2)]) (rest := []) cx hB (fun _ h => h) hN hmo kmo (by decide) rfl (r_ofLink2 l g hN hB.2.1 mo hmo kmo a0 (by omega) (by omega) 2 (by decide) (by decide) sr hsr ksr z146 g145) q_cX12_210 q_dX12_ofLink (by decide) rfl rfl hl.1 rfl (Nat.le_of_ble_eq_true rfl) dX12_misses_31 (fun y148 H locs f147 ry148 h149 hF hB => ?_)
  obtain rfl := h149
  refine q_ald_n cx dX12_misses_34 rfl (lv_at hl 0 rfl) ?_
  refine q_gX12_20 cx hB hmo kmo z146 dX12_misses_35 (fun hb150 kb150 => ?_)
  refine q_bipush cx dX12_misses_38 rfl ?_
  obtain ⟨x151, ex151⟩ : ∃ zz, q_is (q_z f142 sr (Int.toNat 8)) zz := ⟨_, rfl⟩
  refine q_sald cx hB hsr ksr (by decide) (by decide) ex151 dX12_misses_40 (fun rx151 => ?_)
  obtain ⟨lx151, ux151⟩ : 0 ≤ x151 ∧ x151 ≤ 9 := q_isb ex151 (q_gr_at g145 (by decide) rfl)
  refine q_icge (tgt := 45) cx ⟨by omega, by omega⟩ ⟨by omega, by omega⟩ dX12_misses_41 (by decide) (fun c153 => ?_) (fun c153 => ?_)
  · refine q_ald_n cx dX12_misses_45 rfl (lv_at hl 0 rfl) ?_
    refine q_ild_n cx dX12_misses_46 rfl (lv_at hl 1 rfl) ?_
    refine q_iconst cx dX12_misses_47 ?_
    refine q_iconst cx dX12_misses_48 ?_
    refine q_cVv (As := [.int (q_i a0), .int (q_i 2), .int (q_i 0)]) (rest := []) cx hB (fun _ h => h) hN hmo kmo (by decide) rfl (r_setsLink2 l g hN hB.2.1 mo hmo kmo a0 (by omega) (by omega) 2 (by decide) (by decide) 0 (by decide) (by decide) sr hsr ksr z146 g145) q_cX12_219 q_dX12_setsLink (by decide) rfl rfl hl.1 rfl (Nat.le_of_ble_eq_true rfl) dX12_misses_49 (fun H locs f154 h156 hF hB => ?_)
    have g157 := h156
    have z158 : q_is (q_z f154 sr 8) x151 := Eq.trans (hF.z hsr (by rw [ksr]; rfl)) ex151
    have z159 : q_ir (q_r f154 mo 13) sr := Eq.trans (hF.r hmo (by rw [kmo]; rfl)) z146
    refine q_ald_n cx dX12_misses_52 rfl (lv_at hl 0 rfl) ?_
    refine q_ild_n cx dX12_misses_53 rfl (lv_at hl 2 rfl) ?_
    refine q_ild_n cx dX12_misses_54 rfl (lv_at hl 3 rfl) ?_
    refine q_cSi (As := [.int (q_i b0), .int (q_i c0)]) (rest := [.ref mo]) cx hB (fun _ h => h) hN (r_greater l g hN hB.2.1 b0 (by omega) (by omega) c0 (by omega) (by omega)) q_cX12_299 q_dX12_greater (by decide) rfl rfl hl.1 rfl (Nat.le_of_ble_eq_true rfl) dX12_misses_55 (fun y161 H locs f160 ry161 h162 hF hB => ?_)
    rcases h162 with h163 | h164
    · obtain ⟨rfl, qy161, t165⟩ := h163
      refine q_iconst cx dX12_misses_58 ?_
      refine q_ald_n cx dX12_misses_59 rfl (lv_at hl 0 rfl) ?_
      refine q_ild_n cx dX12_misses_60 rfl (lv_at hl 2 rfl) ?_
      refine q_ild_n cx dX12_misses_61 rfl (lv_at hl 3 rfl) ?_
      refine q_cSi (As := [.int (q_i b0), .int (q_i c0)]) (rest := [.ref mo, .int (q_i 1), .int (q_i y161), .ref mo]) cx hB (fun _ h => h) hN (r_lesser l g hN hB.2.1 b0 (by omega) (by omega) c0 (by omega) (by omega)) q_cX12_292 q_dX12_lesser (by decide) rfl rfl hl.1 rfl (Nat.le_of_ble_eq_true rfl) dX12_misses_62 (fun y167 H locs f166 ry167 h168 hF hB => ?_)
      rcases h168 with h169 | h170
      · obtain ⟨rfl, qy167, t171⟩ := h169
        refine q_iconst cx dX12_misses_65 ?_
        refine q_cVi (As := [.int (q_i y167), .int (q_i 1)]) (rest := [.int (q_i 1), .int (q_i y161), .ref mo]) cx hB (fun _ h => h) hN hmo kmo (by decide) rfl (r_ofNode1 l g hN hB.2.1 mo hmo kmo y167 (by omega) (by omega) 1 (by decide) (by decide) sr hsr ksr z159 g157) q_cX12_256 q_dX12_ofNode (by decide) rfl rfl hl.1 rfl (Nat.le_of_ble_eq_true rfl) dX12_misses_66 (fun y173 H locs f172 ry173 h174 hF hB => ?_)
        obtain ⟨rfl, ly173, uy173, t175⟩ := h174
        refine q_cVv (As := [.int (q_i y161), .int (q_i 1), .int (q_i y173)]) (rest := []) cx hB (fun _ h => h) hN hmo kmo (by decide) rfl (r_setsNode1 l g hN hB.2.1 mo hmo kmo y161 (by omega) (by omega) 1 (by decide) (by decide) y173 (by omega) (by omega) sr hsr ksr z159 g157) q_cX12_202 q_dX12_setsNode (by decide) rfl rfl hl.1 rfl (Nat.le_of_ble_eq_true rfl) dX12_misses_69 (fun H locs f176 h178 hF hB => ?_)
        have g179 := h178
        have z180 : q_is (q_z f176 sr 8) x151 := Eq.trans (hF.z hsr (by rw [ksr]; rfl)) z158
        have z181 : q_ir (q_r f176 mo 13) sr := Eq.trans (hF.r hmo (by rw [kmo]; rfl)) z159
        refine q_ald_n cx dX12_misses_72 rfl (lv_at hl 0 rfl) ?_
        refine q_gX12_20 cx hB hmo kmo z181 dX12_misses_73 (fun hb182 kb182 => ?_)
        refine q_bipush cx dX12_misses_76 rfl ?_
        refine lv_dup2_11 cx.1 cx.2.1 dX12_misses_78 rfl rfl ?_
        obtain ⟨x183, ex183⟩ : ∃ zz, q_is (q_z f176 sr (Int.toNat 9)) zz := ⟨_, rfl⟩
        refine q_sald cx hB hsr ksr (by decide) (by decide) ex183 dX12_misses_79 (fun rx183 => ?_)
        refine q_iconst cx dX12_misses_80 ?_
        refine q_iadd cx dX12_misses_81 ?_
        refine q_any (fun y185 ry185 ey185 => ?_)
        refine q_sast cx hB hsr ksr (by decide) (by decide) ⟨by omega, by omega⟩ rfl dX12_misses_82 (fun H locs f186 ef186 z187 hB => ?_)
        have z188 : q_is (q_z f186 sr 8) x151 := by rw [ef186, q_setz (Or.inr (by decide))]; exact z180
        have z189 : q_ir (q_r f186 mo 13) sr := by rw [ef186, q_setr (Or.inr (by decide))]; exact z181
        have g190 : q_gr f186 sr := q_gr_put g179 ef186 z187 rfl (by omega) (by omega)
        refine q_vret cx hr hlk hB dX12_misses_83 ?_
        exact g190
      · obtain ⟨rfl, qy167, t191⟩ := h170
        refine q_iconst cx dX12_misses_65 ?_
        refine q_cVi (As := [.int (q_i y167), .int (q_i 1)]) (rest := [.int (q_i 1), .int (q_i y161), .ref mo]) cx hB (fun _ h => h) hN hmo kmo (by decide) rfl (r_ofNode1 l g hN hB.2.1 mo hmo kmo y167 (by omega) (by omega) 1 (by decide) (by decide) sr hsr ksr z159 g157) q_cX12_256 q_dX12_ofNode (by decide) rfl rfl hl.1 rfl (Nat.le_of_ble_eq_true rfl) dX12_misses_66 (fun y193 H locs f192 ry193 h194 hF hB => ?_)
        obtain ⟨rfl, ly193, uy193, t195⟩ := h194
        refine q_cVv (As := [.int (q_i y161), .int (q_i 1), .int (q_i y193)]) (rest := []) cx hB (fun _ h => h) hN hmo kmo (by decide) rfl (r_setsNode1 l g hN hB.2.1 mo hmo kmo y161 (by omega) (by omega) 1 (by decide) (by decide) y193 (by omega) (by omega) sr hsr ksr z159 g157) q_cX12_202 q_dX12_setsNode (by decide) rfl rfl hl.1 rfl (Nat.le_of_ble_eq_true rfl) dX12_misses_69 (fun H locs f196 h198 hF hB => ?_)
        have g199 := h198
        have z200 : q_is (q_z f196 sr 8) x151 := Eq.trans (hF.z hsr (by rw [ksr]; rfl)) z158
        have z201 : q_ir (q_r f196 mo 13) sr := Eq.trans (hF.r hmo (by rw [kmo]; rfl)) z159
        refine q_ald_n cx dX12_misses_72 rfl (lv_at hl 0 rfl) ?_
        refine q_gX12_20 cx hB hmo kmo z201 dX12_misses_73 (fun hb202 kb202 => ?_)
        refine q_bipush cx dX12_misses_76 rfl ?_
        refine lv_dup2_11 cx.1 cx.2.1 dX12_misses_78 rfl rfl ?_
        obtain ⟨x203, ex203⟩ : ∃ zz, q_is (q_z f196 sr (Int.toNat 9)) zz := ⟨_, rfl⟩
        refine q_sald cx hB hsr ksr (by decide) (by decide) ex203 dX12_misses_79 (fun rx203 => ?_)
        refine q_iconst cx dX12_misses_80 ?_
        refine q_iadd cx dX12_misses_81 ?_
        refine q_any (fun y205 ry205 ey205 => ?_)
        refine q_sast cx hB hsr ksr (by decide) (by decide) ⟨by omega, by omega⟩ rfl dX12_misses_82 (fun H locs f206 ef206 z207 hB => ?_)
        have z208 : q_is (q_z f206 sr 8) x151 := by rw [ef206, q_setz (Or.inr (by decide))]; exact z200
        have z209 : q_ir (q_r f206 mo 13) sr := by rw [ef206, q_setr (Or.inr (by decide))]; exact z201
        have g210 : q_gr f206 sr := q_gr_put g199 ef206 z207 rfl (by omega) (by omega)
        refine q_vret cx hr hlk hB dX12_misses_83 ?_
        exact g210
    · obtain ⟨rfl, qy161, t211⟩ := h164
      refine q_iconst cx dX12_misses_58 ?_
      refine q_ald_n cx dX12_misses_59 rfl (lv_at hl 0 rfl) ?_
      refine q_ild_n cx dX12_misses_60 rfl (lv_at hl 2 rfl) ?_
      refine q_ild_n cx dX12_misses_61 rfl (lv_at hl 3 rfl) ?_
      refine q_cSi (As := [.int (q_i b0), .int (q_i c0)]) (rest := [.ref mo, .int (q_i 1), .int (q_i y161), .ref mo]) cx hB (fun _ h => h) hN (r_lesser l g hN hB.2.1 b0 (by omega) (by omega) c0 (by omega) (by omega)) q_cX12_292 q_dX12_lesser (by decide) rfl rfl hl.1 rfl (Nat.le_of_ble_eq_true rfl) dX12_misses_62 (fun y213 H locs f212 ry213 h214 hF hB => ?_)
      rcases h214 with h215 | h216
      · obtain ⟨rfl, qy213, t217⟩ := h215
        refine q_iconst cx dX12_misses_65 ?_
        refine q_cVi (As := [.int (q_i y213), .int (q_i 1)]) (rest := [.int (q_i 1), .int (q_i y161), .ref mo]) cx hB (fun _ h => h) hN hmo kmo (by decide) rfl (r_ofNode1 l g hN hB.2.1 mo hmo kmo y213 (by omega) (by omega) 1 (by decide) (by decide) sr hsr ksr z159 g157) q_cX12_256 q_dX12_ofNode (by decide) rfl rfl hl.1 rfl (Nat.le_of_ble_eq_true rfl) dX12_misses_66 (fun y219 H locs f218 ry219 h220 hF hB => ?_)
        obtain ⟨rfl, ly219, uy219, t221⟩ := h220
        refine q_cVv (As := [.int (q_i y161), .int (q_i 1), .int (q_i y219)]) (rest := []) cx hB (fun _ h => h) hN hmo kmo (by decide) rfl (r_setsNode1 l g hN hB.2.1 mo hmo kmo y161 (by omega) (by omega) 1 (by decide) (by decide) y219 (by omega) (by omega) sr hsr ksr z159 g157) q_cX12_202 q_dX12_setsNode (by decide) rfl rfl hl.1 rfl (Nat.le_of_ble_eq_true rfl) dX12_misses_69 (fun H locs f222 h224 hF hB => ?_)
        have g225 := h224
        have z226 : q_is (q_z f222 sr 8) x151 := Eq.trans (hF.z hsr (by rw [ksr]; rfl)) z158
        have z227 : q_ir (q_r f222 mo 13) sr := Eq.trans (hF.r hmo (by rw [kmo]; rfl)) z159
        refine q_ald_n cx dX12_misses_72 rfl (lv_at hl 0 rfl) ?_
        refine q_gX12_20 cx hB hmo kmo z227 dX12_misses_73 (fun hb228 kb228 => ?_)
        refine q_bipush cx dX12_misses_76 rfl ?_
        refine lv_dup2_11 cx.1 cx.2.1 dX12_misses_78 rfl rfl ?_
        obtain ⟨x229, ex229⟩ : ∃ zz, q_is (q_z f222 sr (Int.toNat 9)) zz := ⟨_, rfl⟩
        refine q_sald cx hB hsr ksr (by decide) (by decide) ex229 dX12_misses_79 (fun rx229 => ?_)
        refine q_iconst cx dX12_misses_80 ?_
        refine q_iadd cx dX12_misses_81 ?_
        refine q_any (fun y231 ry231 ey231 => ?_)
        refine q_sast cx hB hsr ksr (by decide) (by decide) ⟨by omega, by omega⟩ rfl dX12_misses_82 (fun H locs f232 ef232 z233 hB => ?_)
        have z234 : q_is (q_z f232 sr 8) x151 := by rw [ef232, q_setz (Or.inr (by decide))]; exact z226
        have z235 : q_ir (q_r f232 mo 13) sr := by rw [ef232, q_setr (Or.inr (by decide))]; exact z227
        have g236 : q_gr f232 sr := q_gr_put g225 ef232 z233 rfl (by omega) (by omega)
        refine q_vret cx hr hlk hB dX12_misses_83 ?_
        exact g236
      · obtain ⟨rfl, qy213, t237⟩ := h216
        refine q_iconst cx dX12_misses_65 ?_
        refine q_cVi (As := [.int (q_i y213), .int (q_i 1)]) (rest := [.int (q_i 1), .int (q_i y161), .ref mo]) cx hB (fun _ h => h) hN hmo kmo (by decide) rfl (r_ofNode1 l g hN hB.2.1 mo hmo kmo y213 (by omega) (by omega) 1 (by decide) (by decide) sr hsr ksr z159 g157) q_cX12_256 q_dX12_ofNode (by decide) rfl rfl hl.1 rfl (Nat.le_of_ble_eq_true rfl) dX12_misses_66 (fun y239 H locs f238 ry239 h240 hF hB => ?_)
        obtain ⟨rfl, ly239, uy239, t241⟩ := h240
        refine q_cVv (As := [.int (q_i y161), .int (q_i 1), .int (q_i y239)]) (rest := []) cx hB (fun _ h => h) hN hmo kmo (by decide) rfl (r_setsNode1 l g hN hB.2.1 mo hmo kmo y161 (by omega) (by omega) 1 (by decide) (by decide) y239 (by omega) (by omega) sr hsr ksr z159 g157) q_cX12_202 q_dX12_setsNode (by decide) rfl rfl hl.1 rfl (Nat.le_of_ble_eq_true rfl) dX12_misses_69 (fun H locs f242 h244 hF hB => ?_)
        have g245 := h244
        have z246 : q_is (q_z f242 sr 8) x151 := Eq.trans (hF.z hsr (by rw [ksr]; rfl)) z158
        have z247 : q_ir (q_r f242 mo 13) sr := Eq.trans (hF.r hmo (by rw [kmo]; rfl)) z159
        refine q_ald_n cx dX12_misses_72 rfl (lv_at hl 0 rfl) ?_
        refine q_gX12_20 cx hB hmo kmo z247 dX12_misses_73 (fun hb248 kb248 => ?_)
        refine q_bipush cx dX12_misses_76 rfl ?_
        refine lv_dup2_11 cx.1 cx.2.1 dX12_misses_78 rfl rfl ?_
        obtain ⟨x249, ex249⟩ : ∃ zz, q_is (q_z f242 sr (Int.toNat 9)) zz := ⟨_, rfl⟩
        refine q_sald cx hB hsr ksr (by decide) (by decide) ex249 dX12_misses_79 (fun rx249 => ?_)
        refine q_iconst cx dX12_misses_80 ?_
        refine q_iadd cx dX12_misses_81 ?_
        refine q_any (fun y251 ry251 ey251 => ?_)
        refine q_sast cx hB hsr ksr (by decide) (by decide) ⟨by omega, by omega⟩ rfl dX12_misses_82 (fun H locs f252 ef252 z253 hB => ?_)
        have z254 : q_is (q_z f252 sr 8) x151 := by rw [ef252, q_setz (Or.inr (by decide))]; exact z246
        have z255 : q_ir (q_r f252 mo 13) sr := by rw [ef252, q_setr (Or.inr (by decide))]; exact z247
        have g256 : q_gr f252 sr := q_gr_put g245 ef252 z253 rfl (by omega) (by omega)
        refine q_vret cx hr hlk hB dX12_misses_83 ?_
        exact g256
  · refine q_vret cx hr hlk hB dX12_misses_44 ?_
    exact g145
