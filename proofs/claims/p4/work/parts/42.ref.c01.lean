set_option maxHeartbeats 4000000 in
set_option maxRecDepth 100000 in
theorem r_clears (l : Launch) (g : q_G) {K : Nat → Nat} {L : List Nat} (hN : L.Nodup) {f : Nat → va_E} (hT : q_Ty g K L f) (mo : Nat) (hmo : mo ∈ L) (kmo : K mo = 12) (sr : Nat) (hsr : sr ∈ L) (ksr : K sr = 151) (nm : Nat) (hnm : nm ∈ L) (knm : K nm = 156) (hr0 : q_ir (q_r f mo 13) sr) (hr1 : q_ir (q_r f mo 18) nm) : q_Ct l g K L yX12_clears cX12_clears 2 none 0 0 [.ref mo] f [(151, 0, 657), (156, 0, 9)] (q_Pv (fun (f1 : Nat → va_E) => 0 ≤ q_z f1 sr 3 ∧ q_z f1 sr 3 ≤ 9999 ∧ 0 ≤ q_z f1 sr 4 ∧ q_z f1 sr 4 ≤ 60 ∧ q_gr f1 sr)) := by
  refine q_ofb (by decide +kernel) hN hT (Nat.le_of_ble_eq_true rfl) ?_
  intro p e s m below meth c ls cx hr hlk hB hl
  have hl : lv_has ls 2 [(0, .ref mo)] := hl
  have J24 : ∀ (n : Nat) (f24 : Nat → va_E) (v24_1 : Int) (lv24_1 : 0 ≤ v24_1) (uv24_1 : v24_1 ≤ 10) (hq_mo_13 : q_ir (q_r f24 mo 13) sr) (hq_mo_18 : q_ir (q_r f24 mo 18) nm) (hcl2 : ∀ j : Nat, (j : Int) < 658 → q_z f24 sr j = 0) (hmu : (Int.toNat (2147483647 - v24_1)) < n) (H : Heap) (locs : List Loc) (hB : q_B g K L (fun q => q ∈ L) [(151, 0, 657), (156, 0, 9)] f f24 s H locs) (ls : Array Slot) (hl : lv_has ls 2 [(0, .ref mo), (1, .int (q_i v24_1))]), W p l e { frames := 0, cells := 0, slots := 0, locals := 0 } s m ([.ref mo] : List Value).toArray below meth c H locs 0 0 (MQ below (q_Q g K L [(151, 0, 657), (156, 0, 9)] f (q_Pv (fun (f1 : Nat → va_E) => 0 ≤ q_z f1 sr 3 ∧ q_z f1 sr 3 ≤ 9999 ∧ 0 ≤ q_z f1 sr 4 ∧ q_z f1 sr 4 ≤ 60 ∧ q_gr f1 sr))) ([.ref mo] : List Value).toArray s 0 0 (fun q => q ∈ L)) (F0 m 24 ls []) := by
    intro n
    induction n with
    | zero =>
      intro f24 v24_1 lv24_1 uv24_1 hq_mo_13 hq_mo_18 hcl2 hmu
      exact absurd hmu (Nat.not_lt_zero _)
    | succ n ih24 =>
      intro f24 v24_1 lv24_1 uv24_1 hq_mo_13 hq_mo_18 hcl2 hmu H locs hB ls hl
      refine q_ild_n cx dX12_clears_24 rfl (lv_at hl 1 rfl) ?_
      refine q_bipush cx dX12_clears_25 rfl ?_
      refine q_icge (tgt := 43) cx ⟨by omega, by omega⟩ ⟨by decide, by decide⟩ dX12_clears_27 (by decide) (fun c286 => ?_) (fun c286 => ?_)
      · have z287 : q_is (q_z f24 sr 3) 0 := hcl2 3 (by omega)
        have z288 : q_is (q_z f24 sr 4) 0 := hcl2 4 (by omega)
        refine q_ald_n cx dX12_clears_43 rfl (lv_at hl 0 rfl) ?_
        refine q_gX12_20 cx hB hmo kmo hq_mo_13 dX12_clears_44 (fun hb289 kb289 => ?_)
        refine q_iconst cx dX12_clears_47 ?_
        refine q_bipush cx dX12_clears_48 rfl ?_
        refine q_sast cx hB hsr ksr (by decide) (by decide) ⟨by decide, by decide⟩ rfl dX12_clears_50 (fun H locs f290 ef290 z291 hB => ?_)
        have z292 : q_is (q_z f290 sr 3) 0 := by rw [ef290, q_setz (Or.inr (by decide))]; exact z287
        have z293 : q_is (q_z f290 sr 4) 0 := by rw [ef290, q_setz (Or.inr (by decide))]; exact z288
        have z294 : q_ir (q_r f290 mo 13) sr := by rw [ef290, q_setr (Or.inr (by decide))]; exact hq_mo_13
        have z295 : q_ir (q_r f290 mo 18) nm := by rw [ef290, q_setr (Or.inr (by decide))]; exact hq_mo_18
        have gr51 : q_gr f290 sr := k_grcl (fun j hj => by
            by_cases h9 : j = 2
            · exact Or.inr h9
            · exact Or.inl (by rw [ef290, q_setz (Or.inr (show j ≠ Int.toNat 2 from h9))]; exact hcl2 j hj)) z291
        refine q_ald_n cx dX12_clears_51 rfl (lv_at hl 0 rfl) ?_
        refine q_gX12_20 cx hB hmo kmo z294 dX12_clears_52 (fun hb296 kb296 => ?_)
        refine q_iconst cx dX12_clears_55 ?_
        refine q_iconst cx dX12_clears_56 ?_
        refine q_sast cx hB hsr ksr (by decide) (by decide) ⟨by decide, by decide⟩ rfl dX12_clears_57 (fun H locs f297 ef297 z298 hB => ?_)
        have z299 : q_is (q_z f297 sr 3) 0 := by rw [ef297, q_setz (Or.inr (by decide))]; exact z292
        have z300 : q_is (q_z f297 sr 4) 0 := by rw [ef297, q_setz (Or.inr (by decide))]; exact z293
        have z301 : q_is (q_z f297 sr 2) 12 := by rw [ef297, q_setz (Or.inr (by decide))]; exact z291
        have z302 : q_ir (q_r f297 mo 13) sr := by rw [ef297, q_setr (Or.inr (by decide))]; exact z294
        have z303 : q_ir (q_r f297 mo 18) nm := by rw [ef297, q_setr (Or.inr (by decide))]; exact z295
        have g304 : q_gr f297 sr := q_gr_put gr51 ef297 z298 rfl (by decide) (by decide)
        refine q_ald_n cx dX12_clears_58 rfl (lv_at hl 0 rfl) ?_
        refine q_gX12_20 cx hB hmo kmo z302 dX12_clears_59 (fun hb305 kb305 => ?_)
        refine q_bipush cx dX12_clears_62 rfl ?_
        refine q_iconst cx dX12_clears_64 ?_
        refine q_sast cx hB hsr ksr (by decide) (by decide) ⟨by decide, by decide⟩ rfl dX12_clears_65 (fun H locs f306 ef306 z307 hB => ?_)
        have z308 : q_is (q_z f306 sr 3) 0 := by rw [ef306, q_setz (Or.inr (by decide))]; exact z299
        have z309 : q_is (q_z f306 sr 4) 0 := by rw [ef306, q_setz (Or.inr (by decide))]; exact z300
        have z310 : q_is (q_z f306 sr 2) 12 := by rw [ef306, q_setz (Or.inr (by decide))]; exact z301
        have z311 : q_is (q_z f306 sr 5) 1 := by rw [ef306, q_setz (Or.inr (by decide))]; exact z298
        have z312 : q_ir (q_r f306 mo 13) sr := by rw [ef306, q_setr (Or.inr (by decide))]; exact z302
        have z313 : q_ir (q_r f306 mo 18) nm := by rw [ef306, q_setr (Or.inr (by decide))]; exact z303
        have g314 : q_gr f306 sr := q_gr_put g304 ef306 z307 rfl (by decide) (by decide)
        refine q_ald_n cx dX12_clears_66 rfl (lv_at hl 0 rfl) ?_
        refine q_gX12_20 cx hB hmo kmo z312 dX12_clears_67 (fun hb315 kb315 => ?_)
        refine q_bipush cx dX12_clears_70 rfl ?_
        refine q_iconst cx dX12_clears_72 ?_
        refine q_sast cx hB hsr ksr (by decide) (by decide) ⟨by decide, by decide⟩ rfl dX12_clears_73 (fun H locs f316 ef316 z317 hB => ?_)
        have z318 : q_is (q_z f316 sr 3) 0 := by rw [ef316, q_setz (Or.inr (by decide))]; exact z308
        have z319 : q_is (q_z f316 sr 4) 0 := by rw [ef316, q_setz (Or.inr (by decide))]; exact z309
        have z320 : q_is (q_z f316 sr 2) 12 := by rw [ef316, q_setz (Or.inr (by decide))]; exact z310
        have z321 : q_is (q_z f316 sr 5) 1 := by rw [ef316, q_setz (Or.inr (by decide))]; exact z311
        have z322 : q_is (q_z f316 sr 6) 2 := by rw [ef316, q_setz (Or.inr (by decide))]; exact z307
        have z323 : q_ir (q_r f316 mo 13) sr := by rw [ef316, q_setr (Or.inr (by decide))]; exact z312
        have z324 : q_ir (q_r f316 mo 18) nm := by rw [ef316, q_setr (Or.inr (by decide))]; exact z313
        have g325 : q_gr f316 sr := q_gr_put g314 ef316 z317 rfl (by decide) (by decide)
        refine q_ald_n cx dX12_clears_74 rfl (lv_at hl 0 rfl) ?_
        refine q_gX12_20 cx hB hmo kmo z323 dX12_clears_75 (fun hb326 kb326 => ?_)
        refine q_bipush cx dX12_clears_78 rfl ?_
        refine q_iconst cx dX12_clears_80 ?_
        refine q_sast cx hB hsr ksr (by decide) (by decide) ⟨by decide, by decide⟩ rfl dX12_clears_81 (fun H locs f327 ef327 z328 hB => ?_)
        have z329 : q_is (q_z f327 sr 3) 0 := by rw [ef327, q_setz (Or.inr (by decide))]; exact z318
        have z330 : q_is (q_z f327 sr 4) 0 := by rw [ef327, q_setz (Or.inr (by decide))]; exact z319
        have z331 : q_is (q_z f327 sr 2) 12 := by rw [ef327, q_setz (Or.inr (by decide))]; exact z320
        have z332 : q_is (q_z f327 sr 5) 1 := by rw [ef327, q_setz (Or.inr (by decide))]; exact z321
        have z333 : q_is (q_z f327 sr 6) 2 := by rw [ef327, q_setz (Or.inr (by decide))]; exact z322
        have z334 : q_is (q_z f327 sr 7) 5 := by rw [ef327, q_setz (Or.inr (by decide))]; exact z317
        have z335 : q_ir (q_r f327 mo 13) sr := by rw [ef327, q_setr (Or.inr (by decide))]; exact z323
        have z336 : q_ir (q_r f327 mo 18) nm := by rw [ef327, q_setr (Or.inr (by decide))]; exact z324
        have g337 : q_gr f327 sr := q_gr_put g325 ef327 z328 rfl (by decide) (by decide)
        refine q_vret cx hr hlk hB dX12_clears_82 ?_
        exact ⟨(q_isl z329 (by omega)), (q_isu z329 (by omega)), (q_isl z330 (by omega)), (q_isu z330 (by omega)), g337⟩
      · refine q_ald_n cx dX12_clears_30 rfl (lv_at hl 0 rfl) ?_
        refine q_gX12_35 cx hB hmo kmo hq_mo_18 dX12_clears_31 (fun hb338 kb338 => ?_)
        refine q_ild_n cx dX12_clears_34 rfl (lv_at hl 1 rfl) ?_
        refine q_lconst (z := 0) cx (by decide) dX12_clears_35 ?_
        refine q_last (n := 10) cx hB hnm knm (by decide) rfl rfl (by omega) (by omega) (by decide) rfl (q_inWi (lo := 0) (hi := 9) (by decide) (by omega) (by omega)) dX12_clears_36 (fun H locs f339 ef339 z340 hB => ?_)
        have z341 : q_ir (q_r f339 mo 13) sr := by rw [ef339, q_setr (Or.inl (fun q => by rw [q, knm] at kmo; exact absurd kmo (by decide)))]; exact hq_mo_13
        have z342 : q_ir (q_r f339 mo 18) nm := by rw [ef339, q_setr (Or.inl (fun q => by rw [q, knm] at kmo; exact absurd kmo (by decide)))]; exact hq_mo_18
        refine q_iinc (lv' := [(1, .int (q_i (v24_1 + 1))), (0, .ref mo)]) cx dX12_clears_37 hl (k := 1) rfl (by decide) rfl (fun ls hl => ?_)
        refine lv_goto (tgt := 24) cx.1 cx.2.1 dX12_clears_40 (by decide) ?_
        exact ih24 f339 (v24_1 + 1) (by omega) (by omega) z341 z342 (fun j hj => by rw [ef339, q_setz (Or.inl (fun q => q_kne (k := 151) (k2 := 156) (by decide) ksr knm q))]; exact hcl2 j hj) (by omega) H locs hB ls (lv_sub hl [1, 0] rfl)
  have J2 : ∀ (n : Nat) (f2 : Nat → va_E) (v2_1 : Int) (lv2_1 : 0 ≤ v2_1) (uv2_1 : v2_1 ≤ 658) (hq_mo_13 : q_ir (q_r f2 mo 13) sr) (hq_mo_18 : q_ir (q_r f2 mo 18) nm) (hcl : ∀ j : Nat, (j : Int) < v2_1 → q_z f2 sr j = 0) (hmu : (Int.toNat (2147483647 - v2_1)) < n) (H : Heap) (locs : List Loc) (hB : q_B g K L (fun q => q ∈ L) [(151, 0, 657), (156, 0, 9)] f f2 s H locs) (ls : Array Slot) (hl : lv_has ls 2 [(0, .ref mo), (1, .int (q_i v2_1))]), W p l e { frames := 0, cells := 0, slots := 0, locals := 0 } s m ([.ref mo] : List Value).toArray below meth c H locs 0 0 (MQ below (q_Q g K L [(151, 0, 657), (156, 0, 9)] f (q_Pv (fun (f1 : Nat → va_E) => 0 ≤ q_z f1 sr 3 ∧ q_z f1 sr 3 ≤ 9999 ∧ 0 ≤ q_z f1 sr 4 ∧ q_z f1 sr 4 ≤ 60 ∧ q_gr f1 sr))) ([.ref mo] : List Value).toArray s 0 0 (fun q => q ∈ L)) (F0 m 2 ls []) := by
    intro n
    induction n with
    | zero =>
      intro f2 v2_1 lv2_1 uv2_1 hq_mo_13 hq_mo_18 hcl hmu
      exact absurd hmu (Nat.not_lt_zero _)
    | succ n ih2 =>
      intro f2 v2_1 lv2_1 uv2_1 hq_mo_13 hq_mo_18 hcl hmu H locs hB ls hl
      refine q_ild_n cx dX12_clears_2 rfl (lv_at hl 1 rfl) ?_
      refine q_sipush cx dX12_clears_3 rfl ?_
      refine q_icge (tgt := 22) cx ⟨by omega, by omega⟩ ⟨by decide, by decide⟩ dX12_clears_6 (by decide) (fun c343 => ?_) (fun c343 => ?_)
      · refine q_iconst cx dX12_clears_22 ?_
        refine lv_istore_n (lv' := [(1, .int (q_i 0)), (0, .ref mo)]) cx.1 cx.2.1 dX12_clears_23 rfl hl (by decide) rfl (fun ls hl => ?_)
        exact J24 ((Int.toNat (2147483647 - 0)) + 1) f2 0 (by decide) (by decide) hq_mo_13 hq_mo_18 (fun j hj => hcl j (by omega)) (Nat.lt_succ_self _) H locs hB ls (lv_sub hl [1, 0] rfl)
      · refine q_ald_n cx dX12_clears_9 rfl (lv_at hl 0 rfl) ?_
        refine q_gX12_20 cx hB hmo kmo hq_mo_13 dX12_clears_10 (fun hb344 kb344 => ?_)
        refine q_ild_n cx dX12_clears_13 rfl (lv_at hl 1 rfl) ?_
        refine q_iconst cx dX12_clears_14 ?_
        refine q_sastr cx hB hsr ksr (by omega) (by omega) ⟨by decide, by decide⟩ q_ew0 (q_inWi (lo := 0) (hi := 657) (by decide) (by omega) (by omega)) dX12_clears_15 (fun H locs f345 ef345 z346 hB => ?_)
        have z347 : q_ir (q_r f345 mo 13) sr := by rw [ef345, q_setr (Or.inl (fun q => by rw [q, ksr] at kmo; exact absurd kmo (by decide)))]; exact hq_mo_13
        have z348 : q_ir (q_r f345 mo 18) nm := by rw [ef345, q_setr (Or.inl (fun q => by rw [q, ksr] at kmo; exact absurd kmo (by decide)))]; exact hq_mo_18
        refine q_iinc (lv' := [(1, .int (q_i (v2_1 + 1))), (0, .ref mo)]) cx dX12_clears_16 hl (k := 1) rfl (by decide) rfl (fun ls hl => ?_)
        refine lv_goto (tgt := 2) cx.1 cx.2.1 dX12_clears_19 (by decide) ?_
        exact ih2 f345 (v2_1 + 1) (by omega) (by omega) z347 z348 (q_clb hcl ef345 z346 (by omega)) (by omega) H locs hB ls (lv_sub hl [1, 0] rfl)
  obtain ⟨H, hH⟩ : ∃ H : Heap, H = s.heap := ⟨_, rfl⟩
  obtain ⟨locs, hlocs⟩ : ∃ z : List Loc, z = [] := ⟨_, rfl⟩
  rw [← hH, ← hlocs] at hB
  rw [← hH, ← hlocs]
  refine q_iconst cx dX12_clears_0 ?_
  refine lv_istore_n (lv' := [(1, .int (q_i 0)), (0, .ref mo)]) cx.1 cx.2.1 dX12_clears_1 rfl hl (by decide) rfl (fun ls hl => ?_)
  exact J2 ((Int.toNat (2147483647 - 0)) + 1) f 0 (by decide) (by decide) hr0 hr1 (fun j hj => absurd hj (by omega)) (Nat.lt_succ_self _) H locs hB ls (lv_sub hl [1, 0] rfl)
set_option maxHeartbeats 4000000 in
set_option maxRecDepth 100000 in
theorem r_keeps0 (l : Launch) (g : q_G) {K : Nat → Nat} {L : List Nat} (hN : L.Nodup) {f : Nat → va_E} (hT : q_Ty g K L f) (mo : Nat) (hmo : mo ∈ L) (kmo : K mo = 12) (as : Nat) (has : as ∈ L) (kas : K as = 153) (pa : Nat) (hpa : pa ∈ L) (kpa : K pa = 155) (xy : Int) (lxy : 4 ≤ xy) (uxy : xy ≤ 60) (xn : Int) (lxn : 0 ≤ xn) (uxn : xn ≤ 5) (hf0 : q_is (q_z f as 2) xy) (hf1 : q_is (q_z f mo 21) xn) (hr0 : q_ir (q_r f mo 15) as) (hr1 : q_ir (q_r f mo 17) pa) (hpk : q_pk f mo pa) : q_Ct l g K L yX12_keeps cX12_keeps 2 none 1 24 [.ref mo] f [(12, 21, 21), (155, 0, 3947)] (q_Pv (fun (f1 : Nat → va_E) => (q_pk f1 mo pa))) := by
  refine q_ofb (by decide +kernel) hN hT (Nat.le_of_ble_eq_true rfl) ?_
  intro p e s m below meth c ls cx hr hlk hB hl
  have hl : lv_has ls 2 [(0, .ref mo)] := hl
  obtain ⟨H, hH⟩ : ∃ H : Heap, H = s.heap := ⟨_, rfl⟩
  obtain ⟨locs, hlocs⟩ : ∃ z : List Loc, z = [] := ⟨_, rfl⟩
  rw [← hH, ← hlocs] at hB
  rw [← hH, ← hlocs]
  refine q_ald_n cx dX12_keeps_0 rfl (lv_at hl 0 rfl) ?_
  refine q_gX12_158 cx hB hmo kmo hf1 dX12_keeps_1 (fun lb21 ub21 => ?_)
  refine q_bipush cx dX12_keeps_4 rfl ?_
  refine q_icne (tgt := 55) cx ⟨by omega, by omega⟩ ⟨by decide, by decide⟩ dX12_keeps_6 (by decide) (fun c22 => ?_) (fun c22 => ?_)
  · refine q_ald_n cx dX12_keeps_55 rfl (lv_at hl 0 rfl) ?_
    refine q_gX12_26 cx hB hmo kmo hr0 dX12_keeps_56 (fun hb23 kb23 => ?_)
    refine q_iconst cx dX12_keeps_59 ?_
    refine q_ald_n cx dX12_keeps_60 rfl (lv_at hl 0 rfl) ?_
    refine q_gX12_32 cx hB hmo kmo hr1 dX12_keeps_61 (fun hb24 kb24 => ?_)
    refine q_sipush cx dX12_keeps_64 rfl ?_
    refine q_ald_n cx dX12_keeps_67 rfl (lv_at hl 0 rfl) ?_
    refine q_gX12_158 cx hB hmo kmo hf1 dX12_keeps_68 (fun lb25 ub25 => ?_)
    refine q_imul cx dX12_keeps_71 ?_
    refine q_cSv (As := [.ref as, .int (q_i 0), .ref pa, .int (q_i (658 * xn))]) (rest := []) cx hB (fun _ h => h) hN (r_copiesRow_as_pa l g hN hB.2.1 as has kas 0 (by decide) (by decide) pa hpa kpa (658 * xn) (by omega) (by omega) xn (by omega) (by omega) (by omega)) q_cX12_154 q_dX12_copiesRow (by decide) rfl rfl hl.1 rfl (Nat.le_of_ble_eq_true rfl) dX12_keeps_72 (fun H locs f26 h28 hF hB => ?_)
    obtain ⟨t29, t30⟩ := h28
    have z31 : q_is (q_z f26 as 2) xy := Eq.trans (hF.z has (by rw [kas]; rfl)) hf0
    have z32 : q_is (q_z f26 mo 21) xn := Eq.trans (hF.z hmo (by rw [kmo]; rfl)) hf1
    have z33 : q_ir (q_r f26 mo 15) as := Eq.trans (hF.r hmo (by rw [kmo]; rfl)) hr0
    have z34 : q_ir (q_r f26 mo 17) pa := Eq.trans (hF.r hmo (by rw [kmo]; rfl)) hr1
    refine q_ald_n cx dX12_keeps_75 rfl (lv_at hl 0 rfl) ?_
    refine lv_dup cx.1 cx.2.1 dX12_keeps_76 rfl ?_
    refine q_gX12_158 cx hB hmo kmo z32 dX12_keeps_77 (fun lb35 ub35 => ?_)
    refine q_iconst cx dX12_keeps_80 ?_
    refine q_iadd cx dX12_keeps_81 ?_
    refine q_pX12_158 cx hB hmo kmo ⟨by omega, by omega⟩ (by omega) (by omega) rfl dX12_keeps_82 (fun H locs f36 ef36 z37 hB => ?_)
    have z38 : q_is (q_z f36 as 2) xy := by rw [ef36, q_setz (Or.inr (by decide))]; exact z31
    have z39 : q_ir (q_r f36 mo 15) as := by rw [ef36, q_setr (Or.inr (by decide))]; exact z33
    have z40 : q_ir (q_r f36 mo 17) pa := by rw [ef36, q_setr (Or.inr (by decide))]; exact z34
    have hpk9 : q_pk f36 mo pa := k_pkinc hpk hf1 (by omega) z37 (fun i hi => by rw [ef36, q_setz (Or.inl (fun q => q_kne (k := 155) (k2 := 12) (by decide) kpa kmo q))]; exact t30 i (by omega)) (by rw [ef36, q_setz (Or.inl (fun q => q_kne (k := 155) (k2 := 12) (by decide) kpa kmo q))]; exact k_le_of_eq (t29 2 (by decide) (by decide)) (show 4 ≤ q_z f as 2 from q_isl hf0 (by omega)))
    refine q_vret cx hr hlk hB dX12_keeps_85 ?_
    exact hpk9
  · exact absurd c22 (by omega)
set_option maxHeartbeats 4000000 in
set_option maxRecDepth 100000 in
theorem r_keeps6 (l : Launch) (g : q_G) {K : Nat → Nat} {L : List Nat} (hN : L.Nodup) {f : Nat → va_E} (hT : q_Ty g K L f) (mo : Nat) (hmo : mo ∈ L) (kmo : K mo = 12) (as : Nat) (has : as ∈ L) (kas : K as = 153) (pa : Nat) (hpa : pa ∈ L) (kpa : K pa = 155) (xy : Int) (lxy : 4 ≤ xy) (uxy : xy ≤ 60) (hf0 : q_is (q_z f as 2) xy) (hf1 : q_is (q_z f mo 21) 6) (hr0 : q_ir (q_r f mo 15) as) (hr1 : q_ir (q_r f mo 17) pa) (hpk : q_pk f mo pa) : q_Ct l g K L yX12_keeps cX12_keeps 2 none 1 24 [.ref mo] f [(12, 21, 21), (155, 0, 3947)] (q_Pv (fun (f1 : Nat → va_E) => (q_pk f1 mo pa))) := by
  refine q_ofb (by decide +kernel) hN hT (Nat.le_of_ble_eq_true rfl) ?_
  intro p e s m below meth c ls cx hr hlk hB hl
  have hl : lv_has ls 2 [(0, .ref mo)] := hl
  have J21 : ∀ (n : Nat) (f21 : Nat → va_E) (v21_1 : Int) (lv21_1 : 0 ≤ v21_1) (uv21_1 : v21_1 ≤ 9999) (w21_mo_21 : Int) (lw21_mo_21 : 5 ≤ w21_mo_21) (uw21_mo_21 : w21_mo_21 ≤ 5) (hj_as_2 : q_is (q_z f21 as 2) xy) (hj_mo_21 : q_is (q_z f21 mo 21) w21_mo_21) (hq_mo_15 : q_ir (q_r f21 mo 15) as) (hq_mo_17 : q_ir (q_r f21 mo 17) pa) (hsh : ∀ i : Int, 0 ≤ i → i < v21_1 → q_z f21 pa (Int.toNat i) = q_z f pa (Int.toNat (i + 658))) (hsg : ∀ i : Int, v21_1 ≤ i → q_z f21 pa (Int.toNat i) = q_z f pa (Int.toNat i)) (hmu : (Int.toNat (2147483647 - v21_1)) < n) (H : Heap) (locs : List Loc) (hB : q_B g K L (fun q => q ∈ L) [(12, 21, 21), (155, 0, 3947)] f f21 s H locs) (ls : Array Slot) (hl : lv_has ls 2 [(0, .ref mo), (1, .int (q_i v21_1))]), W p l e { frames := 1, cells := 0, slots := 0, locals := 24 } s m ([.ref mo] : List Value).toArray below meth c H locs 0 0 (MQ below (q_Q g K L [(12, 21, 21), (155, 0, 3947)] f (q_Pv (fun (f1 : Nat → va_E) => (q_pk f1 mo pa)))) ([.ref mo] : List Value).toArray s 0 0 (fun q => q ∈ L)) (F0 m 21 ls []) := by
    intro n
    induction n with
    | zero =>
      intro f21 v21_1 lv21_1 uv21_1 w21_mo_21 lw21_mo_21 uw21_mo_21 hj_as_2 hj_mo_21 hq_mo_15 hq_mo_17 hsh hsg hmu
      exact absurd hmu (Nat.not_lt_zero _)
    | succ n ih21 =>
      intro f21 v21_1 lv21_1 uv21_1 w21_mo_21 lw21_mo_21 uw21_mo_21 hj_as_2 hj_mo_21 hq_mo_15 hq_mo_17 hsh hsg hmu H locs hB ls hl
      refine q_ild_n cx dX12_keeps_21 rfl (lv_at hl 1 rfl) ?_
      refine q_sipush cx dX12_keeps_22 rfl ?_
      refine q_ald_n cx dX12_keeps_25 rfl (lv_at hl 0 rfl) ?_
      refine q_gX12_158 cx hB hmo kmo hj_mo_21 dX12_keeps_26 (fun lb411 ub411 => ?_)
      refine q_imul cx dX12_keeps_29 ?_
      refine q_icge (tgt := 55) cx ⟨by omega, by omega⟩ ⟨by omega, by omega⟩ dX12_keeps_30 (by decide) (fun c412 => ?_) (fun c412 => ?_)
      · have hpk5 : q_pk f21 mo pa := k_pksh hpk hf1 (Eq.trans hj_mo_21 (by omega)) (fun i h0 h1 => hsh i h0 (by omega))
        refine q_ald_n cx dX12_keeps_55 rfl (lv_at hl 0 rfl) ?_
        refine q_gX12_26 cx hB hmo kmo hq_mo_15 dX12_keeps_56 (fun hb413 kb413 => ?_)
        refine q_iconst cx dX12_keeps_59 ?_
        refine q_ald_n cx dX12_keeps_60 rfl (lv_at hl 0 rfl) ?_
        refine q_gX12_32 cx hB hmo kmo hq_mo_17 dX12_keeps_61 (fun hb414 kb414 => ?_)
        refine q_sipush cx dX12_keeps_64 rfl ?_
        refine q_ald_n cx dX12_keeps_67 rfl (lv_at hl 0 rfl) ?_
        refine q_gX12_158 cx hB hmo kmo hj_mo_21 dX12_keeps_68 (fun lb415 ub415 => ?_)
        refine q_imul cx dX12_keeps_71 ?_
        refine q_cSv (As := [.ref as, .int (q_i 0), .ref pa, .int (q_i (658 * w21_mo_21))]) (rest := []) cx hB (fun _ h => h) hN (r_copiesRow_as_pa l g hN hB.2.1 as has kas 0 (by decide) (by decide) pa hpa kpa (658 * w21_mo_21) (by omega) (by omega) w21_mo_21 (by omega) (by omega) (by omega)) q_cX12_154 q_dX12_copiesRow (by decide) rfl rfl hl.1 rfl (Nat.le_of_ble_eq_true rfl) dX12_keeps_72 (fun H locs f416 h418 hF hB => ?_)
        obtain ⟨t419, t420⟩ := h418
        have z421 : q_is (q_z f416 as 2) xy := Eq.trans (hF.z has (by rw [kas]; rfl)) hj_as_2
        have z422 : q_is (q_z f416 mo 21) w21_mo_21 := Eq.trans (hF.z hmo (by rw [kmo]; rfl)) hj_mo_21
        have z423 : q_ir (q_r f416 mo 15) as := Eq.trans (hF.r hmo (by rw [kmo]; rfl)) hq_mo_15
        have z424 : q_ir (q_r f416 mo 17) pa := Eq.trans (hF.r hmo (by rw [kmo]; rfl)) hq_mo_17
        refine q_ald_n cx dX12_keeps_75 rfl (lv_at hl 0 rfl) ?_
        refine lv_dup cx.1 cx.2.1 dX12_keeps_76 rfl ?_
        refine q_gX12_158 cx hB hmo kmo z422 dX12_keeps_77 (fun lb425 ub425 => ?_)
        refine q_iconst cx dX12_keeps_80 ?_
        refine q_iadd cx dX12_keeps_81 ?_
        refine q_pX12_158 cx hB hmo kmo ⟨by omega, by omega⟩ (by omega) (by omega) rfl dX12_keeps_82 (fun H locs f426 ef426 z427 hB => ?_)
        have z428 : q_is (q_z f426 as 2) xy := by rw [ef426, q_setz (Or.inr (by decide))]; exact z421
        have z429 : q_ir (q_r f426 mo 15) as := by rw [ef426, q_setr (Or.inr (by decide))]; exact z423
        have z430 : q_ir (q_r f426 mo 17) pa := by rw [ef426, q_setr (Or.inr (by decide))]; exact z424
        have hpk9 : q_pk f426 mo pa := k_pkinc hpk5 hj_mo_21 (by omega) z427 (fun i hi => by rw [ef426, q_setz (Or.inl (fun q => q_kne (k := 155) (k2 := 12) (by decide) kpa kmo q))]; exact t420 i (by omega)) (by rw [ef426, q_setz (Or.inl (fun q => q_kne (k := 155) (k2 := 12) (by decide) kpa kmo q))]; exact k_le_of_eq (t419 2 (by decide) (by decide)) (show 4 ≤ q_z f21 as 2 from q_isl hj_as_2 (by omega)))
        refine q_vret cx hr hlk hB dX12_keeps_85 ?_
        exact hpk9
      · refine q_ald_n cx dX12_keeps_33 rfl (lv_at hl 0 rfl) ?_
        refine q_gX12_32 cx hB hmo kmo hq_mo_17 dX12_keeps_34 (fun hb431 kb431 => ?_)
        refine q_ild_n cx dX12_keeps_37 rfl (lv_at hl 1 rfl) ?_
        refine q_ald_n cx dX12_keeps_38 rfl (lv_at hl 0 rfl) ?_
        refine q_gX12_32 cx hB hmo kmo hq_mo_17 dX12_keeps_39 (fun hb432 kb432 => ?_)
        refine q_ild_n cx dX12_keeps_42 rfl (lv_at hl 1 rfl) ?_
        refine q_sipush cx dX12_keeps_43 rfl ?_
        refine q_iadd cx dX12_keeps_46 ?_
        obtain ⟨x433, ex433⟩ : ∃ zz, q_is (q_z f21 pa (Int.toNat (v21_1 + 658))) zz := ⟨_, q_isr _⟩
        refine q_rald (n := 3948) cx hB hpa kpa q_K5 rfl (by omega) (by omega) (by decide) ex433 dX12_keeps_47 (fun rx433 lx433 ux433 => ?_)
        refine q_rast (n := 3948) cx hB hpa kpa q_K5 rfl (by omega) (by omega) (by decide) ⟨by omega, by omega⟩ (by rw [q_rowE (n := 3948) (p := Int.toNat (v21_1 + 658)) q_K5 rfl (by omega) (by omega)]; exact lx433) (by rw [q_rowE (n := 3948) (p := Int.toNat (v21_1 + 658)) q_K5 rfl (by omega) (by omega)]; exact ux433) (q_inWi (lo := 0) (hi := 3289) (by decide) (by omega) (by omega)) dX12_keeps_48 (fun H locs f435 ef435 z436 hB => ?_)
        have z437 : q_is (q_z f435 as 2) xy := by rw [ef435, q_setz (Or.inl (fun q => by rw [q, kpa] at kas; exact absurd kas (by decide)))]; exact hj_as_2
        have z438 : q_is (q_z f435 mo 21) w21_mo_21 := by rw [ef435, q_setz (Or.inl (fun q => by rw [q, kpa] at kmo; exact absurd kmo (by decide)))]; exact hj_mo_21
        have z439 : q_ir (q_r f435 mo 15) as := by rw [ef435, q_setr (Or.inl (fun q => by rw [q, kpa] at kmo; exact absurd kmo (by decide)))]; exact hq_mo_15
        have z440 : q_ir (q_r f435 mo 17) pa := by rw [ef435, q_setr (Or.inl (fun q => by rw [q, kpa] at kmo; exact absurd kmo (by decide)))]; exact hq_mo_17
        refine q_iinc (lv' := [(1, .int (q_i (v21_1 + 1))), (0, .ref mo)]) cx dX12_keeps_49 hl (k := 1) rfl (by decide) rfl (fun ls hl => ?_)
        refine lv_goto (tgt := 21) cx.1 cx.2.1 dX12_keeps_52 (by decide) ?_
        exact ih21 f435 (v21_1 + 1) (by omega) (by omega) w21_mo_21 (by omega) (by omega) z437 z438 z439 z440 (k_shb hsh hsg ef435 z436 ex433 (by omega)).1 (k_shb hsh hsg ef435 z436 ex433 (by omega)).2 (by omega) H locs hB ls (lv_sub hl [1, 0] rfl)
  obtain ⟨H, hH⟩ : ∃ H : Heap, H = s.heap := ⟨_, rfl⟩
  obtain ⟨locs, hlocs⟩ : ∃ z : List Loc, z = [] := ⟨_, rfl⟩
  rw [← hH, ← hlocs] at hB
  rw [← hH, ← hlocs]
  refine q_ald_n cx dX12_keeps_0 rfl (lv_at hl 0 rfl) ?_
  refine q_gX12_158 cx hB hmo kmo hf1 dX12_keeps_1 (fun lb441 ub441 => ?_)
  refine q_bipush cx dX12_keeps_4 rfl ?_
  refine q_icne (tgt := 55) cx ⟨by decide, by decide⟩ ⟨by decide, by decide⟩ dX12_keeps_6 (by decide) (fun c442 => ?_) (fun c442 => ?_)
  · exact absurd c442 (by omega)
  · refine q_ald_n cx dX12_keeps_9 rfl (lv_at hl 0 rfl) ?_
    refine lv_dup cx.1 cx.2.1 dX12_keeps_10 rfl ?_
    refine q_gX12_158 cx hB hmo kmo hf1 dX12_keeps_11 (fun lb443 ub443 => ?_)
    refine q_iconst cx dX12_keeps_14 ?_
    refine q_isub cx dX12_keeps_15 ?_
    refine q_pX12_158 cx hB hmo kmo ⟨by decide, by decide⟩ (by decide) (by decide) rfl dX12_keeps_16 (fun H locs f444 ef444 z445 hB => ?_)
    have z446 : q_is (q_z f444 as 2) xy := by rw [ef444, q_setz (Or.inr (by decide))]; exact hf0
    have z447 : q_ir (q_r f444 mo 15) as := by rw [ef444, q_setr (Or.inr (by decide))]; exact hr0
    have z448 : q_ir (q_r f444 mo 17) pa := by rw [ef444, q_setr (Or.inr (by decide))]; exact hr1
    refine q_iconst cx dX12_keeps_19 ?_
    refine lv_istore_n (lv' := [(1, .int (q_i 0)), (0, .ref mo)]) cx.1 cx.2.1 dX12_keeps_20 rfl hl (by decide) rfl (fun ls hl => ?_)
    exact J21 ((Int.toNat (2147483647 - 0)) + 1) f444 0 (by decide) (by decide) (6 - 1) (by decide) (by decide) z446 z445 z447 z448 (fun i h0 h1 => absurd h1 (by omega)) (fun i h0 => by rw [ef444, q_setz (Or.inl (fun q => q_kne (k := 155) (k2 := 12) (by decide) kpa kmo q))]) (Nat.lt_succ_self _) H locs hB ls (lv_sub hl [1, 0] rfl)
set_option maxHeartbeats 4000000 in
set_option maxRecDepth 100000 in
theorem r_kept (l : Launch) (g : q_G) {K : Nat → Nat} {L : List Nat} (hN : L.Nodup) {f : Nat → va_E} (hT : q_Ty g K L f) (mo : Nat) (hmo : mo ∈ L) (kmo : K mo = 12) (a0 : Int) (la0 : (-2147483648) ≤ a0) (ua0 : a0 ≤ 2147483647) (as : Nat) (has : as ∈ L) (kas : K as = 153) (pa : Nat) (hpa : pa ∈ L) (kpa : K pa = 155) (xy : Int) (lxy : 4 ≤ xy) (uxy : xy ≤ 60) (hf0 : q_is (q_z f as 2) xy) (hr0 : q_ir (q_r f mo 15) as) (hr1 : q_ir (q_r f mo 17) pa) (hpk : q_pk f mo pa) : q_Ct l g K L yX12_kept cX12_kept 2 (some .int) 2 45 [.ref mo, .int (q_i a0)] f [(12, 21, 21), (155, 0, 3947)] (q_Pi (fun (z : Int) (f1 : Nat → va_E) => z = a0 ∧ (q_pk f1 mo pa))) := by
  refine q_ofb (by decide +kernel) hN hT (Nat.le_of_ble_eq_true rfl) ?_
  intro p e s m below meth c ls cx hr hlk hB hl
  have hl : lv_has ls 2 [(0, .ref mo), (1, .int (q_i a0))] := hl
  obtain ⟨H, hH⟩ : ∃ H : Heap, H = s.heap := ⟨_, rfl⟩
  obtain ⟨locs, hlocs⟩ : ∃ z : List Loc, z = [] := ⟨_, rfl⟩
  rw [← hH, ← hlocs] at hB
  rw [← hH, ← hlocs]
  refine q_ald_n cx dX12_kept_0 rfl (lv_at hl 0 rfl) ?_
  obtain ⟨x17, ex17⟩ : ∃ zz, q_is (q_z f mo 21) zz := ⟨_, q_isr _⟩
  obtain ⟨lx17, ux17⟩ := q_isb ex17 (q_fib hB.2.1 hmo kmo (by decide) rfl)
  by_cases c18 : x17 ≤ 5
  · refine q_cVv (As := []) (rest := []) cx hB (fun _ h => h) hN hmo kmo (by decide) rfl (r_keeps0 l g hN hB.2.1 mo hmo kmo as has kas pa hpa kpa xy (by omega) (by omega) x17 (by omega) (by omega) hf0 ex17 hr0 hr1 hpk) q_cX12_161 q_dX12_keeps (by decide) rfl rfl hl.1 rfl (Nat.le_of_ble_eq_true rfl) dX12_kept_1 (fun H locs f19 h21 hF hB => ?_)
    have g22 := h21
    have z23 : q_is (q_z f19 as 2) xy := Eq.trans (hF.z has (by rw [kas]; rfl)) hf0
    have z24 : q_ir (q_r f19 mo 15) as := Eq.trans (hF.r hmo (by rw [kmo]; rfl)) hr0
    have z25 : q_ir (q_r f19 mo 17) pa := Eq.trans (hF.r hmo (by rw [kmo]; rfl)) hr1
    refine q_ild_n cx dX12_kept_4 rfl (lv_at hl 1 rfl) ?_
    refine q_iret cx hr hlk hB dX12_kept_5 ⟨by omega, by omega⟩ ?_
    exact ⟨rfl, g22⟩
  · refine q_cVv (As := []) (rest := []) cx hB (fun _ h => h) hN hmo kmo (by decide) rfl (r_keeps6 l g hN hB.2.1 mo hmo kmo as has kas pa hpa kpa xy (by omega) (by omega) hf0 (Eq.trans ex17 (by omega)) hr0 hr1 hpk) q_cX12_161 q_dX12_keeps (by decide) rfl rfl hl.1 rfl (Nat.le_of_ble_eq_true rfl) dX12_kept_1 (fun H locs f26 h28 hF hB => ?_)
    have g29 := h28
    have z30 : q_is (q_z f26 as 2) xy := Eq.trans (hF.z has (by rw [kas]; rfl)) hf0
    have z31 : q_ir (q_r f26 mo 15) as := Eq.trans (hF.r hmo (by rw [kmo]; rfl)) hr0
    have z32 : q_ir (q_r f26 mo 17) pa := Eq.trans (hF.r hmo (by rw [kmo]; rfl)) hr1
    refine q_ild_n cx dX12_kept_4 rfl (lv_at hl 1 rfl) ?_
    refine q_iret cx hr hlk hB dX12_kept_5 ⟨by omega, by omega⟩ ?_
    exact ⟨rfl, g29⟩
