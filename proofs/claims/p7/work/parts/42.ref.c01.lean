set_option maxHeartbeats 4000000 in
set_option maxRecDepth 100000 in
theorem r_clears (l : Launch) (g : q_G) {K : Nat → Nat} {L : List Nat} (hN : L.Nodup) {f : Nat → va_E} (hT : q_Ty g K L f) (mo : Nat) (hmo : mo ∈ L) (kmo : K mo = 12) (sr : Nat) (hsr : sr ∈ L) (ksr : K sr = 151) (nm : Nat) (hnm : nm ∈ L) (knm : K nm = 156) (hr0 : q_ir (q_r f mo 13) sr) (hr1 : q_ir (q_r f mo 18) nm) : q_Ct l g K L yX12_clears cX12_clears 2 none 0 0 [.ref mo] f [(151, 0, 657), (156, 0, 9)] (q_Pv (fun (f1 : Nat → va_E) => 0 ≤ q_z f1 sr 3 ∧ q_z f1 sr 3 ≤ 9999 ∧ 0 ≤ q_z f1 sr 4 ∧ q_z f1 sr 4 ≤ 60 ∧ q_is (q_z f1 sr 0) 0 ∧ q_gr f1 sr)) := by
  refine q_ofb (by decide +kernel) hN hT (Nat.le_of_ble_eq_true rfl) ?_
  intro p e s m below meth c ls cx hr hlk hB hl
  have hl : lv_has ls 2 [(0, .ref mo)] := hl
  have J24 : ∀ (n : Nat) (f24 : Nat → va_E) (v24_1 : Int) (lv24_1 : 0 ≤ v24_1) (uv24_1 : v24_1 ≤ 10) (hq_mo_13 : q_ir (q_r f24 mo 13) sr) (hq_mo_18 : q_ir (q_r f24 mo 18) nm) (hcl2 : ∀ j : Nat, (j : Int) < 658 → q_z f24 sr j = 0) (hmu : (Int.toNat (2147483647 - v24_1)) < n) (H : Heap) (locs : List Loc) (hB : q_B g K L (fun q => q ∈ L) [(151, 0, 657), (156, 0, 9)] f f24 s H locs) (ls : Array Slot) (hl : lv_has ls 2 [(0, .ref mo), (1, .int (q_i v24_1))]), W p l e { frames := 0, cells := 0, slots := 0, locals := 0 } s m ([.ref mo] : List Value).toArray below meth c H locs 0 0 (MQ below (q_Q g K L [(151, 0, 657), (156, 0, 9)] f (q_Pv (fun (f1 : Nat → va_E) => 0 ≤ q_z f1 sr 3 ∧ q_z f1 sr 3 ≤ 9999 ∧ 0 ≤ q_z f1 sr 4 ∧ q_z f1 sr 4 ≤ 60 ∧ q_is (q_z f1 sr 0) 0 ∧ q_gr f1 sr))) ([.ref mo] : List Value).toArray s 0 0 (fun q => q ∈ L)) (F0 m 24 ls []) := by
    intro n
    induction n with
    | zero =>
      intro f24 v24_1 lv24_1 uv24_1 hq_mo_13 hq_mo_18 hcl2 hmu
      exact absurd hmu (Nat.not_lt_zero _)
    | succ n ih24 =>
      intro f24 v24_1 lv24_1 uv24_1 hq_mo_13 hq_mo_18 hcl2 hmu H locs hB ls hl
      refine q_ild_n cx dX12_clears_24 rfl (lv_at hl 1 rfl) ?_
      refine q_bipush cx dX12_clears_25 rfl ?_
      refine q_icge (tgt := 43) cx ⟨by omega, by omega⟩ ⟨by decide, by decide⟩ dX12_clears_27 (by decide) (fun c292 => ?_) (fun c292 => ?_)
      · have z293 : q_is (q_z f24 sr 3) 0 := hcl2 3 (by omega)
        have z294 : q_is (q_z f24 sr 4) 0 := hcl2 4 (by omega)
        have z295 : q_is (q_z f24 sr 0) 0 := hcl2 0 (by omega)
        refine q_ald_n cx dX12_clears_43 rfl (lv_at hl 0 rfl) ?_
        refine q_gX12_20 cx hB hmo kmo hq_mo_13 dX12_clears_44 (fun hb296 kb296 => ?_)
        refine q_iconst cx dX12_clears_47 ?_
        refine q_bipush cx dX12_clears_48 rfl ?_
        refine q_sast cx hB hsr ksr (by decide) (by decide) ⟨by decide, by decide⟩ rfl dX12_clears_50 (fun H locs f297 ef297 z298 hB => ?_)
        have z299 : q_is (q_z f297 sr 3) 0 := by rw [ef297, q_setz (Or.inr (by decide))]; exact z293
        have z300 : q_is (q_z f297 sr 4) 0 := by rw [ef297, q_setz (Or.inr (by decide))]; exact z294
        have z301 : q_is (q_z f297 sr 0) 0 := by rw [ef297, q_setz (Or.inr (by decide))]; exact z295
        have z302 : q_ir (q_r f297 mo 13) sr := by rw [ef297, q_setr (Or.inr (by decide))]; exact hq_mo_13
        have z303 : q_ir (q_r f297 mo 18) nm := by rw [ef297, q_setr (Or.inr (by decide))]; exact hq_mo_18
        have gr51 : q_gr f297 sr := k_grcl (fun j hj => by
            by_cases h9 : j = 2
            · exact Or.inr h9
            · exact Or.inl (by rw [ef297, q_setz (Or.inr (show j ≠ Int.toNat 2 from h9))]; exact hcl2 j hj)) z298
        refine q_ald_n cx dX12_clears_51 rfl (lv_at hl 0 rfl) ?_
        refine q_gX12_20 cx hB hmo kmo z302 dX12_clears_52 (fun hb304 kb304 => ?_)
        refine q_iconst cx dX12_clears_55 ?_
        refine q_iconst cx dX12_clears_56 ?_
        refine q_sast cx hB hsr ksr (by decide) (by decide) ⟨by decide, by decide⟩ rfl dX12_clears_57 (fun H locs f305 ef305 z306 hB => ?_)
        have z307 : q_is (q_z f305 sr 3) 0 := by rw [ef305, q_setz (Or.inr (by decide))]; exact z299
        have z308 : q_is (q_z f305 sr 4) 0 := by rw [ef305, q_setz (Or.inr (by decide))]; exact z300
        have z309 : q_is (q_z f305 sr 0) 0 := by rw [ef305, q_setz (Or.inr (by decide))]; exact z301
        have z310 : q_is (q_z f305 sr 2) 12 := by rw [ef305, q_setz (Or.inr (by decide))]; exact z298
        have z311 : q_ir (q_r f305 mo 13) sr := by rw [ef305, q_setr (Or.inr (by decide))]; exact z302
        have z312 : q_ir (q_r f305 mo 18) nm := by rw [ef305, q_setr (Or.inr (by decide))]; exact z303
        have g313 : q_gr f305 sr := q_gr_put gr51 ef305 z306 rfl (by decide) (by decide)
        refine q_ald_n cx dX12_clears_58 rfl (lv_at hl 0 rfl) ?_
        refine q_gX12_20 cx hB hmo kmo z311 dX12_clears_59 (fun hb314 kb314 => ?_)
        refine q_bipush cx dX12_clears_62 rfl ?_
        refine q_iconst cx dX12_clears_64 ?_
        refine q_sast cx hB hsr ksr (by decide) (by decide) ⟨by decide, by decide⟩ rfl dX12_clears_65 (fun H locs f315 ef315 z316 hB => ?_)
        have z317 : q_is (q_z f315 sr 3) 0 := by rw [ef315, q_setz (Or.inr (by decide))]; exact z307
        have z318 : q_is (q_z f315 sr 4) 0 := by rw [ef315, q_setz (Or.inr (by decide))]; exact z308
        have z319 : q_is (q_z f315 sr 0) 0 := by rw [ef315, q_setz (Or.inr (by decide))]; exact z309
        have z320 : q_is (q_z f315 sr 2) 12 := by rw [ef315, q_setz (Or.inr (by decide))]; exact z310
        have z321 : q_is (q_z f315 sr 5) 1 := by rw [ef315, q_setz (Or.inr (by decide))]; exact z306
        have z322 : q_ir (q_r f315 mo 13) sr := by rw [ef315, q_setr (Or.inr (by decide))]; exact z311
        have z323 : q_ir (q_r f315 mo 18) nm := by rw [ef315, q_setr (Or.inr (by decide))]; exact z312
        have g324 : q_gr f315 sr := q_gr_put g313 ef315 z316 rfl (by decide) (by decide)
        refine q_ald_n cx dX12_clears_66 rfl (lv_at hl 0 rfl) ?_
        refine q_gX12_20 cx hB hmo kmo z322 dX12_clears_67 (fun hb325 kb325 => ?_)
        refine q_bipush cx dX12_clears_70 rfl ?_
        refine q_iconst cx dX12_clears_72 ?_
        refine q_sast cx hB hsr ksr (by decide) (by decide) ⟨by decide, by decide⟩ rfl dX12_clears_73 (fun H locs f326 ef326 z327 hB => ?_)
        have z328 : q_is (q_z f326 sr 3) 0 := by rw [ef326, q_setz (Or.inr (by decide))]; exact z317
        have z329 : q_is (q_z f326 sr 4) 0 := by rw [ef326, q_setz (Or.inr (by decide))]; exact z318
        have z330 : q_is (q_z f326 sr 0) 0 := by rw [ef326, q_setz (Or.inr (by decide))]; exact z319
        have z331 : q_is (q_z f326 sr 2) 12 := by rw [ef326, q_setz (Or.inr (by decide))]; exact z320
        have z332 : q_is (q_z f326 sr 5) 1 := by rw [ef326, q_setz (Or.inr (by decide))]; exact z321
        have z333 : q_is (q_z f326 sr 6) 2 := by rw [ef326, q_setz (Or.inr (by decide))]; exact z316
        have z334 : q_ir (q_r f326 mo 13) sr := by rw [ef326, q_setr (Or.inr (by decide))]; exact z322
        have z335 : q_ir (q_r f326 mo 18) nm := by rw [ef326, q_setr (Or.inr (by decide))]; exact z323
        have g336 : q_gr f326 sr := q_gr_put g324 ef326 z327 rfl (by decide) (by decide)
        refine q_ald_n cx dX12_clears_74 rfl (lv_at hl 0 rfl) ?_
        refine q_gX12_20 cx hB hmo kmo z334 dX12_clears_75 (fun hb337 kb337 => ?_)
        refine q_bipush cx dX12_clears_78 rfl ?_
        refine q_iconst cx dX12_clears_80 ?_
        refine q_sast cx hB hsr ksr (by decide) (by decide) ⟨by decide, by decide⟩ rfl dX12_clears_81 (fun H locs f338 ef338 z339 hB => ?_)
        have z340 : q_is (q_z f338 sr 3) 0 := by rw [ef338, q_setz (Or.inr (by decide))]; exact z328
        have z341 : q_is (q_z f338 sr 4) 0 := by rw [ef338, q_setz (Or.inr (by decide))]; exact z329
        have z342 : q_is (q_z f338 sr 0) 0 := by rw [ef338, q_setz (Or.inr (by decide))]; exact z330
        have z343 : q_is (q_z f338 sr 2) 12 := by rw [ef338, q_setz (Or.inr (by decide))]; exact z331
        have z344 : q_is (q_z f338 sr 5) 1 := by rw [ef338, q_setz (Or.inr (by decide))]; exact z332
        have z345 : q_is (q_z f338 sr 6) 2 := by rw [ef338, q_setz (Or.inr (by decide))]; exact z333
        have z346 : q_is (q_z f338 sr 7) 5 := by rw [ef338, q_setz (Or.inr (by decide))]; exact z327
        have z347 : q_ir (q_r f338 mo 13) sr := by rw [ef338, q_setr (Or.inr (by decide))]; exact z334
        have z348 : q_ir (q_r f338 mo 18) nm := by rw [ef338, q_setr (Or.inr (by decide))]; exact z335
        have g349 : q_gr f338 sr := q_gr_put g336 ef338 z339 rfl (by decide) (by decide)
        refine q_vret cx hr hlk hB dX12_clears_82 ?_
        exact ⟨(q_isl z340 (by omega)), (q_isu z340 (by omega)), (q_isl z341 (by omega)), (q_isu z341 (by omega)), z342, g349⟩
      · refine q_ald_n cx dX12_clears_30 rfl (lv_at hl 0 rfl) ?_
        refine q_gX12_35 cx hB hmo kmo hq_mo_18 dX12_clears_31 (fun hb350 kb350 => ?_)
        refine q_ild_n cx dX12_clears_34 rfl (lv_at hl 1 rfl) ?_
        refine q_lconst (z := 0) cx (by decide) dX12_clears_35 ?_
        refine q_last (n := 10) cx hB hnm knm (by decide) rfl rfl (by omega) (by omega) (by decide) rfl (q_inWi (lo := 0) (hi := 9) (by decide) (by omega) (by omega)) dX12_clears_36 (fun H locs f351 ef351 z352 hB => ?_)
        have z353 : q_ir (q_r f351 mo 13) sr := by rw [ef351, q_setr (Or.inl (fun q => by rw [q, knm] at kmo; exact absurd kmo (by decide)))]; exact hq_mo_13
        have z354 : q_ir (q_r f351 mo 18) nm := by rw [ef351, q_setr (Or.inl (fun q => by rw [q, knm] at kmo; exact absurd kmo (by decide)))]; exact hq_mo_18
        refine q_iinc (lv' := [(1, .int (q_i (v24_1 + 1))), (0, .ref mo)]) cx dX12_clears_37 hl (k := 1) rfl (by decide) rfl (fun ls hl => ?_)
        refine lv_goto (tgt := 24) cx.1 cx.2.1 dX12_clears_40 (by decide) ?_
        exact ih24 f351 (v24_1 + 1) (by omega) (by omega) z353 z354 (fun j hj => by rw [ef351, q_setz (Or.inl (fun q => q_kne (k := 151) (k2 := 156) (by decide) ksr knm q))]; exact hcl2 j hj) (by omega) H locs hB ls (lv_sub hl [1, 0] rfl)
  have J2 : ∀ (n : Nat) (f2 : Nat → va_E) (v2_1 : Int) (lv2_1 : 0 ≤ v2_1) (uv2_1 : v2_1 ≤ 658) (hq_mo_13 : q_ir (q_r f2 mo 13) sr) (hq_mo_18 : q_ir (q_r f2 mo 18) nm) (hcl : ∀ j : Nat, (j : Int) < v2_1 → q_z f2 sr j = 0) (hmu : (Int.toNat (2147483647 - v2_1)) < n) (H : Heap) (locs : List Loc) (hB : q_B g K L (fun q => q ∈ L) [(151, 0, 657), (156, 0, 9)] f f2 s H locs) (ls : Array Slot) (hl : lv_has ls 2 [(0, .ref mo), (1, .int (q_i v2_1))]), W p l e { frames := 0, cells := 0, slots := 0, locals := 0 } s m ([.ref mo] : List Value).toArray below meth c H locs 0 0 (MQ below (q_Q g K L [(151, 0, 657), (156, 0, 9)] f (q_Pv (fun (f1 : Nat → va_E) => 0 ≤ q_z f1 sr 3 ∧ q_z f1 sr 3 ≤ 9999 ∧ 0 ≤ q_z f1 sr 4 ∧ q_z f1 sr 4 ≤ 60 ∧ q_is (q_z f1 sr 0) 0 ∧ q_gr f1 sr))) ([.ref mo] : List Value).toArray s 0 0 (fun q => q ∈ L)) (F0 m 2 ls []) := by
    intro n
    induction n with
    | zero =>
      intro f2 v2_1 lv2_1 uv2_1 hq_mo_13 hq_mo_18 hcl hmu
      exact absurd hmu (Nat.not_lt_zero _)
    | succ n ih2 =>
      intro f2 v2_1 lv2_1 uv2_1 hq_mo_13 hq_mo_18 hcl hmu H locs hB ls hl
      refine q_ild_n cx dX12_clears_2 rfl (lv_at hl 1 rfl) ?_
      refine q_sipush cx dX12_clears_3 rfl ?_
      refine q_icge (tgt := 22) cx ⟨by omega, by omega⟩ ⟨by decide, by decide⟩ dX12_clears_6 (by decide) (fun c355 => ?_) (fun c355 => ?_)
      · refine q_iconst cx dX12_clears_22 ?_
        refine lv_istore_n (lv' := [(1, .int (q_i 0)), (0, .ref mo)]) cx.1 cx.2.1 dX12_clears_23 rfl hl (by decide) rfl (fun ls hl => ?_)
        exact J24 ((Int.toNat (2147483647 - 0)) + 1) f2 0 (by decide) (by decide) hq_mo_13 hq_mo_18 (fun j hj => hcl j (by omega)) (Nat.lt_succ_self _) H locs hB ls (lv_sub hl [1, 0] rfl)
      · refine q_ald_n cx dX12_clears_9 rfl (lv_at hl 0 rfl) ?_
        refine q_gX12_20 cx hB hmo kmo hq_mo_13 dX12_clears_10 (fun hb356 kb356 => ?_)
        refine q_ild_n cx dX12_clears_13 rfl (lv_at hl 1 rfl) ?_
        refine q_iconst cx dX12_clears_14 ?_
        refine q_sastr cx hB hsr ksr (by omega) (by omega) ⟨by decide, by decide⟩ q_ew0 (q_inWi (lo := 0) (hi := 657) (by decide) (by omega) (by omega)) dX12_clears_15 (fun H locs f357 ef357 z358 hB => ?_)
        have z359 : q_ir (q_r f357 mo 13) sr := by rw [ef357, q_setr (Or.inl (fun q => by rw [q, ksr] at kmo; exact absurd kmo (by decide)))]; exact hq_mo_13
        have z360 : q_ir (q_r f357 mo 18) nm := by rw [ef357, q_setr (Or.inl (fun q => by rw [q, ksr] at kmo; exact absurd kmo (by decide)))]; exact hq_mo_18
        refine q_iinc (lv' := [(1, .int (q_i (v2_1 + 1))), (0, .ref mo)]) cx dX12_clears_16 hl (k := 1) rfl (by decide) rfl (fun ls hl => ?_)
        refine lv_goto (tgt := 2) cx.1 cx.2.1 dX12_clears_19 (by decide) ?_
        exact ih2 f357 (v2_1 + 1) (by omega) (by omega) z359 z360 (q_clb hcl ef357 z358 (by omega)) (by omega) H locs hB ls (lv_sub hl [1, 0] rfl)
  obtain ⟨H, hH⟩ : ∃ H : Heap, H = s.heap := ⟨_, rfl⟩
  obtain ⟨locs, hlocs⟩ : ∃ z : List Loc, z = [] := ⟨_, rfl⟩
  rw [← hH, ← hlocs] at hB
  rw [← hH, ← hlocs]
  refine q_iconst cx dX12_clears_0 ?_
  refine lv_istore_n (lv' := [(1, .int (q_i 0)), (0, .ref mo)]) cx.1 cx.2.1 dX12_clears_1 rfl hl (by decide) rfl (fun ls hl => ?_)
  exact J2 ((Int.toNat (2147483647 - 0)) + 1) f 0 (by decide) (by decide) hr0 hr1 (fun j hj => absurd hj (by omega)) (Nat.lt_succ_self _) H locs hB ls (lv_sub hl [1, 0] rfl)
set_option maxHeartbeats 4000000 in
set_option maxRecDepth 100000 in
theorem r_keeps0 (l : Launch) (g : q_G) {K : Nat → Nat} {L : List Nat} (hN : L.Nodup) {f : Nat → va_E} (hT : q_Ty g K L f) (mo : Nat) (hmo : mo ∈ L) (kmo : K mo = 12) (as : Nat) (has : as ∈ L) (kas : K as = 153) (pa : Nat) (hpa : pa ∈ L) (kpa : K pa = 155) (xy : Int) (lxy : 4 ≤ xy) (uxy : xy ≤ 60) (xn : Int) (lxn : 0 ≤ xn) (uxn : xn ≤ 5) (xc : Int) (lxc : 0 ≤ xc) (uxc : xc ≤ 10) (hf0 : q_is (q_z f as 2) xy) (hf1 : q_is (q_z f mo 21) xn) (hf2 : q_is (q_z f as 0) xc) (hr0 : q_ir (q_r f mo 15) as) (hr1 : q_ir (q_r f mo 17) pa) (hpk : q_pk f mo pa) (hpc : q_pc f mo pa xc) : q_Ct l g K L yX12_keeps cX12_keeps 2 none 1 24 [.ref mo] f [(12, 21, 21), (155, 0, 3947)] (q_Pv (fun (f1 : Nat → va_E) => (q_pk f1 mo pa) ∧ (q_pc f1 mo pa xc))) := by
  refine q_ofb (by decide +kernel) hN hT (Nat.le_of_ble_eq_true rfl) ?_
  intro p e s m below meth c ls cx hr hlk hB hl
  have hl : lv_has ls 2 [(0, .ref mo)] := hl
  obtain ⟨H, hH⟩ : ∃ H : Heap, H = s.heap := ⟨_, rfl⟩
  obtain ⟨locs, hlocs⟩ : ∃ z : List Loc, z = [] := ⟨_, rfl⟩
  rw [← hH, ← hlocs] at hB
  rw [← hH, ← hlocs]
  refine q_ald_n cx dX12_keeps_0 rfl (lv_at hl 0 rfl) ?_
  refine q_gX12_158 cx hB hmo kmo hf1 dX12_keeps_1 (fun lb23 ub23 => ?_)
  refine q_bipush cx dX12_keeps_4 rfl ?_
  refine q_icne (tgt := 55) cx ⟨by omega, by omega⟩ ⟨by decide, by decide⟩ dX12_keeps_6 (by decide) (fun c24 => ?_) (fun c24 => ?_)
  · refine q_ald_n cx dX12_keeps_55 rfl (lv_at hl 0 rfl) ?_
    refine q_gX12_26 cx hB hmo kmo hr0 dX12_keeps_56 (fun hb25 kb25 => ?_)
    refine q_iconst cx dX12_keeps_59 ?_
    refine q_ald_n cx dX12_keeps_60 rfl (lv_at hl 0 rfl) ?_
    refine q_gX12_32 cx hB hmo kmo hr1 dX12_keeps_61 (fun hb26 kb26 => ?_)
    refine q_sipush cx dX12_keeps_64 rfl ?_
    refine q_ald_n cx dX12_keeps_67 rfl (lv_at hl 0 rfl) ?_
    refine q_gX12_158 cx hB hmo kmo hf1 dX12_keeps_68 (fun lb27 ub27 => ?_)
    refine q_imul cx dX12_keeps_71 ?_
    refine q_cSv (As := [.ref as, .int (q_i 0), .ref pa, .int (q_i (658 * xn))]) (rest := []) cx hB (fun _ h => h) hN (r_copiesRow_as_pa l g hN hB.2.1 as has kas 0 (by decide) (by decide) pa hpa kpa (658 * xn) (by omega) (by omega) xn (by omega) (by omega) (by omega)) q_cX12_154 q_dX12_copiesRow (by decide) rfl rfl hl.1 rfl (Nat.le_of_ble_eq_true rfl) dX12_keeps_72 (fun H locs f28 h30 hF hB => ?_)
    obtain ⟨t31, t32⟩ := h30
    have z33 : q_is (q_z f28 as 2) xy := Eq.trans (hF.z has (by rw [kas]; rfl)) hf0
    have z34 : q_is (q_z f28 mo 21) xn := Eq.trans (hF.z hmo (by rw [kmo]; rfl)) hf1
    have z35 : q_is (q_z f28 as 0) xc := Eq.trans (hF.z has (by rw [kas]; rfl)) hf2
    have z36 : q_ir (q_r f28 mo 15) as := Eq.trans (hF.r hmo (by rw [kmo]; rfl)) hr0
    have z37 : q_ir (q_r f28 mo 17) pa := Eq.trans (hF.r hmo (by rw [kmo]; rfl)) hr1
    refine q_ald_n cx dX12_keeps_75 rfl (lv_at hl 0 rfl) ?_
    refine lv_dup cx.1 cx.2.1 dX12_keeps_76 rfl ?_
    refine q_gX12_158 cx hB hmo kmo z34 dX12_keeps_77 (fun lb38 ub38 => ?_)
    refine q_iconst cx dX12_keeps_80 ?_
    refine q_iadd cx dX12_keeps_81 ?_
    refine q_pX12_158 cx hB hmo kmo ⟨by omega, by omega⟩ (by omega) (by omega) rfl dX12_keeps_82 (fun H locs f39 ef39 z40 hB => ?_)
    have z41 : q_is (q_z f39 as 2) xy := by rw [ef39, q_setz (Or.inr (by decide))]; exact z33
    have z42 : q_is (q_z f39 as 0) xc := by rw [ef39, q_setz (Or.inr (by decide))]; exact z35
    have z43 : q_ir (q_r f39 mo 15) as := by rw [ef39, q_setr (Or.inr (by decide))]; exact z36
    have z44 : q_ir (q_r f39 mo 17) pa := by rw [ef39, q_setr (Or.inr (by decide))]; exact z37
    have hpk9 : q_pk f39 mo pa := k_pkinc hpk hf1 (by omega) z40 (fun i hi => by rw [ef39, q_setz (Or.inl (fun q => q_kne (k := 155) (k2 := 12) (by decide) kpa kmo q))]; exact t32 i (by omega)) (by rw [ef39, q_setz (Or.inl (fun q => q_kne (k := 155) (k2 := 12) (by decide) kpa kmo q))]; exact k_le_of_eq (t31 2 (by decide) (by decide)) (show 4 ≤ q_z f as 2 from q_isl hf0 (by omega)))
    have hpc9 : q_pc f39 mo pa xc := k_pcinc hpc hf1 (by omega) z40 (fun i hi => by rw [ef39, q_setz (Or.inl (fun q => q_kne (k := 155) (k2 := 12) (by decide) kpa kmo q))]; exact t32 i (by omega)) (by rw [ef39, q_setz (Or.inl (fun q => q_kne (k := 155) (k2 := 12) (by decide) kpa kmo q))]; exact k_pc_row (t31 0 (by decide) (by decide)) hf2)
    refine q_vret cx hr hlk hB dX12_keeps_85 ?_
    exact ⟨hpk9, hpc9⟩
  · exact absurd c24 (by omega)
set_option maxHeartbeats 4000000 in
set_option maxRecDepth 100000 in
theorem r_keeps6 (l : Launch) (g : q_G) {K : Nat → Nat} {L : List Nat} (hN : L.Nodup) {f : Nat → va_E} (hT : q_Ty g K L f) (mo : Nat) (hmo : mo ∈ L) (kmo : K mo = 12) (as : Nat) (has : as ∈ L) (kas : K as = 153) (pa : Nat) (hpa : pa ∈ L) (kpa : K pa = 155) (xy : Int) (lxy : 4 ≤ xy) (uxy : xy ≤ 60) (xc : Int) (lxc : 0 ≤ xc) (uxc : xc ≤ 10) (hf0 : q_is (q_z f as 2) xy) (hf1 : q_is (q_z f mo 21) 6) (hf2 : q_is (q_z f as 0) xc) (hr0 : q_ir (q_r f mo 15) as) (hr1 : q_ir (q_r f mo 17) pa) (hpk : q_pk f mo pa) (hpc : q_pc f mo pa xc) : q_Ct l g K L yX12_keeps cX12_keeps 2 none 1 24 [.ref mo] f [(12, 21, 21), (155, 0, 3947)] (q_Pv (fun (f1 : Nat → va_E) => (q_pk f1 mo pa) ∧ (q_pc f1 mo pa xc))) := by
  refine q_ofb (by decide +kernel) hN hT (Nat.le_of_ble_eq_true rfl) ?_
  intro p e s m below meth c ls cx hr hlk hB hl
  have hl : lv_has ls 2 [(0, .ref mo)] := hl
  have J21 : ∀ (n : Nat) (f21 : Nat → va_E) (v21_1 : Int) (lv21_1 : 0 ≤ v21_1) (uv21_1 : v21_1 ≤ 9999) (w21_mo_21 : Int) (lw21_mo_21 : 5 ≤ w21_mo_21) (uw21_mo_21 : w21_mo_21 ≤ 5) (hj_as_2 : q_is (q_z f21 as 2) xy) (hj_as_0 : q_is (q_z f21 as 0) xc) (hj_mo_21 : q_is (q_z f21 mo 21) w21_mo_21) (hq_mo_15 : q_ir (q_r f21 mo 15) as) (hq_mo_17 : q_ir (q_r f21 mo 17) pa) (hsh : ∀ i : Int, 0 ≤ i → i < v21_1 → q_z f21 pa (Int.toNat i) = q_z f pa (Int.toNat (i + 658))) (hsg : ∀ i : Int, v21_1 ≤ i → q_z f21 pa (Int.toNat i) = q_z f pa (Int.toNat i)) (hmu : (Int.toNat (2147483647 - v21_1)) < n) (H : Heap) (locs : List Loc) (hB : q_B g K L (fun q => q ∈ L) [(12, 21, 21), (155, 0, 3947)] f f21 s H locs) (ls : Array Slot) (hl : lv_has ls 2 [(0, .ref mo), (1, .int (q_i v21_1))]), W p l e { frames := 1, cells := 0, slots := 0, locals := 24 } s m ([.ref mo] : List Value).toArray below meth c H locs 0 0 (MQ below (q_Q g K L [(12, 21, 21), (155, 0, 3947)] f (q_Pv (fun (f1 : Nat → va_E) => (q_pk f1 mo pa) ∧ (q_pc f1 mo pa xc)))) ([.ref mo] : List Value).toArray s 0 0 (fun q => q ∈ L)) (F0 m 21 ls []) := by
    intro n
    induction n with
    | zero =>
      intro f21 v21_1 lv21_1 uv21_1 w21_mo_21 lw21_mo_21 uw21_mo_21 hj_as_2 hj_as_0 hj_mo_21 hq_mo_15 hq_mo_17 hsh hsg hmu
      exact absurd hmu (Nat.not_lt_zero _)
    | succ n ih21 =>
      intro f21 v21_1 lv21_1 uv21_1 w21_mo_21 lw21_mo_21 uw21_mo_21 hj_as_2 hj_as_0 hj_mo_21 hq_mo_15 hq_mo_17 hsh hsg hmu H locs hB ls hl
      refine q_ild_n cx dX12_keeps_21 rfl (lv_at hl 1 rfl) ?_
      refine q_sipush cx dX12_keeps_22 rfl ?_
      refine q_ald_n cx dX12_keeps_25 rfl (lv_at hl 0 rfl) ?_
      refine q_gX12_158 cx hB hmo kmo hj_mo_21 dX12_keeps_26 (fun lb446 ub446 => ?_)
      refine q_imul cx dX12_keeps_29 ?_
      refine q_icge (tgt := 55) cx ⟨by omega, by omega⟩ ⟨by omega, by omega⟩ dX12_keeps_30 (by decide) (fun c447 => ?_) (fun c447 => ?_)
      · have hpk5 : q_pk f21 mo pa := k_pksh hpk hf1 (Eq.trans hj_mo_21 (by omega)) (fun i h0 h1 => hsh i h0 (by omega))
        have hpc5 : q_pc f21 mo pa xc := k_pcsh hpc hf1 (Eq.trans hj_mo_21 (by omega)) (fun i h0 h1 => hsh i h0 (by omega))
        refine q_ald_n cx dX12_keeps_55 rfl (lv_at hl 0 rfl) ?_
        refine q_gX12_26 cx hB hmo kmo hq_mo_15 dX12_keeps_56 (fun hb448 kb448 => ?_)
        refine q_iconst cx dX12_keeps_59 ?_
        refine q_ald_n cx dX12_keeps_60 rfl (lv_at hl 0 rfl) ?_
        refine q_gX12_32 cx hB hmo kmo hq_mo_17 dX12_keeps_61 (fun hb449 kb449 => ?_)
        refine q_sipush cx dX12_keeps_64 rfl ?_
        refine q_ald_n cx dX12_keeps_67 rfl (lv_at hl 0 rfl) ?_
        refine q_gX12_158 cx hB hmo kmo hj_mo_21 dX12_keeps_68 (fun lb450 ub450 => ?_)
        refine q_imul cx dX12_keeps_71 ?_
        refine q_cSv (As := [.ref as, .int (q_i 0), .ref pa, .int (q_i (658 * w21_mo_21))]) (rest := []) cx hB (fun _ h => h) hN (r_copiesRow_as_pa l g hN hB.2.1 as has kas 0 (by decide) (by decide) pa hpa kpa (658 * w21_mo_21) (by omega) (by omega) w21_mo_21 (by omega) (by omega) (by omega)) q_cX12_154 q_dX12_copiesRow (by decide) rfl rfl hl.1 rfl (Nat.le_of_ble_eq_true rfl) dX12_keeps_72 (fun H locs f451 h453 hF hB => ?_)
        obtain ⟨t454, t455⟩ := h453
        have z456 : q_is (q_z f451 as 2) xy := Eq.trans (hF.z has (by rw [kas]; rfl)) hj_as_2
        have z457 : q_is (q_z f451 as 0) xc := Eq.trans (hF.z has (by rw [kas]; rfl)) hj_as_0
        have z458 : q_is (q_z f451 mo 21) w21_mo_21 := Eq.trans (hF.z hmo (by rw [kmo]; rfl)) hj_mo_21
        have z459 : q_ir (q_r f451 mo 15) as := Eq.trans (hF.r hmo (by rw [kmo]; rfl)) hq_mo_15
        have z460 : q_ir (q_r f451 mo 17) pa := Eq.trans (hF.r hmo (by rw [kmo]; rfl)) hq_mo_17
        refine q_ald_n cx dX12_keeps_75 rfl (lv_at hl 0 rfl) ?_
        refine lv_dup cx.1 cx.2.1 dX12_keeps_76 rfl ?_
        refine q_gX12_158 cx hB hmo kmo z458 dX12_keeps_77 (fun lb461 ub461 => ?_)
        refine q_iconst cx dX12_keeps_80 ?_
        refine q_iadd cx dX12_keeps_81 ?_
        refine q_pX12_158 cx hB hmo kmo ⟨by omega, by omega⟩ (by omega) (by omega) rfl dX12_keeps_82 (fun H locs f462 ef462 z463 hB => ?_)
        have z464 : q_is (q_z f462 as 2) xy := by rw [ef462, q_setz (Or.inr (by decide))]; exact z456
        have z465 : q_is (q_z f462 as 0) xc := by rw [ef462, q_setz (Or.inr (by decide))]; exact z457
        have z466 : q_ir (q_r f462 mo 15) as := by rw [ef462, q_setr (Or.inr (by decide))]; exact z459
        have z467 : q_ir (q_r f462 mo 17) pa := by rw [ef462, q_setr (Or.inr (by decide))]; exact z460
        have hpk9 : q_pk f462 mo pa := k_pkinc hpk5 hj_mo_21 (by omega) z463 (fun i hi => by rw [ef462, q_setz (Or.inl (fun q => q_kne (k := 155) (k2 := 12) (by decide) kpa kmo q))]; exact t455 i (by omega)) (by rw [ef462, q_setz (Or.inl (fun q => q_kne (k := 155) (k2 := 12) (by decide) kpa kmo q))]; exact k_le_of_eq (t454 2 (by decide) (by decide)) (show 4 ≤ q_z f21 as 2 from q_isl hj_as_2 (by omega)))
        have hpc9 : q_pc f462 mo pa xc := k_pcinc hpc5 hj_mo_21 (by omega) z463 (fun i hi => by rw [ef462, q_setz (Or.inl (fun q => q_kne (k := 155) (k2 := 12) (by decide) kpa kmo q))]; exact t455 i (by omega)) (by rw [ef462, q_setz (Or.inl (fun q => q_kne (k := 155) (k2 := 12) (by decide) kpa kmo q))]; exact k_pc_row (t454 0 (by decide) (by decide)) hj_as_0)
        refine q_vret cx hr hlk hB dX12_keeps_85 ?_
        exact ⟨hpk9, hpc9⟩
      · refine q_ald_n cx dX12_keeps_33 rfl (lv_at hl 0 rfl) ?_
        refine q_gX12_32 cx hB hmo kmo hq_mo_17 dX12_keeps_34 (fun hb468 kb468 => ?_)
        refine q_ild_n cx dX12_keeps_37 rfl (lv_at hl 1 rfl) ?_
        refine q_ald_n cx dX12_keeps_38 rfl (lv_at hl 0 rfl) ?_
        refine q_gX12_32 cx hB hmo kmo hq_mo_17 dX12_keeps_39 (fun hb469 kb469 => ?_)
        refine q_ild_n cx dX12_keeps_42 rfl (lv_at hl 1 rfl) ?_
        refine q_sipush cx dX12_keeps_43 rfl ?_
        refine q_iadd cx dX12_keeps_46 ?_
        obtain ⟨x470, ex470⟩ : ∃ zz, q_is (q_z f21 pa (Int.toNat (v21_1 + 658))) zz := ⟨_, q_isr _⟩
        refine q_rald (n := 3948) cx hB hpa kpa q_K5 rfl (by omega) (by omega) (by decide) ex470 dX12_keeps_47 (fun rx470 lx470 ux470 => ?_)
        refine q_rast (n := 3948) cx hB hpa kpa q_K5 rfl (by omega) (by omega) (by decide) ⟨by omega, by omega⟩ (by rw [q_rowE (n := 3948) (p := Int.toNat (v21_1 + 658)) q_K5 rfl (by omega) (by omega)]; exact lx470) (by rw [q_rowE (n := 3948) (p := Int.toNat (v21_1 + 658)) q_K5 rfl (by omega) (by omega)]; exact ux470) (q_inWi (lo := 0) (hi := 3289) (by decide) (by omega) (by omega)) dX12_keeps_48 (fun H locs f472 ef472 z473 hB => ?_)
        have z474 : q_is (q_z f472 as 2) xy := by rw [ef472, q_setz (Or.inl (fun q => by rw [q, kpa] at kas; exact absurd kas (by decide)))]; exact hj_as_2
        have z475 : q_is (q_z f472 as 0) xc := by rw [ef472, q_setz (Or.inl (fun q => by rw [q, kpa] at kas; exact absurd kas (by decide)))]; exact hj_as_0
        have z476 : q_is (q_z f472 mo 21) w21_mo_21 := by rw [ef472, q_setz (Or.inl (fun q => by rw [q, kpa] at kmo; exact absurd kmo (by decide)))]; exact hj_mo_21
        have z477 : q_ir (q_r f472 mo 15) as := by rw [ef472, q_setr (Or.inl (fun q => by rw [q, kpa] at kmo; exact absurd kmo (by decide)))]; exact hq_mo_15
        have z478 : q_ir (q_r f472 mo 17) pa := by rw [ef472, q_setr (Or.inl (fun q => by rw [q, kpa] at kmo; exact absurd kmo (by decide)))]; exact hq_mo_17
        refine q_iinc (lv' := [(1, .int (q_i (v21_1 + 1))), (0, .ref mo)]) cx dX12_keeps_49 hl (k := 1) rfl (by decide) rfl (fun ls hl => ?_)
        refine lv_goto (tgt := 21) cx.1 cx.2.1 dX12_keeps_52 (by decide) ?_
        exact ih21 f472 (v21_1 + 1) (by omega) (by omega) w21_mo_21 (by omega) (by omega) z474 z475 z476 z477 z478 (k_shb hsh hsg ef472 z473 ex470 (by omega)).1 (k_shb hsh hsg ef472 z473 ex470 (by omega)).2 (by omega) H locs hB ls (lv_sub hl [1, 0] rfl)
  obtain ⟨H, hH⟩ : ∃ H : Heap, H = s.heap := ⟨_, rfl⟩
  obtain ⟨locs, hlocs⟩ : ∃ z : List Loc, z = [] := ⟨_, rfl⟩
  rw [← hH, ← hlocs] at hB
  rw [← hH, ← hlocs]
  refine q_ald_n cx dX12_keeps_0 rfl (lv_at hl 0 rfl) ?_
  refine q_gX12_158 cx hB hmo kmo hf1 dX12_keeps_1 (fun lb479 ub479 => ?_)
  refine q_bipush cx dX12_keeps_4 rfl ?_
  refine q_icne (tgt := 55) cx ⟨by decide, by decide⟩ ⟨by decide, by decide⟩ dX12_keeps_6 (by decide) (fun c480 => ?_) (fun c480 => ?_)
  · exact absurd c480 (by omega)
  · refine q_ald_n cx dX12_keeps_9 rfl (lv_at hl 0 rfl) ?_
    refine lv_dup cx.1 cx.2.1 dX12_keeps_10 rfl ?_
    refine q_gX12_158 cx hB hmo kmo hf1 dX12_keeps_11 (fun lb481 ub481 => ?_)
    refine q_iconst cx dX12_keeps_14 ?_
    refine q_isub cx dX12_keeps_15 ?_
    refine q_pX12_158 cx hB hmo kmo ⟨by decide, by decide⟩ (by decide) (by decide) rfl dX12_keeps_16 (fun H locs f482 ef482 z483 hB => ?_)
    have z484 : q_is (q_z f482 as 2) xy := by rw [ef482, q_setz (Or.inr (by decide))]; exact hf0
    have z485 : q_is (q_z f482 as 0) xc := by rw [ef482, q_setz (Or.inr (by decide))]; exact hf2
    have z486 : q_ir (q_r f482 mo 15) as := by rw [ef482, q_setr (Or.inr (by decide))]; exact hr0
    have z487 : q_ir (q_r f482 mo 17) pa := by rw [ef482, q_setr (Or.inr (by decide))]; exact hr1
    refine q_iconst cx dX12_keeps_19 ?_
    refine lv_istore_n (lv' := [(1, .int (q_i 0)), (0, .ref mo)]) cx.1 cx.2.1 dX12_keeps_20 rfl hl (by decide) rfl (fun ls hl => ?_)
    exact J21 ((Int.toNat (2147483647 - 0)) + 1) f482 0 (by decide) (by decide) (6 - 1) (by decide) (by decide) z484 z485 z483 z486 z487 (fun i h0 h1 => absurd h1 (by omega)) (fun i h0 => by rw [ef482, q_setz (Or.inl (fun q => q_kne (k := 155) (k2 := 12) (by decide) kpa kmo q))]) (Nat.lt_succ_self _) H locs hB ls (lv_sub hl [1, 0] rfl)
set_option maxHeartbeats 4000000 in
set_option maxRecDepth 100000 in
theorem r_kept (l : Launch) (g : q_G) {K : Nat → Nat} {L : List Nat} (hN : L.Nodup) {f : Nat → va_E} (hT : q_Ty g K L f) (mo : Nat) (hmo : mo ∈ L) (kmo : K mo = 12) (a0 : Int) (la0 : (-2147483648) ≤ a0) (ua0 : a0 ≤ 2147483647) (as : Nat) (has : as ∈ L) (kas : K as = 153) (pa : Nat) (hpa : pa ∈ L) (kpa : K pa = 155) (xy : Int) (lxy : 4 ≤ xy) (uxy : xy ≤ 60) (xc : Int) (lxc : 0 ≤ xc) (uxc : xc ≤ 10) (hf0 : q_is (q_z f as 2) xy) (hf1 : q_is (q_z f as 0) xc) (hr0 : q_ir (q_r f mo 15) as) (hr1 : q_ir (q_r f mo 17) pa) (hpk : q_pk f mo pa) (hpc : q_pc f mo pa xc) : q_Ct l g K L yX12_kept cX12_kept 2 (some .int) 2 45 [.ref mo, .int (q_i a0)] f [(12, 21, 21), (155, 0, 3947)] (q_Pi (fun (z : Int) (f1 : Nat → va_E) => z = a0 ∧ (q_pk f1 mo pa) ∧ (q_pc f1 mo pa xc))) := by
  refine q_ofb (by decide +kernel) hN hT (Nat.le_of_ble_eq_true rfl) ?_
  intro p e s m below meth c ls cx hr hlk hB hl
  have hl : lv_has ls 2 [(0, .ref mo), (1, .int (q_i a0))] := hl
  obtain ⟨H, hH⟩ : ∃ H : Heap, H = s.heap := ⟨_, rfl⟩
  obtain ⟨locs, hlocs⟩ : ∃ z : List Loc, z = [] := ⟨_, rfl⟩
  rw [← hH, ← hlocs] at hB
  rw [← hH, ← hlocs]
  refine q_ald_n cx dX12_kept_0 rfl (lv_at hl 0 rfl) ?_
  obtain ⟨x21, ex21⟩ : ∃ zz, q_is (q_z f mo 21) zz := ⟨_, q_isr _⟩
  obtain ⟨lx21, ux21⟩ := q_isb ex21 (q_fib hB.2.1 hmo kmo (by decide) rfl)
  by_cases c22 : x21 ≤ 5
  · refine q_cVv (As := []) (rest := []) cx hB (fun _ h => h) hN hmo kmo (by decide) rfl (r_keeps0 l g hN hB.2.1 mo hmo kmo as has kas pa hpa kpa xy (by omega) (by omega) x21 (by omega) (by omega) xc (by omega) (by omega) hf0 ex21 hf1 hr0 hr1 hpk hpc) q_cX12_161 q_dX12_keeps (by decide) rfl rfl hl.1 rfl (Nat.le_of_ble_eq_true rfl) dX12_kept_1 (fun H locs f23 h25 hF hB => ?_)
    obtain ⟨g26, g27⟩ := h25
    have z28 : q_is (q_z f23 as 2) xy := Eq.trans (hF.z has (by rw [kas]; rfl)) hf0
    have z29 : q_is (q_z f23 as 0) xc := Eq.trans (hF.z has (by rw [kas]; rfl)) hf1
    have z30 : q_ir (q_r f23 mo 15) as := Eq.trans (hF.r hmo (by rw [kmo]; rfl)) hr0
    have z31 : q_ir (q_r f23 mo 17) pa := Eq.trans (hF.r hmo (by rw [kmo]; rfl)) hr1
    refine q_ild_n cx dX12_kept_4 rfl (lv_at hl 1 rfl) ?_
    refine q_iret cx hr hlk hB dX12_kept_5 ⟨by omega, by omega⟩ ?_
    exact ⟨rfl, g26, g27⟩
  · refine q_cVv (As := []) (rest := []) cx hB (fun _ h => h) hN hmo kmo (by decide) rfl (r_keeps6 l g hN hB.2.1 mo hmo kmo as has kas pa hpa kpa xy (by omega) (by omega) xc (by omega) (by omega) hf0 (Eq.trans ex21 (by omega)) hf1 hr0 hr1 hpk hpc) q_cX12_161 q_dX12_keeps (by decide) rfl rfl hl.1 rfl (Nat.le_of_ble_eq_true rfl) dX12_kept_1 (fun H locs f32 h34 hF hB => ?_)
    obtain ⟨g35, g36⟩ := h34
    have z37 : q_is (q_z f32 as 2) xy := Eq.trans (hF.z has (by rw [kas]; rfl)) hf0
    have z38 : q_is (q_z f32 as 0) xc := Eq.trans (hF.z has (by rw [kas]; rfl)) hf1
    have z39 : q_ir (q_r f32 mo 15) as := Eq.trans (hF.r hmo (by rw [kmo]; rfl)) hr0
    have z40 : q_ir (q_r f32 mo 17) pa := Eq.trans (hF.r hmo (by rw [kmo]; rfl)) hr1
    refine q_ild_n cx dX12_kept_4 rfl (lv_at hl 1 rfl) ?_
    refine q_iret cx hr hlk hB dX12_kept_5 ⟨by omega, by omega⟩ ?_
    exact ⟨rfl, g35, g36⟩
