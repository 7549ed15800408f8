set_option maxHeartbeats 4000000 in
set_option maxRecDepth 100000 in
theorem r_send (l : Launch) (g : q_G) {K : Nat → Nat} {L : List Nat} (hN : L.Nodup) {f : Nat → va_E} (hT : q_Ty g K L f) (mo : Nat) (hmo : mo ∈ L) (kmo : K mo = 12) (a0 : Int) (la0 : (-2147483648) ≤ a0) (ua0 : a0 ≤ 2147483647) (b0 : Int) (lb0 : (-2147483648) ≤ b0) (ub0 : b0 ≤ 2147483647) (c0 : Int) (lc0 : (-2147483648) ≤ c0) (uc0 : c0 ≤ 2147483647) (d0 : Int) (ld0 : 0 ≤ d0) (ud0 : d0 ≤ 1) (sr : Nat) (hsr : sr ∈ L) (ksr : K sr = 151) (as : Nat) (has : as ∈ L) (kas : K as = 153) (pa : Nat) (hpa : pa ∈ L) (kpa : K pa = 155) (xt : Int) (lxt : 0 ≤ xt) (uxt : xt ≤ 9999) (xm : Int) (lxm : 0 ≤ xm) (uxm : xm ≤ 60) (xc : Int) (lxc : 0 ≤ xc) (uxc : xc ≤ 10) (hf0 : q_is (q_z f sr 3) xt) (hf1 : q_is (q_z f sr 4) xm) (hf2 : q_is (q_z f sr 0) xc) (hr0 : q_ir (q_r f mo 13) sr) (hr1 : q_ir (q_r f mo 15) as) (hr2 : q_ir (q_r f mo 17) pa) (hgr : q_gr f sr) (hpk : q_pk f mo pa) (hpc : q_pc f mo pa xc) : q_Ct l g K L yX12_send cX12_send 6 (some .int) 5 108 [.ref mo, .int (q_i a0), .int (q_i b0), .int (q_i c0), .int (q_i d0)] f [(12, 0, 0), (12, 21, 21), (151, 4, 4), (151, 170, 657), (153, 0, 657), (155, 0, 3947)] (q_Pi (fun (z : Int) (f1 : Nat → va_E) => 0 ≤ z ∧ z ≤ 60 ∧ 0 ≤ q_z f1 sr 3 ∧ q_z f1 sr 3 ≤ 9999 ∧ 0 ≤ q_z f1 sr 4 ∧ q_z f1 sr 4 ≤ 60 ∧ q_is (q_z f1 sr 0) xc ∧ q_gr f1 sr ∧ (q_pk f1 mo pa) ∧ (q_pc f1 mo pa xc))) := by
  refine q_ofb (by decide +kernel) hN hT (Nat.le_of_ble_eq_true rfl) ?_
  intro p e s m below meth c ls cx hr hlk hB hl
  have hl : lv_has ls 6 [(0, .ref mo), (1, .int (q_i a0)), (2, .int (q_i b0)), (3, .int (q_i c0)), (4, .int (q_i d0))] := hl
  obtain ⟨H, hH⟩ : ∃ H : Heap, H = s.heap := ⟨_, rfl⟩
  obtain ⟨locs, hlocs⟩ : ∃ z : List Loc, z = [] := ⟨_, rfl⟩
  rw [← hH, ← hlocs] at hB
  rw [← hH, ← hlocs]
  refine q_ald_n cx dX12_send_0 rfl (lv_at hl 0 rfl) ?_
  refine q_ild_n cx dX12_send_1 rfl (lv_at hl 1 rfl) ?_
  refine q_cVi (As := [.int (q_i a0)]) (rest := []) cx hB (fun _ h => h) hN hmo kmo (by decide) rfl (r_isNode l g hN hB.2.1 mo hmo kmo a0 (by omega) (by omega) sr hsr ksr hr0) q_cX12_355 q_dX12_isNode (by decide) rfl rfl hl.1 rfl (Nat.le_of_ble_eq_true rfl) dX12_send_2 (fun y300 H locs f299 ry300 h301 hF hB => ?_)
  rcases h301 with h302 | h303
  · obtain ⟨rfl, qy300, t304, t305⟩ := h302
    subst qy300
    refine q_ifeq (tgt := 20) cx ⟨by decide, by decide⟩ dX12_send_5 (by decide) (fun c306 => ?_) (fun c306 => ?_)
    · exact absurd c306 (by omega)
    · refine q_ald_n cx dX12_send_8 rfl (lv_at hl 0 rfl) ?_
      refine q_ild_n cx dX12_send_9 rfl (lv_at hl 2 rfl) ?_
      refine q_cVi (As := [.int (q_i b0)]) (rest := []) cx hB (fun _ h => h) hN hmo kmo (by decide) rfl (r_isNode l g hN hB.2.1 mo hmo kmo b0 (by omega) (by omega) sr hsr ksr hr0) q_cX12_355 q_dX12_isNode (by decide) rfl rfl hl.1 rfl (Nat.le_of_ble_eq_true rfl) dX12_send_10 (fun y308 H locs f307 ry308 h309 hF hB => ?_)
      rcases h309 with h310 | h311
      · obtain ⟨rfl, qy308, t312, t313⟩ := h310
        subst qy308
        refine q_ifeq (tgt := 20) cx ⟨by decide, by decide⟩ dX12_send_13 (by decide) (fun c314 => ?_) (fun c314 => ?_)
        · exact absurd c314 (by omega)
        · refine q_iconst cx dX12_send_16 ?_
          refine lv_goto (tgt := 21) cx.1 cx.2.1 dX12_send_17 (by decide) ?_
          refine lv_istore (lv' := [(5, .int (q_i 1)), (0, .ref mo), (1, .int (q_i a0)), (2, .int (q_i b0)), (3, .int (q_i c0)), (4, .int (q_i d0))]) cx.1 cx.2.1 dX12_send_21 hl (by decide) rfl (fun ls hl => ?_)
          refine q_ald_n cx dX12_send_23 rfl (lv_at hl 1 rfl) ?_
          refine lv_iload cx.1 cx.2.1 dX12_send_24 (lv_at hl 0 rfl) ?_
          refine q_ild_n cx dX12_send_26 rfl (lv_at hl 2 rfl) ?_
          refine q_ild_n cx dX12_send_27 rfl (lv_at hl 3 rfl) ?_
          refine q_iceq (tgt := 42) cx ⟨by omega, by omega⟩ ⟨by omega, by omega⟩ dX12_send_28 (by decide) (fun c315 => ?_) (fun c315 => ?_)
          · refine q_iconst cx dX12_send_42 ?_
            refine lv_iload cx.1 cx.2.1 dX12_send_43 (lv_at hl 0 rfl) ?_
            refine q_ifeq (tgt := 61) cx ⟨by decide, by decide⟩ dX12_send_45 (by decide) (fun c316 => ?_) (fun c316 => ?_)
            · exact absurd c316 (by omega)
            · refine q_ald_n cx dX12_send_48 rfl (lv_at hl 1 rfl) ?_
              refine q_ild_n cx dX12_send_49 rfl (lv_at hl 2 rfl) ?_
              refine q_ild_n cx dX12_send_50 rfl (lv_at hl 3 rfl) ?_
              refine q_cVi (As := [.int (q_i a0), .int (q_i b0)]) (rest := [.int (q_i 0), .int (q_i 1), .ref mo]) cx hB (fun _ h => h) hN hmo kmo (by decide) rfl (r_maySend l g hN hB.2.1 mo hmo kmo a0 (by omega) (by omega) b0 (by omega) (by omega) sr hsr ksr xm (by omega) (by omega) hf1 hr0 hgr) q_cX12_455 q_dX12_maySend (by decide) rfl rfl hl.1 rfl (Nat.le_of_ble_eq_true rfl) dX12_send_51 (fun y318 H locs f317 ry318 h319 hF hB => ?_)
              rcases h319 with h320 | h321
              · obtain ⟨rfl, qy318, t322⟩ := h320
                subst qy318
                refine q_ifeq (tgt := 61) cx ⟨by decide, by decide⟩ dX12_send_54 (by decide) (fun c323 => ?_) (fun c323 => ?_)
                · exact absurd c323 (by omega)
                · refine q_iconst cx dX12_send_57 ?_
                  refine lv_goto (tgt := 62) cx.1 cx.2.1 dX12_send_58 (by decide) ?_
                  refine q_cVi (As := [.int (q_i 1), .int (q_i 0), .int (q_i 1)]) (rest := []) cx hB (fun _ h => h) hN hmo kmo (by decide) rfl (r_goesAll1 l g hN hB.2.1 mo hmo kmo 1 (by decide) (by decide) 0 (by decide) (by decide) 1 (by decide) (by decide)) q_cX12_458 q_dX12_goesAll (by decide) rfl rfl hl.1 rfl (Nat.le_of_ble_eq_true rfl) dX12_send_62 (fun y325 H locs f324 ry325 h326 hF hB => ?_)
                  obtain ⟨qy325, z327⟩ := h326
                  have z328 : q_is (q_z f324 sr 3) xt := Eq.trans (hF.z hsr (by rw [ksr]; rfl)) hf0
                  have z329 : q_is (q_z f324 sr 4) xm := Eq.trans (hF.z hsr (by rw [ksr]; rfl)) hf1
                  have z330 : q_is (q_z f324 sr 0) xc := Eq.trans (hF.z hsr (by rw [ksr]; rfl)) hf2
                  have z331 : q_ir (q_r f324 mo 13) sr := Eq.trans (hF.r hmo (by rw [kmo]; rfl)) hr0
                  have z332 : q_ir (q_r f324 mo 15) as := Eq.trans (hF.r hmo (by rw [kmo]; rfl)) hr1
                  have z333 : q_ir (q_r f324 mo 17) pa := Eq.trans (hF.r hmo (by rw [kmo]; rfl)) hr2
                  have g334 : q_gr f324 sr := q_gr_fr hgr (fun i9 _ => hF.z hsr (by rw [ksr]; rfl))
                  have g335 : q_pk f324 mo pa := q_pk_tr hpk (hF.z hmo (by rw [kmo]; rfl)) (fun i9 => hF.z hpa (by rw [kpa]; rfl))
                  have g336 : q_pc f324 mo pa xc := q_pc_tr hpc (hF.z hmo (by rw [kmo]; rfl)) (fun i9 => hF.z hpa (by rw [kpa]; rfl))
                  subst qy325
                  refine q_ifne (tgt := 70) cx ⟨by decide, by decide⟩ dX12_send_65 (by decide) (fun c337 => ?_) (fun c337 => ?_)
                  · exact absurd c337 (by omega)
                  · refine q_iconst cx dX12_send_68 ?_
                    refine q_iret cx hr hlk hB dX12_send_69 ⟨by decide, by decide⟩ ?_
                    exact ⟨(by decide), (by decide), (q_isl z328 (by omega)), (q_isu z328 (by omega)), (q_isl z329 (by omega)), (q_isu z329 (by omega)), z330, g334, g335, g336⟩
              · obtain ⟨rfl, qy318⟩ := h321
                subst qy318
                refine q_ifeq (tgt := 61) cx ⟨by decide, by decide⟩ dX12_send_54 (by decide) (fun c338 => ?_) (fun c338 => ?_)
                · refine q_iconst cx dX12_send_61 ?_
                  refine q_cVi (As := [.int (q_i 1), .int (q_i 0), .int (q_i 0)]) (rest := []) cx hB (fun _ h => h) hN hmo kmo (by decide) rfl (r_goesAll1 l g hN hB.2.1 mo hmo kmo 1 (by decide) (by decide) 0 (by decide) (by decide) 0 (by decide) (by decide)) q_cX12_458 q_dX12_goesAll (by decide) rfl rfl hl.1 rfl (Nat.le_of_ble_eq_true rfl) dX12_send_62 (fun y340 H locs f339 ry340 h341 hF hB => ?_)
                  obtain ⟨qy340, z342⟩ := h341
                  have z343 : q_is (q_z f339 sr 3) xt := Eq.trans (hF.z hsr (by rw [ksr]; rfl)) hf0
                  have z344 : q_is (q_z f339 sr 4) xm := Eq.trans (hF.z hsr (by rw [ksr]; rfl)) hf1
                  have z345 : q_is (q_z f339 sr 0) xc := Eq.trans (hF.z hsr (by rw [ksr]; rfl)) hf2
                  have z346 : q_ir (q_r f339 mo 13) sr := Eq.trans (hF.r hmo (by rw [kmo]; rfl)) hr0
                  have z347 : q_ir (q_r f339 mo 15) as := Eq.trans (hF.r hmo (by rw [kmo]; rfl)) hr1
                  have z348 : q_ir (q_r f339 mo 17) pa := Eq.trans (hF.r hmo (by rw [kmo]; rfl)) hr2
                  have g349 : q_gr f339 sr := q_gr_fr hgr (fun i9 _ => hF.z hsr (by rw [ksr]; rfl))
                  have g350 : q_pk f339 mo pa := q_pk_tr hpk (hF.z hmo (by rw [kmo]; rfl)) (fun i9 => hF.z hpa (by rw [kpa]; rfl))
                  have g351 : q_pc f339 mo pa xc := q_pc_tr hpc (hF.z hmo (by rw [kmo]; rfl)) (fun i9 => hF.z hpa (by rw [kpa]; rfl))
                  subst qy340
                  refine q_ifne (tgt := 70) cx ⟨by decide, by decide⟩ dX12_send_65 (by decide) (fun c352 => ?_) (fun c352 => ?_)
                  · exact absurd c352 (by omega)
                  · refine q_iconst cx dX12_send_68 ?_
                    refine q_iret cx hr hlk hB dX12_send_69 ⟨by decide, by decide⟩ ?_
                    exact ⟨(by decide), (by decide), (q_isl z343 (by omega)), (q_isu z343 (by omega)), (q_isl z344 (by omega)), (q_isu z344 (by omega)), z345, g349, g350, g351⟩
                · exact absurd c338 (by omega)
          · refine q_ild_n cx dX12_send_31 rfl (lv_at hl 4 rfl) ?_
            refine q_cSi (As := [.int (q_i c0)]) (rest := [.int (q_i 1), .ref mo]) cx hB (fun _ h => h) hN (r_isMany l g hN hB.2.1 c0 (by omega) (by omega)) q_cX12_452 q_dX12_isMany (by decide) rfl rfl hl.1 rfl (Nat.le_of_ble_eq_true rfl) dX12_send_32 (fun y354 H locs f353 ry354 h355 hF hB => ?_)
            rcases h355 with h356 | h357
            · obtain ⟨rfl, qy354, t358, t359⟩ := h356
              subst qy354
              refine q_ifeq (tgt := 42) cx ⟨by decide, by decide⟩ dX12_send_35 (by decide) (fun c360 => ?_) (fun c360 => ?_)
              · exact absurd c360 (by omega)
              · refine q_iconst cx dX12_send_38 ?_
                refine lv_goto (tgt := 43) cx.1 cx.2.1 dX12_send_39 (by decide) ?_
                refine lv_iload cx.1 cx.2.1 dX12_send_43 (lv_at hl 0 rfl) ?_
                refine q_ifeq (tgt := 61) cx ⟨by decide, by decide⟩ dX12_send_45 (by decide) (fun c361 => ?_) (fun c361 => ?_)
                · exact absurd c361 (by omega)
                · refine q_ald_n cx dX12_send_48 rfl (lv_at hl 1 rfl) ?_
                  refine q_ild_n cx dX12_send_49 rfl (lv_at hl 2 rfl) ?_
                  refine q_ild_n cx dX12_send_50 rfl (lv_at hl 3 rfl) ?_
                  refine q_cVi (As := [.int (q_i a0), .int (q_i b0)]) (rest := [.int (q_i 1), .int (q_i 1), .ref mo]) cx hB (fun _ h => h) hN hmo kmo (by decide) rfl (r_maySend l g hN hB.2.1 mo hmo kmo a0 (by omega) (by omega) b0 (by omega) (by omega) sr hsr ksr xm (by omega) (by omega) hf1 hr0 hgr) q_cX12_455 q_dX12_maySend (by decide) rfl rfl hl.1 rfl (Nat.le_of_ble_eq_true rfl) dX12_send_51 (fun y363 H locs f362 ry363 h364 hF hB => ?_)
                  rcases h364 with h365 | h366
                  · obtain ⟨rfl, qy363, t367⟩ := h365
                    subst qy363
                    refine q_ifeq (tgt := 61) cx ⟨by decide, by decide⟩ dX12_send_54 (by decide) (fun c368 => ?_) (fun c368 => ?_)
                    · exact absurd c368 (by omega)
                    · refine q_iconst cx dX12_send_57 ?_
                      refine lv_goto (tgt := 62) cx.1 cx.2.1 dX12_send_58 (by decide) ?_
                      refine q_cVi (As := [.int (q_i 1), .int (q_i 1), .int (q_i 1)]) (rest := []) cx hB (fun _ h => h) hN hmo kmo (by decide) rfl (r_goesAll3 l g hN hB.2.1 mo hmo kmo 1 (by decide) (by decide) 1 (by decide) (by decide) 1 (by decide) (by decide)) q_cX12_458 q_dX12_goesAll (by decide) rfl rfl hl.1 rfl (Nat.le_of_ble_eq_true rfl) dX12_send_62 (fun y370 H locs f369 ry370 h371 hF hB => ?_)
                      obtain ⟨qy370, z372⟩ := h371
                      have z373 : q_is (q_z f369 sr 3) xt := Eq.trans (hF.z hsr (by rw [ksr]; rfl)) hf0
                      have z374 : q_is (q_z f369 sr 4) xm := Eq.trans (hF.z hsr (by rw [ksr]; rfl)) hf1
                      have z375 : q_is (q_z f369 sr 0) xc := Eq.trans (hF.z hsr (by rw [ksr]; rfl)) hf2
                      have z376 : q_ir (q_r f369 mo 13) sr := Eq.trans (hF.r hmo (by rw [kmo]; rfl)) hr0
                      have z377 : q_ir (q_r f369 mo 15) as := Eq.trans (hF.r hmo (by rw [kmo]; rfl)) hr1
                      have z378 : q_ir (q_r f369 mo 17) pa := Eq.trans (hF.r hmo (by rw [kmo]; rfl)) hr2
                      have g379 : q_gr f369 sr := q_gr_fr hgr (fun i9 _ => hF.z hsr (by rw [ksr]; rfl))
                      have g380 : q_pk f369 mo pa := q_pk_tr hpk (hF.z hmo (by rw [kmo]; rfl)) (fun i9 => hF.z hpa (by rw [kpa]; rfl))
                      have g381 : q_pc f369 mo pa xc := q_pc_tr hpc (hF.z hmo (by rw [kmo]; rfl)) (fun i9 => hF.z hpa (by rw [kpa]; rfl))
                      subst qy370
                      refine q_ifne (tgt := 70) cx ⟨by decide, by decide⟩ dX12_send_65 (by decide) (fun c382 => ?_) (fun c382 => ?_)
                      · refine q_ald_n cx dX12_send_70 rfl (lv_at hl 1 rfl) ?_
                        refine q_cVv (As := []) (rest := []) cx hB (fun _ h => h) hN hmo kmo (by decide) rfl (r_laysAside l g hN hB.2.1 mo hmo kmo sr hsr ksr as has kas xt (by omega) (by omega) xm (by omega) (by omega) xc (by omega) (by omega) z373 z374 z375 z376 z377 g379) q_cX12_247 q_dX12_laysAside (by decide) rfl rfl hl.1 rfl (Nat.le_of_ble_eq_true rfl) dX12_send_71 (fun H locs f383 h385 hF hB => ?_)
                        obtain ⟨lz386, uz386, z387⟩ := h385
                        have z388 : q_is (q_z f383 sr 3) xt := Eq.trans (hF.z hsr (by rw [ksr]; rfl)) z373
                        have z389 : q_is (q_z f383 sr 4) xm := Eq.trans (hF.z hsr (by rw [ksr]; rfl)) z374
                        have z390 : q_is (q_z f383 sr 0) xc := Eq.trans (hF.z hsr (by rw [ksr]; rfl)) z375
                        have z391 : q_is (q_z f383 mo 0) 0 := Eq.trans (hF.z hmo (by rw [kmo]; rfl)) z372
                        have z392 : q_ir (q_r f383 mo 13) sr := Eq.trans (hF.r hmo (by rw [kmo]; rfl)) z376
                        have z393 : q_ir (q_r f383 mo 15) as := Eq.trans (hF.r hmo (by rw [kmo]; rfl)) z377
                        have z394 : q_ir (q_r f383 mo 17) pa := Eq.trans (hF.r hmo (by rw [kmo]; rfl)) z378
                        have g395 : q_gr f383 sr := q_gr_fr g379 (fun i9 _ => hF.z hsr (by rw [ksr]; rfl))
                        have g396 : q_pk f383 mo pa := q_pk_tr g380 (hF.z hmo (by rw [kmo]; rfl)) (fun i9 => hF.z hpa (by rw [kpa]; rfl))
                        have g397 : q_pc f383 mo pa xc := q_pc_tr g381 (hF.z hmo (by rw [kmo]; rfl)) (fun i9 => hF.z hpa (by rw [kpa]; rfl))
                        obtain ⟨x398, ex398⟩ : ∃ zz, q_is (q_z f383 as 2) zz := ⟨_, q_isr _⟩
                        obtain ⟨lx398, ux398⟩ := q_isb ex398 ⟨lz386, uz386⟩
                        refine q_ald_n cx dX12_send_74 rfl (lv_at hl 1 rfl) ?_
                        refine q_ald_n cx dX12_send_75 rfl (lv_at hl 1 rfl) ?_
                        refine q_ild_n cx dX12_send_76 rfl (lv_at hl 2 rfl) ?_
                        refine q_ild_n cx dX12_send_77 rfl (lv_at hl 3 rfl) ?_
                        refine q_ild_n cx dX12_send_78 rfl (lv_at hl 4 rfl) ?_
                        refine lv_iload cx.1 cx.2.1 dX12_send_79 (lv_at hl 5 rfl) ?_
                        refine q_cVi (As := [.int (q_i a0), .int (q_i b0), .int (q_i c0), .int (q_i d0)]) (rest := [.ref mo]) cx hB (fun _ h => h) hN hmo kmo (by decide) rfl (r_lays l g hN hB.2.1 mo hmo kmo a0 (by omega) (by omega) b0 (by omega) (by omega) c0 (by omega) (by omega) d0 (by omega) (by omega) sr hsr ksr xt (by omega) (by omega) xm (by omega) (by omega) z388 z389 z392 g395) q_cX12_417 q_dX12_lays (by decide) rfl rfl hl.1 rfl (Nat.le_of_ble_eq_true rfl) dX12_send_81 (fun y400 H locs f399 ry400 h401 hF hB => ?_)
                        obtain ⟨ly400, uy400, z402, g403⟩ := h401
                        have z404 : q_is (q_z f399 sr 3) xt := Eq.trans (hF.z hsr (by rw [ksr]; rfl)) z388
                        have z405 : q_is (q_z f399 sr 0) xc := Eq.trans (hF.z hsr (by rw [ksr]; rfl)) z390
                        have z406 : q_is (q_z f399 mo 0) 0 := Eq.trans (hF.z hmo (by rw [kmo]; rfl)) z391
                        have z407 : q_is (q_z f399 as 2) x398 := Eq.trans (hF.z has (by rw [kas]; rfl)) ex398
                        have z408 : q_is (q_z f399 as 0) xc := Eq.trans (hF.z has (by rw [kas]; rfl)) z387
                        have z409 : q_ir (q_r f399 mo 13) sr := Eq.trans (hF.r hmo (by rw [kmo]; rfl)) z392
                        have z410 : q_ir (q_r f399 mo 15) as := Eq.trans (hF.r hmo (by rw [kmo]; rfl)) z393
                        have z411 : q_ir (q_r f399 mo 17) pa := Eq.trans (hF.r hmo (by rw [kmo]; rfl)) z394
                        have g412 : q_pk f399 mo pa := q_pk_tr g396 (hF.z hmo (by rw [kmo]; rfl)) (fun i9 => hF.z hpa (by rw [kpa]; rfl))
                        have g413 : q_pc f399 mo pa xc := q_pc_tr g397 (hF.z hmo (by rw [kmo]; rfl)) (fun i9 => hF.z hpa (by rw [kpa]; rfl))
                        refine q_cVi (As := [.int (q_i y400)]) (rest := []) cx hB (fun _ h => h) hN hmo kmo (by decide) rfl (r_kept l g hN hB.2.1 mo hmo kmo y400 (by omega) (by omega) as has kas pa hpa kpa x398 (by omega) (by omega) xc (by omega) (by omega) z407 z408 z410 z411 g412 g413) q_cX12_449 q_dX12_kept (by decide) rfl rfl hl.1 rfl (Nat.le_of_ble_eq_true rfl) dX12_send_84 (fun y415 H locs f414 ry415 h416 hF hB => ?_)
                        obtain ⟨qy415, g417, g418⟩ := h416
                        have z419 : q_is (q_z f414 sr 3) xt := Eq.trans (hF.z hsr (by rw [ksr]; rfl)) z404
                        have z420 : q_is (q_z f414 sr 0) xc := Eq.trans (hF.z hsr (by rw [ksr]; rfl)) z405
                        have z421 : q_is (q_z f414 mo 0) 0 := Eq.trans (hF.z hmo (by rw [kmo]; rfl)) z406
                        have z422 : q_is (q_z f414 as 2) x398 := Eq.trans (hF.z has (by rw [kas]; rfl)) z407
                        have z423 : q_is (q_z f414 as 0) xc := Eq.trans (hF.z has (by rw [kas]; rfl)) z408
                        have z424 : q_is (q_z f414 sr 4) (xm + 1) := Eq.trans (hF.z hsr (by rw [ksr]; rfl)) z402
                        have z425 : q_ir (q_r f414 mo 13) sr := Eq.trans (hF.r hmo (by rw [kmo]; rfl)) z409
                        have z426 : q_ir (q_r f414 mo 15) as := Eq.trans (hF.r hmo (by rw [kmo]; rfl)) z410
                        have z427 : q_ir (q_r f414 mo 17) pa := Eq.trans (hF.r hmo (by rw [kmo]; rfl)) z411
                        have g428 : q_gr f414 sr := q_gr_fr g403 (fun i9 _ => hF.z hsr (by rw [ksr]; rfl))
                        refine q_iret cx hr hlk hB dX12_send_87 ⟨by omega, by omega⟩ ?_
                        exact ⟨(by omega), (by omega), (q_isl z419 (by omega)), (q_isu z419 (by omega)), (q_isl z424 (by omega)), (q_isu z424 (by omega)), z420, g428, g417, g418⟩
                      · exact absurd c382 (by omega)
                  · obtain ⟨rfl, qy363⟩ := h366
                    subst qy363
                    refine q_ifeq (tgt := 61) cx ⟨by decide, by decide⟩ dX12_send_54 (by decide) (fun c429 => ?_) (fun c429 => ?_)
                    · refine q_iconst cx dX12_send_61 ?_
                      refine q_cVi (As := [.int (q_i 1), .int (q_i 1), .int (q_i 0)]) (rest := []) cx hB (fun _ h => h) hN hmo kmo (by decide) rfl (r_goesAll2 l g hN hB.2.1 mo hmo kmo 1 (by decide) (by decide) 1 (by decide) (by decide) 0 (by decide) (by decide)) q_cX12_458 q_dX12_goesAll (by decide) rfl rfl hl.1 rfl (Nat.le_of_ble_eq_true rfl) dX12_send_62 (fun y431 H locs f430 ry431 h432 hF hB => ?_)
                      obtain ⟨qy431, z433⟩ := h432
                      have z434 : q_is (q_z f430 sr 3) xt := Eq.trans (hF.z hsr (by rw [ksr]; rfl)) hf0
                      have z435 : q_is (q_z f430 sr 4) xm := Eq.trans (hF.z hsr (by rw [ksr]; rfl)) hf1
                      have z436 : q_is (q_z f430 sr 0) xc := Eq.trans (hF.z hsr (by rw [ksr]; rfl)) hf2
                      have z437 : q_ir (q_r f430 mo 13) sr := Eq.trans (hF.r hmo (by rw [kmo]; rfl)) hr0
                      have z438 : q_ir (q_r f430 mo 15) as := Eq.trans (hF.r hmo (by rw [kmo]; rfl)) hr1
                      have z439 : q_ir (q_r f430 mo 17) pa := Eq.trans (hF.r hmo (by rw [kmo]; rfl)) hr2
                      have g440 : q_gr f430 sr := q_gr_fr hgr (fun i9 _ => hF.z hsr (by rw [ksr]; rfl))
                      have g441 : q_pk f430 mo pa := q_pk_tr hpk (hF.z hmo (by rw [kmo]; rfl)) (fun i9 => hF.z hpa (by rw [kpa]; rfl))
                      have g442 : q_pc f430 mo pa xc := q_pc_tr hpc (hF.z hmo (by rw [kmo]; rfl)) (fun i9 => hF.z hpa (by rw [kpa]; rfl))
                      subst qy431
                      refine q_ifne (tgt := 70) cx ⟨by decide, by decide⟩ dX12_send_65 (by decide) (fun c443 => ?_) (fun c443 => ?_)
                      · exact absurd c443 (by omega)
                      · refine q_iconst cx dX12_send_68 ?_
                        refine q_iret cx hr hlk hB dX12_send_69 ⟨by decide, by decide⟩ ?_
                        exact ⟨(by decide), (by decide), (q_isl z434 (by omega)), (q_isu z434 (by omega)), (q_isl z435 (by omega)), (q_isu z435 (by omega)), z436, g440, g441, g442⟩
                    · exact absurd c429 (by omega)
            · obtain ⟨rfl, qy354, t444⟩ := h357
              subst qy354
              refine q_ifeq (tgt := 42) cx ⟨by decide, by decide⟩ dX12_send_35 (by decide) (fun c445 => ?_) (fun c445 => ?_)
              · refine q_iconst cx dX12_send_42 ?_
                refine lv_iload cx.1 cx.2.1 dX12_send_43 (lv_at hl 0 rfl) ?_
                refine q_ifeq (tgt := 61) cx ⟨by decide, by decide⟩ dX12_send_45 (by decide) (fun c446 => ?_) (fun c446 => ?_)
                · exact absurd c446 (by omega)
                · refine q_ald_n cx dX12_send_48 rfl (lv_at hl 1 rfl) ?_
                  refine q_ild_n cx dX12_send_49 rfl (lv_at hl 2 rfl) ?_
                  refine q_ild_n cx dX12_send_50 rfl (lv_at hl 3 rfl) ?_
                  refine q_cVi (As := [.int (q_i a0), .int (q_i b0)]) (rest := [.int (q_i 0), .int (q_i 1), .ref mo]) cx hB (fun _ h => h) hN hmo kmo (by decide) rfl (r_maySend l g hN hB.2.1 mo hmo kmo a0 (by omega) (by omega) b0 (by omega) (by omega) sr hsr ksr xm (by omega) (by omega) hf1 hr0 hgr) q_cX12_455 q_dX12_maySend (by decide) rfl rfl hl.1 rfl (Nat.le_of_ble_eq_true rfl) dX12_send_51 (fun y448 H locs f447 ry448 h449 hF hB => ?_)
                  rcases h449 with h450 | h451
                  · obtain ⟨rfl, qy448, t452⟩ := h450
                    subst qy448
                    refine q_ifeq (tgt := 61) cx ⟨by decide, by decide⟩ dX12_send_54 (by decide) (fun c453 => ?_) (fun c453 => ?_)
                    · exact absurd c453 (by omega)
                    · refine q_iconst cx dX12_send_57 ?_
                      refine lv_goto (tgt := 62) cx.1 cx.2.1 dX12_send_58 (by decide) ?_
                      refine q_cVi (As := [.int (q_i 1), .int (q_i 0), .int (q_i 1)]) (rest := []) cx hB (fun _ h => h) hN hmo kmo (by decide) rfl (r_goesAll1 l g hN hB.2.1 mo hmo kmo 1 (by decide) (by decide) 0 (by decide) (by decide) 1 (by decide) (by decide)) q_cX12_458 q_dX12_goesAll (by decide) rfl rfl hl.1 rfl (Nat.le_of_ble_eq_true rfl) dX12_send_62 (fun y455 H locs f454 ry455 h456 hF hB => ?_)
                      obtain ⟨qy455, z457⟩ := h456
                      have z458 : q_is (q_z f454 sr 3) xt := Eq.trans (hF.z hsr (by rw [ksr]; rfl)) hf0
                      have z459 : q_is (q_z f454 sr 4) xm := Eq.trans (hF.z hsr (by rw [ksr]; rfl)) hf1
                      have z460 : q_is (q_z f454 sr 0) xc := Eq.trans (hF.z hsr (by rw [ksr]; rfl)) hf2
                      have z461 : q_ir (q_r f454 mo 13) sr := Eq.trans (hF.r hmo (by rw [kmo]; rfl)) hr0
                      have z462 : q_ir (q_r f454 mo 15) as := Eq.trans (hF.r hmo (by rw [kmo]; rfl)) hr1
                      have z463 : q_ir (q_r f454 mo 17) pa := Eq.trans (hF.r hmo (by rw [kmo]; rfl)) hr2
                      have g464 : q_gr f454 sr := q_gr_fr hgr (fun i9 _ => hF.z hsr (by rw [ksr]; rfl))
                      have g465 : q_pk f454 mo pa := q_pk_tr hpk (hF.z hmo (by rw [kmo]; rfl)) (fun i9 => hF.z hpa (by rw [kpa]; rfl))
                      have g466 : q_pc f454 mo pa xc := q_pc_tr hpc (hF.z hmo (by rw [kmo]; rfl)) (fun i9 => hF.z hpa (by rw [kpa]; rfl))
                      subst qy455
                      refine q_ifne (tgt := 70) cx ⟨by decide, by decide⟩ dX12_send_65 (by decide) (fun c467 => ?_) (fun c467 => ?_)
                      · exact absurd c467 (by omega)
                      · refine q_iconst cx dX12_send_68 ?_
                        refine q_iret cx hr hlk hB dX12_send_69 ⟨by decide, by decide⟩ ?_
                        exact ⟨(by decide), (by decide), (q_isl z458 (by omega)), (q_isu z458 (by omega)), (q_isl z459 (by omega)), (q_isu z459 (by omega)), z460, g464, g465, g466⟩
                  · obtain ⟨rfl, qy448⟩ := h451
                    subst qy448
                    refine q_ifeq (tgt := 61) cx ⟨by decide, by decide⟩ dX12_send_54 (by decide) (fun c468 => ?_) (fun c468 => ?_)
                    · refine q_iconst cx dX12_send_61 ?_
                      refine q_cVi (As := [.int (q_i 1), .int (q_i 0), .int (q_i 0)]) (rest := []) cx hB (fun _ h => h) hN hmo kmo (by decide) rfl (r_goesAll1 l g hN hB.2.1 mo hmo kmo 1 (by decide) (by decide) 0 (by decide) (by decide) 0 (by decide) (by decide)) q_cX12_458 q_dX12_goesAll (by decide) rfl rfl hl.1 rfl (Nat.le_of_ble_eq_true rfl) dX12_send_62 (fun y470 H locs f469 ry470 h471 hF hB => ?_)
                      obtain ⟨qy470, z472⟩ := h471
                      have z473 : q_is (q_z f469 sr 3) xt := Eq.trans (hF.z hsr (by rw [ksr]; rfl)) hf0
                      have z474 : q_is (q_z f469 sr 4) xm := Eq.trans (hF.z hsr (by rw [ksr]; rfl)) hf1
                      have z475 : q_is (q_z f469 sr 0) xc := Eq.trans (hF.z hsr (by rw [ksr]; rfl)) hf2
                      have z476 : q_ir (q_r f469 mo 13) sr := Eq.trans (hF.r hmo (by rw [kmo]; rfl)) hr0
                      have z477 : q_ir (q_r f469 mo 15) as := Eq.trans (hF.r hmo (by rw [kmo]; rfl)) hr1
                      have z478 : q_ir (q_r f469 mo 17) pa := Eq.trans (hF.r hmo (by rw [kmo]; rfl)) hr2
                      have g479 : q_gr f469 sr := q_gr_fr hgr (fun i9 _ => hF.z hsr (by rw [ksr]; rfl))
                      have g480 : q_pk f469 mo pa := q_pk_tr hpk (hF.z hmo (by rw [kmo]; rfl)) (fun i9 => hF.z hpa (by rw [kpa]; rfl))
                      have g481 : q_pc f469 mo pa xc := q_pc_tr hpc (hF.z hmo (by rw [kmo]; rfl)) (fun i9 => hF.z hpa (by rw [kpa]; rfl))
                      subst qy470
                      refine q_ifne (tgt := 70) cx ⟨by decide, by decide⟩ dX12_send_65 (by decide) (fun c482 => ?_) (fun c482 => ?_)
                      · exact absurd c482 (by omega)
                      · refine q_iconst cx dX12_send_68 ?_
                        refine q_iret cx hr hlk hB dX12_send_69 ⟨by decide, by decide⟩ ?_
                        exact ⟨(by decide), (by decide), (q_isl z473 (by omega)), (q_isu z473 (by omega)), (q_isl z474 (by omega)), (q_isu z474 (by omega)), z475, g479, g480, g481⟩
                    · exact absurd c468 (by omega)
              · exact absurd c445 (by omega)
      · obtain ⟨rfl, qy308⟩ := h311
        subst qy308
        refine q_ifeq (tgt := 20) cx ⟨by decide, by decide⟩ dX12_send_13 (by decide) (fun c483 => ?_) (fun c483 => ?_)
        · refine q_iconst cx dX12_send_20 ?_
          refine lv_istore (lv' := [(5, .int (q_i 0)), (0, .ref mo), (1, .int (q_i a0)), (2, .int (q_i b0)), (3, .int (q_i c0)), (4, .int (q_i d0))]) cx.1 cx.2.1 dX12_send_21 hl (by decide) rfl (fun ls hl => ?_)
          refine q_ald_n cx dX12_send_23 rfl (lv_at hl 1 rfl) ?_
          refine lv_iload cx.1 cx.2.1 dX12_send_24 (lv_at hl 0 rfl) ?_
          refine q_ild_n cx dX12_send_26 rfl (lv_at hl 2 rfl) ?_
          refine q_ild_n cx dX12_send_27 rfl (lv_at hl 3 rfl) ?_
          refine q_iceq (tgt := 42) cx ⟨by omega, by omega⟩ ⟨by omega, by omega⟩ dX12_send_28 (by decide) (fun c484 => ?_) (fun c484 => ?_)
          · refine q_iconst cx dX12_send_42 ?_
            refine lv_iload cx.1 cx.2.1 dX12_send_43 (lv_at hl 0 rfl) ?_
            refine q_ifeq (tgt := 61) cx ⟨by decide, by decide⟩ dX12_send_45 (by decide) (fun c485 => ?_) (fun c485 => ?_)
            · refine q_iconst cx dX12_send_61 ?_
              refine q_cVi (As := [.int (q_i 0), .int (q_i 0), .int (q_i 0)]) (rest := []) cx hB (fun _ h => h) hN hmo kmo (by decide) rfl (r_goesAll0 l g hN hB.2.1 mo hmo kmo 0 (by decide) (by decide) 0 (by decide) (by decide) 0 (by decide) (by decide)) q_cX12_458 q_dX12_goesAll (by decide) rfl rfl hl.1 rfl (Nat.le_of_ble_eq_true rfl) dX12_send_62 (fun y487 H locs f486 ry487 h488 hF hB => ?_)
              obtain ⟨qy487, z489⟩ := h488
              have z490 : q_is (q_z f486 sr 3) xt := Eq.trans (hF.z hsr (by rw [ksr]; rfl)) hf0
              have z491 : q_is (q_z f486 sr 4) xm := Eq.trans (hF.z hsr (by rw [ksr]; rfl)) hf1
              have z492 : q_is (q_z f486 sr 0) xc := Eq.trans (hF.z hsr (by rw [ksr]; rfl)) hf2
              have z493 : q_ir (q_r f486 mo 13) sr := Eq.trans (hF.r hmo (by rw [kmo]; rfl)) hr0
              have z494 : q_ir (q_r f486 mo 15) as := Eq.trans (hF.r hmo (by rw [kmo]; rfl)) hr1
              have z495 : q_ir (q_r f486 mo 17) pa := Eq.trans (hF.r hmo (by rw [kmo]; rfl)) hr2
              have g496 : q_gr f486 sr := q_gr_fr hgr (fun i9 _ => hF.z hsr (by rw [ksr]; rfl))
              have g497 : q_pk f486 mo pa := q_pk_tr hpk (hF.z hmo (by rw [kmo]; rfl)) (fun i9 => hF.z hpa (by rw [kpa]; rfl))
              have g498 : q_pc f486 mo pa xc := q_pc_tr hpc (hF.z hmo (by rw [kmo]; rfl)) (fun i9 => hF.z hpa (by rw [kpa]; rfl))
              subst qy487
              refine q_ifne (tgt := 70) cx ⟨by decide, by decide⟩ dX12_send_65 (by decide) (fun c499 => ?_) (fun c499 => ?_)
              · exact absurd c499 (by omega)
              · refine q_iconst cx dX12_send_68 ?_
                refine q_iret cx hr hlk hB dX12_send_69 ⟨by decide, by decide⟩ ?_
                exact ⟨(by decide), (by decide), (q_isl z490 (by omega)), (q_isu z490 (by omega)), (q_isl z491 (by omega)), (q_isu z491 (by omega)), z492, g496, g497, g498⟩
            · exact absurd c485 (by omega)
          · refine q_ild_n cx dX12_send_31 rfl (lv_at hl 4 rfl) ?_
            refine q_cSi (As := [.int (q_i c0)]) (rest := [.int (q_i 0), .ref mo]) cx hB (fun _ h => h) hN (r_isMany l g hN hB.2.1 c0 (by omega) (by omega)) q_cX12_452 q_dX12_isMany (by decide) rfl rfl hl.1 rfl (Nat.le_of_ble_eq_true rfl) dX12_send_32 (fun y501 H locs f500 ry501 h502 hF hB => ?_)
            rcases h502 with h503 | h504
            · obtain ⟨rfl, qy501, t505, t506⟩ := h503
              subst qy501
              refine q_ifeq (tgt := 42) cx ⟨by decide, by decide⟩ dX12_send_35 (by decide) (fun c507 => ?_) (fun c507 => ?_)
              · exact absurd c507 (by omega)
              · refine q_iconst cx dX12_send_38 ?_
                refine lv_goto (tgt := 43) cx.1 cx.2.1 dX12_send_39 (by decide) ?_
                refine lv_iload cx.1 cx.2.1 dX12_send_43 (lv_at hl 0 rfl) ?_
                refine q_ifeq (tgt := 61) cx ⟨by decide, by decide⟩ dX12_send_45 (by decide) (fun c508 => ?_) (fun c508 => ?_)
                · refine q_iconst cx dX12_send_61 ?_
                  refine q_cVi (As := [.int (q_i 0), .int (q_i 1), .int (q_i 0)]) (rest := []) cx hB (fun _ h => h) hN hmo kmo (by decide) rfl (r_goesAll0 l g hN hB.2.1 mo hmo kmo 0 (by decide) (by decide) 1 (by decide) (by decide) 0 (by decide) (by decide)) q_cX12_458 q_dX12_goesAll (by decide) rfl rfl hl.1 rfl (Nat.le_of_ble_eq_true rfl) dX12_send_62 (fun y510 H locs f509 ry510 h511 hF hB => ?_)
                  obtain ⟨qy510, z512⟩ := h511
                  have z513 : q_is (q_z f509 sr 3) xt := Eq.trans (hF.z hsr (by rw [ksr]; rfl)) hf0
                  have z514 : q_is (q_z f509 sr 4) xm := Eq.trans (hF.z hsr (by rw [ksr]; rfl)) hf1
                  have z515 : q_is (q_z f509 sr 0) xc := Eq.trans (hF.z hsr (by rw [ksr]; rfl)) hf2
                  have z516 : q_ir (q_r f509 mo 13) sr := Eq.trans (hF.r hmo (by rw [kmo]; rfl)) hr0
                  have z517 : q_ir (q_r f509 mo 15) as := Eq.trans (hF.r hmo (by rw [kmo]; rfl)) hr1
                  have z518 : q_ir (q_r f509 mo 17) pa := Eq.trans (hF.r hmo (by rw [kmo]; rfl)) hr2
                  have g519 : q_gr f509 sr := q_gr_fr hgr (fun i9 _ => hF.z hsr (by rw [ksr]; rfl))
                  have g520 : q_pk f509 mo pa := q_pk_tr hpk (hF.z hmo (by rw [kmo]; rfl)) (fun i9 => hF.z hpa (by rw [kpa]; rfl))
                  have g521 : q_pc f509 mo pa xc := q_pc_tr hpc (hF.z hmo (by rw [kmo]; rfl)) (fun i9 => hF.z hpa (by rw [kpa]; rfl))
                  subst qy510
                  refine q_ifne (tgt := 70) cx ⟨by decide, by decide⟩ dX12_send_65 (by decide) (fun c522 => ?_) (fun c522 => ?_)
                  · exact absurd c522 (by omega)
                  · refine q_iconst cx dX12_send_68 ?_
                    refine q_iret cx hr hlk hB dX12_send_69 ⟨by decide, by decide⟩ ?_
                    exact ⟨(by decide), (by decide), (q_isl z513 (by omega)), (q_isu z513 (by omega)), (q_isl z514 (by omega)), (q_isu z514 (by omega)), z515, g519, g520, g521⟩
                · exact absurd c508 (by omega)
            · obtain ⟨rfl, qy501, t523⟩ := h504
              subst qy501
              refine q_ifeq (tgt := 42) cx ⟨by decide, by decide⟩ dX12_send_35 (by decide) (fun c524 => ?_) (fun c524 => ?_)
              · refine q_iconst cx dX12_send_42 ?_
                refine lv_iload cx.1 cx.2.1 dX12_send_43 (lv_at hl 0 rfl) ?_
                refine q_ifeq (tgt := 61) cx ⟨by decide, by decide⟩ dX12_send_45 (by decide) (fun c525 => ?_) (fun c525 => ?_)
                · refine q_iconst cx dX12_send_61 ?_
                  refine q_cVi (As := [.int (q_i 0), .int (q_i 0), .int (q_i 0)]) (rest := []) cx hB (fun _ h => h) hN hmo kmo (by decide) rfl (r_goesAll0 l g hN hB.2.1 mo hmo kmo 0 (by decide) (by decide) 0 (by decide) (by decide) 0 (by decide) (by decide)) q_cX12_458 q_dX12_goesAll (by decide) rfl rfl hl.1 rfl (Nat.le_of_ble_eq_true rfl) dX12_send_62 (fun y527 H locs f526 ry527 h528 hF hB => ?_)
                  obtain ⟨qy527, z529⟩ := h528
                  have z530 : q_is (q_z f526 sr 3) xt := Eq.trans (hF.z hsr (by rw [ksr]; rfl)) hf0
                  have z531 : q_is (q_z f526 sr 4) xm := Eq.trans (hF.z hsr (by rw [ksr]; rfl)) hf1
                  have z532 : q_is (q_z f526 sr 0) xc := Eq.trans (hF.z hsr (by rw [ksr]; rfl)) hf2
                  have z533 : q_ir (q_r f526 mo 13) sr := Eq.trans (hF.r hmo (by rw [kmo]; rfl)) hr0
                  have z534 : q_ir (q_r f526 mo 15) as := Eq.trans (hF.r hmo (by rw [kmo]; rfl)) hr1
                  have z535 : q_ir (q_r f526 mo 17) pa := Eq.trans (hF.r hmo (by rw [kmo]; rfl)) hr2
                  have g536 : q_gr f526 sr := q_gr_fr hgr (fun i9 _ => hF.z hsr (by rw [ksr]; rfl))
                  have g537 : q_pk f526 mo pa := q_pk_tr hpk (hF.z hmo (by rw [kmo]; rfl)) (fun i9 => hF.z hpa (by rw [kpa]; rfl))
                  have g538 : q_pc f526 mo pa xc := q_pc_tr hpc (hF.z hmo (by rw [kmo]; rfl)) (fun i9 => hF.z hpa (by rw [kpa]; rfl))
                  subst qy527
                  refine q_ifne (tgt := 70) cx ⟨by decide, by decide⟩ dX12_send_65 (by decide) (fun c539 => ?_) (fun c539 => ?_)
                  · exact absurd c539 (by omega)
                  · refine q_iconst cx dX12_send_68 ?_
                    refine q_iret cx hr hlk hB dX12_send_69 ⟨by decide, by decide⟩ ?_
                    exact ⟨(by decide), (by decide), (q_isl z530 (by omega)), (q_isu z530 (by omega)), (q_isl z531 (by omega)), (q_isu z531 (by omega)), z532, g536, g537, g538⟩
                · exact absurd c525 (by omega)
              · exact absurd c524 (by omega)
        · exact absurd c483 (by omega)
  · obtain ⟨rfl, qy300⟩ := h303
    subst qy300
    refine q_ifeq (tgt := 20) cx ⟨by decide, by decide⟩ dX12_send_5 (by decide) (fun c540 => ?_) (fun c540 => ?_)
    · refine q_iconst cx dX12_send_20 ?_
      refine lv_istore (lv' := [(5, .int (q_i 0)), (0, .ref mo), (1, .int (q_i a0)), (2, .int (q_i b0)), (3, .int (q_i c0)), (4, .int (q_i d0))]) cx.1 cx.2.1 dX12_send_21 hl (by decide) rfl (fun ls hl => ?_)
      refine q_ald_n cx dX12_send_23 rfl (lv_at hl 1 rfl) ?_
      refine lv_iload cx.1 cx.2.1 dX12_send_24 (lv_at hl 0 rfl) ?_
      refine q_ild_n cx dX12_send_26 rfl (lv_at hl 2 rfl) ?_
      refine q_ild_n cx dX12_send_27 rfl (lv_at hl 3 rfl) ?_
      refine q_iceq (tgt := 42) cx ⟨by omega, by omega⟩ ⟨by omega, by omega⟩ dX12_send_28 (by decide) (fun c541 => ?_) (fun c541 => ?_)
      · refine q_iconst cx dX12_send_42 ?_
        refine lv_iload cx.1 cx.2.1 dX12_send_43 (lv_at hl 0 rfl) ?_
        refine q_ifeq (tgt := 61) cx ⟨by decide, by decide⟩ dX12_send_45 (by decide) (fun c542 => ?_) (fun c542 => ?_)
        · refine q_iconst cx dX12_send_61 ?_
          refine q_cVi (As := [.int (q_i 0), .int (q_i 0), .int (q_i 0)]) (rest := []) cx hB (fun _ h => h) hN hmo kmo (by decide) rfl (r_goesAll0 l g hN hB.2.1 mo hmo kmo 0 (by decide) (by decide) 0 (by decide) (by decide) 0 (by decide) (by decide)) q_cX12_458 q_dX12_goesAll (by decide) rfl rfl hl.1 rfl (Nat.le_of_ble_eq_true rfl) dX12_send_62 (fun y544 H locs f543 ry544 h545 hF hB => ?_)
          obtain ⟨qy544, z546⟩ := h545
          have z547 : q_is (q_z f543 sr 3) xt := Eq.trans (hF.z hsr (by rw [ksr]; rfl)) hf0
          have z548 : q_is (q_z f543 sr 4) xm := Eq.trans (hF.z hsr (by rw [ksr]; rfl)) hf1
          have z549 : q_is (q_z f543 sr 0) xc := Eq.trans (hF.z hsr (by rw [ksr]; rfl)) hf2
          have z550 : q_ir (q_r f543 mo 13) sr := Eq.trans (hF.r hmo (by rw [kmo]; rfl)) hr0
          have z551 : q_ir (q_r f543 mo 15) as := Eq.trans (hF.r hmo (by rw [kmo]; rfl)) hr1
          have z552 : q_ir (q_r f543 mo 17) pa := Eq.trans (hF.r hmo (by rw [kmo]; rfl)) hr2
          have g553 : q_gr f543 sr := q_gr_fr hgr (fun i9 _ => hF.z hsr (by rw [ksr]; rfl))
          have g554 : q_pk f543 mo pa := q_pk_tr hpk (hF.z hmo (by rw [kmo]; rfl)) (fun i9 => hF.z hpa (by rw [kpa]; rfl))
          have g555 : q_pc f543 mo pa xc := q_pc_tr hpc (hF.z hmo (by rw [kmo]; rfl)) (fun i9 => hF.z hpa (by rw [kpa]; rfl))
          subst qy544
          refine q_ifne (tgt := 70) cx ⟨by decide, by decide⟩ dX12_send_65 (by decide) (fun c556 => ?_) (fun c556 => ?_)
          · exact absurd c556 (by omega)
          · refine q_iconst cx dX12_send_68 ?_
            refine q_iret cx hr hlk hB dX12_send_69 ⟨by decide, by decide⟩ ?_
            exact ⟨(by decide), (by decide), (q_isl z547 (by omega)), (q_isu z547 (by omega)), (q_isl z548 (by omega)), (q_isu z548 (by omega)), z549, g553, g554, g555⟩
        · exact absurd c542 (by omega)
      · refine q_ild_n cx dX12_send_31 rfl (lv_at hl 4 rfl) ?_
        refine q_cSi (As := [.int (q_i c0)]) (rest := [.int (q_i 0), .ref mo]) cx hB (fun _ h => h) hN (r_isMany l g hN hB.2.1 c0 (by omega) (by omega)) q_cX12_452 q_dX12_isMany (by decide) rfl rfl hl.1 rfl (Nat.le_of_ble_eq_true rfl) dX12_send_32 (fun y558 H locs f557 ry558 h559 hF hB => ?_)
        rcases h559 with h560 | h561
        · obtain ⟨rfl, qy558, t562, t563⟩ := h560
          subst qy558
          refine q_ifeq (tgt := 42) cx ⟨by decide, by decide⟩ dX12_send_35 (by decide) (fun c564 => ?_) (fun c564 => ?_)
          · exact absurd c564 (by omega)
          · refine q_iconst cx dX12_send_38 ?_
            refine lv_goto (tgt := 43) cx.1 cx.2.1 dX12_send_39 (by decide) ?_
            refine lv_iload cx.1 cx.2.1 dX12_send_43 (lv_at hl 0 rfl) ?_
            refine q_ifeq (tgt := 61) cx ⟨by decide, by decide⟩ dX12_send_45 (by decide) (fun c565 => ?_) (fun c565 => ?_)
            · refine q_iconst cx dX12_send_61 ?_
              refine q_cVi (As := [.int (q_i 0), .int (q_i 1), .int (q_i 0)]) (rest := []) cx hB (fun _ h => h) hN hmo kmo (by decide) rfl (r_goesAll0 l g hN hB.2.1 mo hmo kmo 0 (by decide) (by decide) 1 (by decide) (by decide) 0 (by decide) (by decide)) q_cX12_458 q_dX12_goesAll (by decide) rfl rfl hl.1 rfl (Nat.le_of_ble_eq_true rfl) dX12_send_62 (fun y567 H locs f566 ry567 h568 hF hB => ?_)
              obtain ⟨qy567, z569⟩ := h568
              have z570 : q_is (q_z f566 sr 3) xt := Eq.trans (hF.z hsr (by rw [ksr]; rfl)) hf0
              have z571 : q_is (q_z f566 sr 4) xm := Eq.trans (hF.z hsr (by rw [ksr]; rfl)) hf1
              have z572 : q_is (q_z f566 sr 0) xc := Eq.trans (hF.z hsr (by rw [ksr]; rfl)) hf2
              have z573 : q_ir (q_r f566 mo 13) sr := Eq.trans (hF.r hmo (by rw [kmo]; rfl)) hr0
              have z574 : q_ir (q_r f566 mo 15) as := Eq.trans (hF.r hmo (by rw [kmo]; rfl)) hr1
              have z575 : q_ir (q_r f566 mo 17) pa := Eq.trans (hF.r hmo (by rw [kmo]; rfl)) hr2
              have g576 : q_gr f566 sr := q_gr_fr hgr (fun i9 _ => hF.z hsr (by rw [ksr]; rfl))
              have g577 : q_pk f566 mo pa := q_pk_tr hpk (hF.z hmo (by rw [kmo]; rfl)) (fun i9 => hF.z hpa (by rw [kpa]; rfl))
              have g578 : q_pc f566 mo pa xc := q_pc_tr hpc (hF.z hmo (by rw [kmo]; rfl)) (fun i9 => hF.z hpa (by rw [kpa]; rfl))
              subst qy567
              refine q_ifne (tgt := 70) cx ⟨by decide, by decide⟩ dX12_send_65 (by decide) (fun c579 => ?_) (fun c579 => ?_)
              · exact absurd c579 (by omega)
              · refine q_iconst cx dX12_send_68 ?_
                refine q_iret cx hr hlk hB dX12_send_69 ⟨by decide, by decide⟩ ?_
                exact ⟨(by decide), (by decide), (q_isl z570 (by omega)), (q_isu z570 (by omega)), (q_isl z571 (by omega)), (q_isu z571 (by omega)), z572, g576, g577, g578⟩
            · exact absurd c565 (by omega)
        · obtain ⟨rfl, qy558, t580⟩ := h561
          subst qy558
          refine q_ifeq (tgt := 42) cx ⟨by decide, by decide⟩ dX12_send_35 (by decide) (fun c581 => ?_) (fun c581 => ?_)
          · refine q_iconst cx dX12_send_42 ?_
            refine lv_iload cx.1 cx.2.1 dX12_send_43 (lv_at hl 0 rfl) ?_
            refine q_ifeq (tgt := 61) cx ⟨by decide, by decide⟩ dX12_send_45 (by decide) (fun c582 => ?_) (fun c582 => ?_)
            · refine q_iconst cx dX12_send_61 ?_
              refine q_cVi (As := [.int (q_i 0), .int (q_i 0), .int (q_i 0)]) (rest := []) cx hB (fun _ h => h) hN hmo kmo (by decide) rfl (r_goesAll0 l g hN hB.2.1 mo hmo kmo 0 (by decide) (by decide) 0 (by decide) (by decide) 0 (by decide) (by decide)) q_cX12_458 q_dX12_goesAll (by decide) rfl rfl hl.1 rfl (Nat.le_of_ble_eq_true rfl) dX12_send_62 (fun y584 H locs f583 ry584 h585 hF hB => ?_)
              obtain ⟨qy584, z586⟩ := h585
              have z587 : q_is (q_z f583 sr 3) xt := Eq.trans (hF.z hsr (by rw [ksr]; rfl)) hf0
              have z588 : q_is (q_z f583 sr 4) xm := Eq.trans (hF.z hsr (by rw [ksr]; rfl)) hf1
              have z589 : q_is (q_z f583 sr 0) xc := Eq.trans (hF.z hsr (by rw [ksr]; rfl)) hf2
              have z590 : q_ir (q_r f583 mo 13) sr := Eq.trans (hF.r hmo (by rw [kmo]; rfl)) hr0
              have z591 : q_ir (q_r f583 mo 15) as := Eq.trans (hF.r hmo (by rw [kmo]; rfl)) hr1
              have z592 : q_ir (q_r f583 mo 17) pa := Eq.trans (hF.r hmo (by rw [kmo]; rfl)) hr2
              have g593 : q_gr f583 sr := q_gr_fr hgr (fun i9 _ => hF.z hsr (by rw [ksr]; rfl))
              have g594 : q_pk f583 mo pa := q_pk_tr hpk (hF.z hmo (by rw [kmo]; rfl)) (fun i9 => hF.z hpa (by rw [kpa]; rfl))
              have g595 : q_pc f583 mo pa xc := q_pc_tr hpc (hF.z hmo (by rw [kmo]; rfl)) (fun i9 => hF.z hpa (by rw [kpa]; rfl))
              subst qy584
              refine q_ifne (tgt := 70) cx ⟨by decide, by decide⟩ dX12_send_65 (by decide) (fun c596 => ?_) (fun c596 => ?_)
              · exact absurd c596 (by omega)
              · refine q_iconst cx dX12_send_68 ?_
                refine q_iret cx hr hlk hB dX12_send_69 ⟨by decide, by decide⟩ ?_
                exact ⟨(by decide), (by decide), (q_isl z587 (by omega)), (q_isu z587 (by omega)), (q_isl z588 (by omega)), (q_isu z588 (by omega)), z589, g593, g594, g595⟩
            · exact absurd c582 (by omega)
          · exact absurd c581 (by omega)
    · exact absurd c540 (by omega)
set_option maxHeartbeats 4000000 in
set_option maxRecDepth 100000 in
theorem r_setShift (l : Launch) (g : q_G) {K : Nat → Nat} {L : List Nat} (hN : L.Nodup) {f : Nat → va_E} (hT : q_Ty g K L f) (mo : Nat) (hmo : mo ∈ L) (kmo : K mo = 12) (a0 : Int) (la0 : (-2147483648) ≤ a0) (ua0 : a0 ≤ 2147483647) (b0 : Int) (lb0 : (-2147483648) ≤ b0) (ub0 : b0 ≤ 2147483647) (sr : Nat) (hsr : sr ∈ L) (ksr : K sr = 151) (as : Nat) (has : as ∈ L) (kas : K as = 153) (pa : Nat) (hpa : pa ∈ L) (kpa : K pa = 155) (xt : Int) (lxt : 0 ≤ xt) (uxt : xt ≤ 9999) (xm : Int) (lxm : 0 ≤ xm) (uxm : xm ≤ 60) (xc : Int) (lxc : 0 ≤ xc) (uxc : xc ≤ 10) (hf0 : q_is (q_z f sr 3) xt) (hf1 : q_is (q_z f sr 4) xm) (hf2 : q_is (q_z f sr 0) xc) (hr0 : q_ir (q_r f mo 13) sr) (hr1 : q_ir (q_r f mo 15) as) (hr2 : q_ir (q_r f mo 17) pa) (hgr : q_gr f sr) (hpk : q_pk f mo pa) (hpc : q_pc f mo pa xc) : q_Ct l g K L yX12_setShift cX12_setShift 3 (some .int) 3 66 [.ref mo, .int (q_i a0), .int (q_i b0)] f [(12, 0, 0), (12, 21, 21), (151, 11, 83), (153, 0, 657), (155, 0, 3947)] (q_Pi (fun (z : Int) (f1 : Nat → va_E) => 0 ≤ z ∧ z ≤ 59 ∧ 0 ≤ q_z f1 sr 3 ∧ q_z f1 sr 3 ≤ 9999 ∧ 0 ≤ q_z f1 sr 4 ∧ q_z f1 sr 4 ≤ 60 ∧ q_is (q_z f1 sr 0) xc ∧ q_gr f1 sr ∧ (q_pk f1 mo pa) ∧ (q_pc f1 mo pa xc))) := by
  refine q_ofb (by decide +kernel) hN hT (Nat.le_of_ble_eq_true rfl) ?_
  intro p e s m below meth c ls cx hr hlk hB hl
  have hl : lv_has ls 3 [(0, .ref mo), (1, .int (q_i a0)), (2, .int (q_i b0))] := hl
  obtain ⟨H, hH⟩ : ∃ H : Heap, H = s.heap := ⟨_, rfl⟩
  obtain ⟨locs, hlocs⟩ : ∃ z : List Loc, z = [] := ⟨_, rfl⟩
  rw [← hH, ← hlocs] at hB
  rw [← hH, ← hlocs]
  refine q_ald_n cx dX12_setShift_0 rfl (lv_at hl 0 rfl) ?_
  refine q_ald_n cx dX12_setShift_1 rfl (lv_at hl 0 rfl) ?_
  refine q_ild_n cx dX12_setShift_2 rfl (lv_at hl 1 rfl) ?_
  refine q_cVi (As := [.int (q_i a0)]) (rest := [.ref mo]) cx hB (fun _ h => h) hN hmo kmo (by decide) rfl (r_isNode l g hN hB.2.1 mo hmo kmo a0 (by omega) (by omega) sr hsr ksr hr0) q_cX12_355 q_dX12_isNode (by decide) rfl rfl hl.1 rfl (Nat.le_of_ble_eq_true rfl) dX12_setShift_3 (fun y128 H locs f127 ry128 h129 hF hB => ?_)
  rcases h129 with h130 | h131
  · obtain ⟨rfl, qy128, t132, t133⟩ := h130
    subst qy128
    refine q_ald_n cx dX12_setShift_6 rfl (lv_at hl 0 rfl) ?_
    refine q_ild_n cx dX12_setShift_7 rfl (lv_at hl 2 rfl) ?_
    refine q_cVi (As := [.int (q_i b0)]) (rest := [.int (q_i 1), .ref mo]) cx hB (fun _ h => h) hN hmo kmo (by decide) rfl (r_isDay l g hN hB.2.1 mo hmo kmo b0 (by omega) (by omega) sr hsr ksr hr0 hgr) q_cX12_388 q_dX12_isDay (by decide) rfl rfl hl.1 rfl (Nat.le_of_ble_eq_true rfl) dX12_setShift_8 (fun y135 H locs f134 ry135 h136 hF hB => ?_)
    rcases h136 with h137 | h138
    · obtain ⟨rfl, qy135, t139, t140⟩ := h137
      subst qy135
      refine q_cVi (As := [.int (q_i 1), .int (q_i 1)]) (rest := []) cx hB (fun _ h => h) hN hmo kmo (by decide) rfl (r_goesBoth2 l g hN hB.2.1 mo hmo kmo 1 (by decide) (by decide) 1 (by decide) (by decide)) q_cX12_358 q_dX12_goesBoth (by decide) rfl rfl hl.1 rfl (Nat.le_of_ble_eq_true rfl) dX12_setShift_11 (fun y142 H locs f141 ry142 h143 hF hB => ?_)
      obtain ⟨qy142, z144⟩ := h143
      have z145 : q_is (q_z f141 sr 3) xt := Eq.trans (hF.z hsr (by rw [ksr]; rfl)) hf0
      have z146 : q_is (q_z f141 sr 4) xm := Eq.trans (hF.z hsr (by rw [ksr]; rfl)) hf1
      have z147 : q_is (q_z f141 sr 0) xc := Eq.trans (hF.z hsr (by rw [ksr]; rfl)) hf2
      have z148 : q_ir (q_r f141 mo 13) sr := Eq.trans (hF.r hmo (by rw [kmo]; rfl)) hr0
      have z149 : q_ir (q_r f141 mo 15) as := Eq.trans (hF.r hmo (by rw [kmo]; rfl)) hr1
      have z150 : q_ir (q_r f141 mo 17) pa := Eq.trans (hF.r hmo (by rw [kmo]; rfl)) hr2
      have g151 : q_gr f141 sr := q_gr_fr hgr (fun i9 _ => hF.z hsr (by rw [ksr]; rfl))
      have g152 : q_pk f141 mo pa := q_pk_tr hpk (hF.z hmo (by rw [kmo]; rfl)) (fun i9 => hF.z hpa (by rw [kpa]; rfl))
      have g153 : q_pc f141 mo pa xc := q_pc_tr hpc (hF.z hmo (by rw [kmo]; rfl)) (fun i9 => hF.z hpa (by rw [kpa]; rfl))
      subst qy142
      refine q_ifne (tgt := 19) cx ⟨by decide, by decide⟩ dX12_setShift_14 (by decide) (fun c154 => ?_) (fun c154 => ?_)
      · refine q_ald_n cx dX12_setShift_19 rfl (lv_at hl 0 rfl) ?_
        refine q_cVv (As := []) (rest := []) cx hB (fun _ h => h) hN hmo kmo (by decide) rfl (r_laysAside l g hN hB.2.1 mo hmo kmo sr hsr ksr as has kas xt (by omega) (by omega) xm (by omega) (by omega) xc (by omega) (by omega) z145 z146 z147 z148 z149 g151) q_cX12_247 q_dX12_laysAside (by decide) rfl rfl hl.1 rfl (Nat.le_of_ble_eq_true rfl) dX12_setShift_20 (fun H locs f155 h157 hF hB => ?_)
        obtain ⟨lz158, uz158, z159⟩ := h157
        have z160 : q_is (q_z f155 sr 3) xt := Eq.trans (hF.z hsr (by rw [ksr]; rfl)) z145
        have z161 : q_is (q_z f155 sr 4) xm := Eq.trans (hF.z hsr (by rw [ksr]; rfl)) z146
        have z162 : q_is (q_z f155 sr 0) xc := Eq.trans (hF.z hsr (by rw [ksr]; rfl)) z147
        have z163 : q_is (q_z f155 mo 0) 0 := Eq.trans (hF.z hmo (by rw [kmo]; rfl)) z144
        have z164 : q_ir (q_r f155 mo 13) sr := Eq.trans (hF.r hmo (by rw [kmo]; rfl)) z148
        have z165 : q_ir (q_r f155 mo 15) as := Eq.trans (hF.r hmo (by rw [kmo]; rfl)) z149
        have z166 : q_ir (q_r f155 mo 17) pa := Eq.trans (hF.r hmo (by rw [kmo]; rfl)) z150
        have g167 : q_gr f155 sr := q_gr_fr g151 (fun i9 _ => hF.z hsr (by rw [ksr]; rfl))
        have g168 : q_pk f155 mo pa := q_pk_tr g152 (hF.z hmo (by rw [kmo]; rfl)) (fun i9 => hF.z hpa (by rw [kpa]; rfl))
        have g169 : q_pc f155 mo pa xc := q_pc_tr g153 (hF.z hmo (by rw [kmo]; rfl)) (fun i9 => hF.z hpa (by rw [kpa]; rfl))
        obtain ⟨x170, ex170⟩ : ∃ zz, q_is (q_z f155 as 2) zz := ⟨_, q_isr _⟩
        obtain ⟨lx170, ux170⟩ := q_isb ex170 ⟨lz158, uz158⟩
        refine q_ald_n cx dX12_setShift_23 rfl (lv_at hl 0 rfl) ?_
        refine q_ald_n cx dX12_setShift_24 rfl (lv_at hl 0 rfl) ?_
        refine q_ild_n cx dX12_setShift_25 rfl (lv_at hl 1 rfl) ?_
        refine q_iconst cx dX12_setShift_26 ?_
        refine q_cSi (As := [.int (q_i a0), .int (q_i 1)]) (rest := [.ref mo, .ref mo]) cx hB (fun _ h => h) hN (r_nodeCell l g hN hB.2.1 a0 (by omega) (by omega) 1 (by decide) (by decide)) q_cX12_172 q_dX12_nodeCell (by decide) rfl rfl hl.1 rfl (Nat.le_of_ble_eq_true rfl) dX12_setShift_27 (fun y172 H locs f171 ry172 h173 hF hB => ?_)
        obtain ⟨rfl, qy172⟩ := h173
        refine q_ild_n cx dX12_setShift_30 rfl (lv_at hl 2 rfl) ?_
        refine q_cVi (As := [.int (q_i y172), .int (q_i b0)]) (rest := [.ref mo]) cx hB (fun _ h => h) hN hmo kmo (by decide) rfl (r_swapsCelln1 l g hN hB.2.1 mo hmo kmo y172 (by omega) (by omega) b0 (by omega) (by omega) sr hsr ksr a0 (by omega) (by omega) z164 (by omega) g167) q_cX12_462 q_dX12_swapsCell (by decide) rfl rfl hl.1 rfl (Nat.le_of_ble_eq_true rfl) dX12_setShift_31 (fun y175 H locs f174 ry175 h176 hF hB => ?_)
        obtain ⟨ly175, uy175, g177⟩ := h176
        have z178 : q_is (q_z f174 sr 3) xt := Eq.trans (hF.z hsr (by rw [ksr]; rfl)) z160
        have z179 : q_is (q_z f174 sr 4) xm := Eq.trans (hF.z hsr (by rw [ksr]; rfl)) z161
        have z180 : q_is (q_z f174 sr 0) xc := Eq.trans (hF.z hsr (by rw [ksr]; rfl)) z162
        have z181 : q_is (q_z f174 mo 0) 0 := Eq.trans (hF.z hmo (by rw [kmo]; rfl)) z163
        have z182 : q_is (q_z f174 as 2) x170 := Eq.trans (hF.z has (by rw [kas]; rfl)) ex170
        have z183 : q_is (q_z f174 as 0) xc := Eq.trans (hF.z has (by rw [kas]; rfl)) z159
        have z184 : q_ir (q_r f174 mo 13) sr := Eq.trans (hF.r hmo (by rw [kmo]; rfl)) z164
        have z185 : q_ir (q_r f174 mo 15) as := Eq.trans (hF.r hmo (by rw [kmo]; rfl)) z165
        have z186 : q_ir (q_r f174 mo 17) pa := Eq.trans (hF.r hmo (by rw [kmo]; rfl)) z166
        have g187 : q_pk f174 mo pa := q_pk_tr g168 (hF.z hmo (by rw [kmo]; rfl)) (fun i9 => hF.z hpa (by rw [kpa]; rfl))
        have g188 : q_pc f174 mo pa xc := q_pc_tr g169 (hF.z hmo (by rw [kmo]; rfl)) (fun i9 => hF.z hpa (by rw [kpa]; rfl))
        refine q_cVi (As := [.int (q_i y175)]) (rest := []) cx hB (fun _ h => h) hN hmo kmo (by decide) rfl (r_kept l g hN hB.2.1 mo hmo kmo y175 (by omega) (by omega) as has kas pa hpa kpa x170 (by omega) (by omega) xc (by omega) (by omega) z182 z183 z185 z186 g187 g188) q_cX12_449 q_dX12_kept (by decide) rfl rfl hl.1 rfl (Nat.le_of_ble_eq_true rfl) dX12_setShift_34 (fun y190 H locs f189 ry190 h191 hF hB => ?_)
        obtain ⟨qy190, g192, g193⟩ := h191
        have z194 : q_is (q_z f189 sr 3) xt := Eq.trans (hF.z hsr (by rw [ksr]; rfl)) z178
        have z195 : q_is (q_z f189 sr 4) xm := Eq.trans (hF.z hsr (by rw [ksr]; rfl)) z179
        have z196 : q_is (q_z f189 sr 0) xc := Eq.trans (hF.z hsr (by rw [ksr]; rfl)) z180
        have z197 : q_is (q_z f189 mo 0) 0 := Eq.trans (hF.z hmo (by rw [kmo]; rfl)) z181
        have z198 : q_is (q_z f189 as 2) x170 := Eq.trans (hF.z has (by rw [kas]; rfl)) z182
        have z199 : q_is (q_z f189 as 0) xc := Eq.trans (hF.z has (by rw [kas]; rfl)) z183
        have z200 : q_ir (q_r f189 mo 13) sr := Eq.trans (hF.r hmo (by rw [kmo]; rfl)) z184
        have z201 : q_ir (q_r f189 mo 15) as := Eq.trans (hF.r hmo (by rw [kmo]; rfl)) z185
        have z202 : q_ir (q_r f189 mo 17) pa := Eq.trans (hF.r hmo (by rw [kmo]; rfl)) z186
        have g203 : q_gr f189 sr := q_gr_fr g177 (fun i9 _ => hF.z hsr (by rw [ksr]; rfl))
        refine q_iret cx hr hlk hB dX12_setShift_37 ⟨by omega, by omega⟩ ?_
        exact ⟨(by omega), (by omega), (q_isl z194 (by omega)), (q_isu z194 (by omega)), (q_isl z195 (by omega)), (q_isu z195 (by omega)), z196, g203, g192, g193⟩
      · exact absurd c154 (by omega)
    · obtain ⟨rfl, qy135⟩ := h138
      subst qy135
      refine q_cVi (As := [.int (q_i 1), .int (q_i 0)]) (rest := []) cx hB (fun _ h => h) hN hmo kmo (by decide) rfl (r_goesBoth1 l g hN hB.2.1 mo hmo kmo 1 (by decide) (by decide) 0 (by decide) (by decide)) q_cX12_358 q_dX12_goesBoth (by decide) rfl rfl hl.1 rfl (Nat.le_of_ble_eq_true rfl) dX12_setShift_11 (fun y205 H locs f204 ry205 h206 hF hB => ?_)
      obtain ⟨qy205, z207⟩ := h206
      have z208 : q_is (q_z f204 sr 3) xt := Eq.trans (hF.z hsr (by rw [ksr]; rfl)) hf0
      have z209 : q_is (q_z f204 sr 4) xm := Eq.trans (hF.z hsr (by rw [ksr]; rfl)) hf1
      have z210 : q_is (q_z f204 sr 0) xc := Eq.trans (hF.z hsr (by rw [ksr]; rfl)) hf2
      have z211 : q_ir (q_r f204 mo 13) sr := Eq.trans (hF.r hmo (by rw [kmo]; rfl)) hr0
      have z212 : q_ir (q_r f204 mo 15) as := Eq.trans (hF.r hmo (by rw [kmo]; rfl)) hr1
      have z213 : q_ir (q_r f204 mo 17) pa := Eq.trans (hF.r hmo (by rw [kmo]; rfl)) hr2
      have g214 : q_gr f204 sr := q_gr_fr hgr (fun i9 _ => hF.z hsr (by rw [ksr]; rfl))
      have g215 : q_pk f204 mo pa := q_pk_tr hpk (hF.z hmo (by rw [kmo]; rfl)) (fun i9 => hF.z hpa (by rw [kpa]; rfl))
      have g216 : q_pc f204 mo pa xc := q_pc_tr hpc (hF.z hmo (by rw [kmo]; rfl)) (fun i9 => hF.z hpa (by rw [kpa]; rfl))
      subst qy205
      refine q_ifne (tgt := 19) cx ⟨by decide, by decide⟩ dX12_setShift_14 (by decide) (fun c217 => ?_) (fun c217 => ?_)
      · exact absurd c217 (by omega)
      · refine q_iconst cx dX12_setShift_17 ?_
        refine q_iret cx hr hlk hB dX12_setShift_18 ⟨by decide, by decide⟩ ?_
        exact ⟨(by decide), (by decide), (q_isl z208 (by omega)), (q_isu z208 (by omega)), (q_isl z209 (by omega)), (q_isu z209 (by omega)), z210, g214, g215, g216⟩
  · obtain ⟨rfl, qy128⟩ := h131
    subst qy128
    refine q_ald_n cx dX12_setShift_6 rfl (lv_at hl 0 rfl) ?_
    refine q_ild_n cx dX12_setShift_7 rfl (lv_at hl 2 rfl) ?_
    refine q_cVi (As := [.int (q_i b0)]) (rest := [.int (q_i 0), .ref mo]) cx hB (fun _ h => h) hN hmo kmo (by decide) rfl (r_isDay l g hN hB.2.1 mo hmo kmo b0 (by omega) (by omega) sr hsr ksr hr0 hgr) q_cX12_388 q_dX12_isDay (by decide) rfl rfl hl.1 rfl (Nat.le_of_ble_eq_true rfl) dX12_setShift_8 (fun y219 H locs f218 ry219 h220 hF hB => ?_)
    rcases h220 with h221 | h222
    · obtain ⟨rfl, qy219, t223, t224⟩ := h221
      subst qy219
      refine q_cVi (As := [.int (q_i 0), .int (q_i 1)]) (rest := []) cx hB (fun _ h => h) hN hmo kmo (by decide) rfl (r_goesBoth0 l g hN hB.2.1 mo hmo kmo 0 (by decide) (by decide) 1 (by decide) (by decide)) q_cX12_358 q_dX12_goesBoth (by decide) rfl rfl hl.1 rfl (Nat.le_of_ble_eq_true rfl) dX12_setShift_11 (fun y226 H locs f225 ry226 h227 hF hB => ?_)
      obtain ⟨qy226, z228⟩ := h227
      have z229 : q_is (q_z f225 sr 3) xt := Eq.trans (hF.z hsr (by rw [ksr]; rfl)) hf0
      have z230 : q_is (q_z f225 sr 4) xm := Eq.trans (hF.z hsr (by rw [ksr]; rfl)) hf1
      have z231 : q_is (q_z f225 sr 0) xc := Eq.trans (hF.z hsr (by rw [ksr]; rfl)) hf2
      have z232 : q_ir (q_r f225 mo 13) sr := Eq.trans (hF.r hmo (by rw [kmo]; rfl)) hr0
      have z233 : q_ir (q_r f225 mo 15) as := Eq.trans (hF.r hmo (by rw [kmo]; rfl)) hr1
      have z234 : q_ir (q_r f225 mo 17) pa := Eq.trans (hF.r hmo (by rw [kmo]; rfl)) hr2
      have g235 : q_gr f225 sr := q_gr_fr hgr (fun i9 _ => hF.z hsr (by rw [ksr]; rfl))
      have g236 : q_pk f225 mo pa := q_pk_tr hpk (hF.z hmo (by rw [kmo]; rfl)) (fun i9 => hF.z hpa (by rw [kpa]; rfl))
      have g237 : q_pc f225 mo pa xc := q_pc_tr hpc (hF.z hmo (by rw [kmo]; rfl)) (fun i9 => hF.z hpa (by rw [kpa]; rfl))
      subst qy226
      refine q_ifne (tgt := 19) cx ⟨by decide, by decide⟩ dX12_setShift_14 (by decide) (fun c238 => ?_) (fun c238 => ?_)
      · exact absurd c238 (by omega)
      · refine q_iconst cx dX12_setShift_17 ?_
        refine q_iret cx hr hlk hB dX12_setShift_18 ⟨by decide, by decide⟩ ?_
        exact ⟨(by decide), (by decide), (q_isl z229 (by omega)), (q_isu z229 (by omega)), (q_isl z230 (by omega)), (q_isu z230 (by omega)), z231, g235, g236, g237⟩
    · obtain ⟨rfl, qy219⟩ := h222
      subst qy219
      refine q_cVi (As := [.int (q_i 0), .int (q_i 0)]) (rest := []) cx hB (fun _ h => h) hN hmo kmo (by decide) rfl (r_goesBoth0 l g hN hB.2.1 mo hmo kmo 0 (by decide) (by decide) 0 (by decide) (by decide)) q_cX12_358 q_dX12_goesBoth (by decide) rfl rfl hl.1 rfl (Nat.le_of_ble_eq_true rfl) dX12_setShift_11 (fun y240 H locs f239 ry240 h241 hF hB => ?_)
      obtain ⟨qy240, z242⟩ := h241
      have z243 : q_is (q_z f239 sr 3) xt := Eq.trans (hF.z hsr (by rw [ksr]; rfl)) hf0
      have z244 : q_is (q_z f239 sr 4) xm := Eq.trans (hF.z hsr (by rw [ksr]; rfl)) hf1
      have z245 : q_is (q_z f239 sr 0) xc := Eq.trans (hF.z hsr (by rw [ksr]; rfl)) hf2
      have z246 : q_ir (q_r f239 mo 13) sr := Eq.trans (hF.r hmo (by rw [kmo]; rfl)) hr0
      have z247 : q_ir (q_r f239 mo 15) as := Eq.trans (hF.r hmo (by rw [kmo]; rfl)) hr1
      have z248 : q_ir (q_r f239 mo 17) pa := Eq.trans (hF.r hmo (by rw [kmo]; rfl)) hr2
      have g249 : q_gr f239 sr := q_gr_fr hgr (fun i9 _ => hF.z hsr (by rw [ksr]; rfl))
      have g250 : q_pk f239 mo pa := q_pk_tr hpk (hF.z hmo (by rw [kmo]; rfl)) (fun i9 => hF.z hpa (by rw [kpa]; rfl))
      have g251 : q_pc f239 mo pa xc := q_pc_tr hpc (hF.z hmo (by rw [kmo]; rfl)) (fun i9 => hF.z hpa (by rw [kpa]; rfl))
      subst qy240
      refine q_ifne (tgt := 19) cx ⟨by decide, by decide⟩ dX12_setShift_14 (by decide) (fun c252 => ?_) (fun c252 => ?_)
      · exact absurd c252 (by omega)
      · refine q_iconst cx dX12_setShift_17 ?_
        refine q_iret cx hr hlk hB dX12_setShift_18 ⟨by decide, by decide⟩ ?_
        exact ⟨(by decide), (by decide), (q_isl z243 (by omega)), (q_isu z243 (by omega)), (q_isl z244 (by omega)), (q_isu z244 (by omega)), z245, g249, g250, g251⟩
