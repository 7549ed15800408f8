set_option maxHeartbeats 4000000 in
set_option maxRecDepth 100000 in
theorem r_send (l : Launch) (g : q_G) {K : Nat → Nat} {L : List Nat} (hN : L.Nodup) {f : Nat → va_E} (hT : q_Ty g K L f) (mo : Nat) (hmo : mo ∈ L) (kmo : K mo = 12) (a0 : Int) (la0 : (-2147483648) ≤ a0) (ua0 : a0 ≤ 2147483647) (b0 : Int) (lb0 : (-2147483648) ≤ b0) (ub0 : b0 ≤ 2147483647) (c0 : Int) (lc0 : (-2147483648) ≤ c0) (uc0 : c0 ≤ 2147483647) (d0 : Int) (ld0 : 0 ≤ d0) (ud0 : d0 ≤ 1) (sr : Nat) (hsr : sr ∈ L) (ksr : K sr = 151) (as : Nat) (has : as ∈ L) (kas : K as = 153) (pa : Nat) (hpa : pa ∈ L) (kpa : K pa = 155) (xt : Int) (lxt : 0 ≤ xt) (uxt : xt ≤ 9999) (xm : Int) (lxm : 0 ≤ xm) (uxm : xm ≤ 60) (hf0 : q_is (q_z f sr 3) xt) (hf1 : q_is (q_z f sr 4) xm) (hr0 : q_ir (q_r f mo 13) sr) (hr1 : q_ir (q_r f mo 15) as) (hr2 : q_ir (q_r f mo 17) pa) (hgr : q_gr f sr) (hpk : q_pk f mo pa) : q_Ct l g K L yX12_send cX12_send 6 (some .int) 5 108 [.ref mo, .int (q_i a0), .int (q_i b0), .int (q_i c0), .int (q_i d0)] f [(12, 0, 0), (12, 21, 21), (151, 4, 4), (151, 170, 657), (153, 0, 657), (155, 0, 3947)] (q_Pi (fun (z : Int) (f1 : Nat → va_E) => 0 ≤ z ∧ z ≤ 60 ∧ 0 ≤ q_z f1 sr 3 ∧ q_z f1 sr 3 ≤ 9999 ∧ 0 ≤ q_z f1 sr 4 ∧ q_z f1 sr 4 ≤ 60 ∧ q_gr f1 sr ∧ (q_pk f1 mo pa))) := by
  refine q_ofb (by decide +kernel) hN hT (Nat.le_of_ble_eq_true rfl) ?_
  intro p e s m below meth c ls cx hr hlk hB hl
  have hl : lv_has ls 6 [(0, .ref mo), (1, .int (q_i a0)), (2, .int (q_i b0)), (3, .int (q_i c0)), (4, .int (q_i d0))] := hl
  obtain ⟨H, hH⟩ : ∃ H : Heap, H = s.heap := ⟨_, rfl⟩
  obtain ⟨locs, hlocs⟩ : ∃ z : List Loc, z = [] := ⟨_, rfl⟩
  rw [← hH, ← hlocs] at hB
  rw [← hH, ← hlocs]
  refine q_ald_n cx dX12_send_0 rfl (lv_at hl 0 rfl) ?_
  refine q_ild_n cx dX12_send_1 rfl (lv_at hl 1 rfl) ?_
  refine q_cVi (As := [.int (q_i a0)]) (rest := []) cx hB (fun _ h => h) hN hmo kmo (by decide) rfl (r_isNode l g hN hB.2.1 mo hmo kmo a0 (by omega) (by omega) sr hsr ksr hr0) q_cX12_355 q_dX12_isNode (by decide) rfl rfl hl.1 rfl (Nat.le_of_ble_eq_true rfl) dX12_send_2 (fun y267 H locs f266 ry267 h268 hF hB => ?_)
  rcases h268 with h269 | h270
  · obtain ⟨rfl, qy267, t271, t272⟩ := h269
    subst qy267
    refine q_ifeq (tgt := 20) cx ⟨by decide, by decide⟩ dX12_send_5 (by decide) (fun c273 => ?_) (fun c273 => ?_)
    · exact absurd c273 (by omega)
    · refine q_ald_n cx dX12_send_8 rfl (lv_at hl 0 rfl) ?_
      refine q_ild_n cx dX12_send_9 rfl (lv_at hl 2 rfl) ?_
      refine q_cVi (As := [.int (q_i b0)]) (rest := []) cx hB (fun _ h => h) hN hmo kmo (by decide) rfl (r_isNode l g hN hB.2.1 mo hmo kmo b0 (by omega) (by omega) sr hsr ksr hr0) q_cX12_355 q_dX12_isNode (by decide) rfl rfl hl.1 rfl (Nat.le_of_ble_eq_true rfl) dX12_send_10 (fun y275 H locs f274 ry275 h276 hF hB => ?_)
      rcases h276 with h277 | h278
      · obtain ⟨rfl, qy275, t279, t280⟩ := h277
        subst qy275
        refine q_ifeq (tgt := 20) cx ⟨by decide, by decide⟩ dX12_send_13 (by decide) (fun c281 => ?_) (fun c281 => ?_)
        · exact absurd c281 (by omega)
        · refine q_iconst cx dX12_send_16 ?_
          refine lv_goto (tgt := 21) cx.1 cx.2.1 dX12_send_17 (by decide) ?_
          refine lv_istore (lv' := [(5, .int (q_i 1)), (0, .ref mo), (1, .int (q_i a0)), (2, .int (q_i b0)), (3, .int (q_i c0)), (4, .int (q_i d0))]) cx.1 cx.2.1 dX12_send_21 hl (by decide) rfl (fun ls hl => ?_)
          refine q_ald_n cx dX12_send_23 rfl (lv_at hl 1 rfl) ?_
          refine lv_iload cx.1 cx.2.1 dX12_send_24 (lv_at hl 0 rfl) ?_
          refine q_ild_n cx dX12_send_26 rfl (lv_at hl 2 rfl) ?_
          refine q_ild_n cx dX12_send_27 rfl (lv_at hl 3 rfl) ?_
          refine q_iceq (tgt := 42) cx ⟨by omega, by omega⟩ ⟨by omega, by omega⟩ dX12_send_28 (by decide) (fun c282 => ?_) (fun c282 => ?_)
          · refine q_iconst cx dX12_send_42 ?_
            refine lv_iload cx.1 cx.2.1 dX12_send_43 (lv_at hl 0 rfl) ?_
            refine q_ifeq (tgt := 61) cx ⟨by decide, by decide⟩ dX12_send_45 (by decide) (fun c283 => ?_) (fun c283 => ?_)
            · exact absurd c283 (by omega)
            · refine q_ald_n cx dX12_send_48 rfl (lv_at hl 1 rfl) ?_
              refine q_ild_n cx dX12_send_49 rfl (lv_at hl 2 rfl) ?_
              refine q_ild_n cx dX12_send_50 rfl (lv_at hl 3 rfl) ?_
              refine q_cVi (As := [.int (q_i a0), .int (q_i b0)]) (rest := [.int (q_i 0), .int (q_i 1), .ref mo]) cx hB (fun _ h => h) hN hmo kmo (by decide) rfl (r_maySend l g hN hB.2.1 mo hmo kmo a0 (by omega) (by omega) b0 (by omega) (by omega) sr hsr ksr xm (by omega) (by omega) hf1 hr0 hgr) q_cX12_455 q_dX12_maySend (by decide) rfl rfl hl.1 rfl (Nat.le_of_ble_eq_true rfl) dX12_send_51 (fun y285 H locs f284 ry285 h286 hF hB => ?_)
              rcases h286 with h287 | h288
              · obtain ⟨rfl, qy285, t289⟩ := h287
                subst qy285
                refine q_ifeq (tgt := 61) cx ⟨by decide, by decide⟩ dX12_send_54 (by decide) (fun c290 => ?_) (fun c290 => ?_)
                · exact absurd c290 (by omega)
                · refine q_iconst cx dX12_send_57 ?_
                  refine lv_goto (tgt := 62) cx.1 cx.2.1 dX12_send_58 (by decide) ?_
                  refine q_cVi (As := [.int (q_i 1), .int (q_i 0), .int (q_i 1)]) (rest := []) cx hB (fun _ h => h) hN hmo kmo (by decide) rfl (r_goesAll1 l g hN hB.2.1 mo hmo kmo 1 (by decide) (by decide) 0 (by decide) (by decide) 1 (by decide) (by decide)) q_cX12_458 q_dX12_goesAll (by decide) rfl rfl hl.1 rfl (Nat.le_of_ble_eq_true rfl) dX12_send_62 (fun y292 H locs f291 ry292 h293 hF hB => ?_)
                  obtain ⟨qy292, z294⟩ := h293
                  have z295 : q_is (q_z f291 sr 3) xt := Eq.trans (hF.z hsr (by rw [ksr]; rfl)) hf0
                  have z296 : q_is (q_z f291 sr 4) xm := Eq.trans (hF.z hsr (by rw [ksr]; rfl)) hf1
                  have z297 : q_ir (q_r f291 mo 13) sr := Eq.trans (hF.r hmo (by rw [kmo]; rfl)) hr0
                  have z298 : q_ir (q_r f291 mo 15) as := Eq.trans (hF.r hmo (by rw [kmo]; rfl)) hr1
                  have z299 : q_ir (q_r f291 mo 17) pa := Eq.trans (hF.r hmo (by rw [kmo]; rfl)) hr2
                  have g300 : q_gr f291 sr := q_gr_fr hgr (fun i9 _ => hF.z hsr (by rw [ksr]; rfl))
                  have g301 : q_pk f291 mo pa := q_pk_tr hpk (hF.z hmo (by rw [kmo]; rfl)) (fun i9 => hF.z hpa (by rw [kpa]; rfl))
                  subst qy292
                  refine q_ifne (tgt := 70) cx ⟨by decide, by decide⟩ dX12_send_65 (by decide) (fun c302 => ?_) (fun c302 => ?_)
                  · exact absurd c302 (by omega)
                  · refine q_iconst cx dX12_send_68 ?_
                    refine q_iret cx hr hlk hB dX12_send_69 ⟨by decide, by decide⟩ ?_
                    exact ⟨(by decide), (by decide), (q_isl z295 (by omega)), (q_isu z295 (by omega)), (q_isl z296 (by omega)), (q_isu z296 (by omega)), g300, g301⟩
              · obtain ⟨rfl, qy285⟩ := h288
                subst qy285
                refine q_ifeq (tgt := 61) cx ⟨by decide, by decide⟩ dX12_send_54 (by decide) (fun c303 => ?_) (fun c303 => ?_)
                · refine q_iconst cx dX12_send_61 ?_
                  refine q_cVi (As := [.int (q_i 1), .int (q_i 0), .int (q_i 0)]) (rest := []) cx hB (fun _ h => h) hN hmo kmo (by decide) rfl (r_goesAll1 l g hN hB.2.1 mo hmo kmo 1 (by decide) (by decide) 0 (by decide) (by decide) 0 (by decide) (by decide)) q_cX12_458 q_dX12_goesAll (by decide) rfl rfl hl.1 rfl (Nat.le_of_ble_eq_true rfl) dX12_send_62 (fun y305 H locs f304 ry305 h306 hF hB => ?_)
                  obtain ⟨qy305, z307⟩ := h306
                  have z308 : q_is (q_z f304 sr 3) xt := Eq.trans (hF.z hsr (by rw [ksr]; rfl)) hf0
                  have z309 : q_is (q_z f304 sr 4) xm := Eq.trans (hF.z hsr (by rw [ksr]; rfl)) hf1
                  have z310 : q_ir (q_r f304 mo 13) sr := Eq.trans (hF.r hmo (by rw [kmo]; rfl)) hr0
                  have z311 : q_ir (q_r f304 mo 15) as := Eq.trans (hF.r hmo (by rw [kmo]; rfl)) hr1
                  have z312 : q_ir (q_r f304 mo 17) pa := Eq.trans (hF.r hmo (by rw [kmo]; rfl)) hr2
                  have g313 : q_gr f304 sr := q_gr_fr hgr (fun i9 _ => hF.z hsr (by rw [ksr]; rfl))
                  have g314 : q_pk f304 mo pa := q_pk_tr hpk (hF.z hmo (by rw [kmo]; rfl)) (fun i9 => hF.z hpa (by rw [kpa]; rfl))
                  subst qy305
                  refine q_ifne (tgt := 70) cx ⟨by decide, by decide⟩ dX12_send_65 (by decide) (fun c315 => ?_) (fun c315 => ?_)
                  · exact absurd c315 (by omega)
                  · refine q_iconst cx dX12_send_68 ?_
                    refine q_iret cx hr hlk hB dX12_send_69 ⟨by decide, by decide⟩ ?_
                    exact ⟨(by decide), (by decide), (q_isl z308 (by omega)), (q_isu z308 (by omega)), (q_isl z309 (by omega)), (q_isu z309 (by omega)), g313, g314⟩
                · exact absurd c303 (by omega)
          · refine q_ild_n cx dX12_send_31 rfl (lv_at hl 4 rfl) ?_
            refine q_cSi (As := [.int (q_i c0)]) (rest := [.int (q_i 1), .ref mo]) cx hB (fun _ h => h) hN (r_isMany l g hN hB.2.1 c0 (by omega) (by omega)) q_cX12_452 q_dX12_isMany (by decide) rfl rfl hl.1 rfl (Nat.le_of_ble_eq_true rfl) dX12_send_32 (fun y317 H locs f316 ry317 h318 hF hB => ?_)
            rcases h318 with h319 | h320
            · obtain ⟨rfl, qy317, t321, t322⟩ := h319
              subst qy317
              refine q_ifeq (tgt := 42) cx ⟨by decide, by decide⟩ dX12_send_35 (by decide) (fun c323 => ?_) (fun c323 => ?_)
              · exact absurd c323 (by omega)
              · refine q_iconst cx dX12_send_38 ?_
                refine lv_goto (tgt := 43) cx.1 cx.2.1 dX12_send_39 (by decide) ?_
                refine lv_iload cx.1 cx.2.1 dX12_send_43 (lv_at hl 0 rfl) ?_
                refine q_ifeq (tgt := 61) cx ⟨by decide, by decide⟩ dX12_send_45 (by decide) (fun c324 => ?_) (fun c324 => ?_)
                · exact absurd c324 (by omega)
                · refine q_ald_n cx dX12_send_48 rfl (lv_at hl 1 rfl) ?_
                  refine q_ild_n cx dX12_send_49 rfl (lv_at hl 2 rfl) ?_
                  refine q_ild_n cx dX12_send_50 rfl (lv_at hl 3 rfl) ?_
                  refine q_cVi (As := [.int (q_i a0), .int (q_i b0)]) (rest := [.int (q_i 1), .int (q_i 1), .ref mo]) cx hB (fun _ h => h) hN hmo kmo (by decide) rfl (r_maySend l g hN hB.2.1 mo hmo kmo a0 (by omega) (by omega) b0 (by omega) (by omega) sr hsr ksr xm (by omega) (by omega) hf1 hr0 hgr) q_cX12_455 q_dX12_maySend (by decide) rfl rfl hl.1 rfl (Nat.le_of_ble_eq_true rfl) dX12_send_51 (fun y326 H locs f325 ry326 h327 hF hB => ?_)
                  rcases h327 with h328 | h329
                  · obtain ⟨rfl, qy326, t330⟩ := h328
                    subst qy326
                    refine q_ifeq (tgt := 61) cx ⟨by decide, by decide⟩ dX12_send_54 (by decide) (fun c331 => ?_) (fun c331 => ?_)
                    · exact absurd c331 (by omega)
                    · refine q_iconst cx dX12_send_57 ?_
                      refine lv_goto (tgt := 62) cx.1 cx.2.1 dX12_send_58 (by decide) ?_
                      refine q_cVi (As := [.int (q_i 1), .int (q_i 1), .int (q_i 1)]) (rest := []) cx hB (fun _ h => h) hN hmo kmo (by decide) rfl (r_goesAll3 l g hN hB.2.1 mo hmo kmo 1 (by decide) (by decide) 1 (by decide) (by decide) 1 (by decide) (by decide)) q_cX12_458 q_dX12_goesAll (by decide) rfl rfl hl.1 rfl (Nat.le_of_ble_eq_true rfl) dX12_send_62 (fun y333 H locs f332 ry333 h334 hF hB => ?_)
                      obtain ⟨qy333, z335⟩ := h334
                      have z336 : q_is (q_z f332 sr 3) xt := Eq.trans (hF.z hsr (by rw [ksr]; rfl)) hf0
                      have z337 : q_is (q_z f332 sr 4) xm := Eq.trans (hF.z hsr (by rw [ksr]; rfl)) hf1
                      have z338 : q_ir (q_r f332 mo 13) sr := Eq.trans (hF.r hmo (by rw [kmo]; rfl)) hr0
                      have z339 : q_ir (q_r f332 mo 15) as := Eq.trans (hF.r hmo (by rw [kmo]; rfl)) hr1
                      have z340 : q_ir (q_r f332 mo 17) pa := Eq.trans (hF.r hmo (by rw [kmo]; rfl)) hr2
                      have g341 : q_gr f332 sr := q_gr_fr hgr (fun i9 _ => hF.z hsr (by rw [ksr]; rfl))
                      have g342 : q_pk f332 mo pa := q_pk_tr hpk (hF.z hmo (by rw [kmo]; rfl)) (fun i9 => hF.z hpa (by rw [kpa]; rfl))
                      subst qy333
                      refine q_ifne (tgt := 70) cx ⟨by decide, by decide⟩ dX12_send_65 (by decide) (fun c343 => ?_) (fun c343 => ?_)
                      · refine q_ald_n cx dX12_send_70 rfl (lv_at hl 1 rfl) ?_
                        refine q_cVv (As := []) (rest := []) cx hB (fun _ h => h) hN hmo kmo (by decide) rfl (r_laysAside l g hN hB.2.1 mo hmo kmo sr hsr ksr as has kas xt (by omega) (by omega) xm (by omega) (by omega) z336 z337 z338 z339 g341) q_cX12_247 q_dX12_laysAside (by decide) rfl rfl hl.1 rfl (Nat.le_of_ble_eq_true rfl) dX12_send_71 (fun H locs f344 h346 hF hB => ?_)
                        obtain ⟨lz347, uz347⟩ := h346
                        have z348 : q_is (q_z f344 sr 3) xt := Eq.trans (hF.z hsr (by rw [ksr]; rfl)) z336
                        have z349 : q_is (q_z f344 sr 4) xm := Eq.trans (hF.z hsr (by rw [ksr]; rfl)) z337
                        have z350 : q_is (q_z f344 mo 0) 0 := Eq.trans (hF.z hmo (by rw [kmo]; rfl)) z335
                        have z351 : q_ir (q_r f344 mo 13) sr := Eq.trans (hF.r hmo (by rw [kmo]; rfl)) z338
                        have z352 : q_ir (q_r f344 mo 15) as := Eq.trans (hF.r hmo (by rw [kmo]; rfl)) z339
                        have z353 : q_ir (q_r f344 mo 17) pa := Eq.trans (hF.r hmo (by rw [kmo]; rfl)) z340
                        have g354 : q_gr f344 sr := q_gr_fr g341 (fun i9 _ => hF.z hsr (by rw [ksr]; rfl))
                        have g355 : q_pk f344 mo pa := q_pk_tr g342 (hF.z hmo (by rw [kmo]; rfl)) (fun i9 => hF.z hpa (by rw [kpa]; rfl))
                        obtain ⟨x356, ex356⟩ : ∃ zz, q_is (q_z f344 as 2) zz := ⟨_, q_isr _⟩
                        obtain ⟨lx356, ux356⟩ := q_isb ex356 ⟨lz347, uz347⟩
                        refine q_ald_n cx dX12_send_74 rfl (lv_at hl 1 rfl) ?_
                        refine q_ald_n cx dX12_send_75 rfl (lv_at hl 1 rfl) ?_
                        refine q_ild_n cx dX12_send_76 rfl (lv_at hl 2 rfl) ?_
                        refine q_ild_n cx dX12_send_77 rfl (lv_at hl 3 rfl) ?_
                        refine q_ild_n cx dX12_send_78 rfl (lv_at hl 4 rfl) ?_
                        refine lv_iload cx.1 cx.2.1 dX12_send_79 (lv_at hl 5 rfl) ?_
                        refine q_cVi (As := [.int (q_i a0), .int (q_i b0), .int (q_i c0), .int (q_i d0)]) (rest := [.ref mo]) cx hB (fun _ h => h) hN hmo kmo (by decide) rfl (r_lays l g hN hB.2.1 mo hmo kmo a0 (by omega) (by omega) b0 (by omega) (by omega) c0 (by omega) (by omega) d0 (by omega) (by omega) sr hsr ksr xt (by omega) (by omega) xm (by omega) (by omega) z348 z349 z351 g354) q_cX12_417 q_dX12_lays (by decide) rfl rfl hl.1 rfl (Nat.le_of_ble_eq_true rfl) dX12_send_81 (fun y358 H locs f357 ry358 h359 hF hB => ?_)
                        obtain ⟨ly358, uy358, z360, g361⟩ := h359
                        have z362 : q_is (q_z f357 sr 3) xt := Eq.trans (hF.z hsr (by rw [ksr]; rfl)) z348
                        have z363 : q_is (q_z f357 mo 0) 0 := Eq.trans (hF.z hmo (by rw [kmo]; rfl)) z350
                        have z364 : q_is (q_z f357 as 2) x356 := Eq.trans (hF.z has (by rw [kas]; rfl)) ex356
                        have z365 : q_ir (q_r f357 mo 13) sr := Eq.trans (hF.r hmo (by rw [kmo]; rfl)) z351
                        have z366 : q_ir (q_r f357 mo 15) as := Eq.trans (hF.r hmo (by rw [kmo]; rfl)) z352
                        have z367 : q_ir (q_r f357 mo 17) pa := Eq.trans (hF.r hmo (by rw [kmo]; rfl)) z353
                        have g368 : q_pk f357 mo pa := q_pk_tr g355 (hF.z hmo (by rw [kmo]; rfl)) (fun i9 => hF.z hpa (by rw [kpa]; rfl))
                        refine q_cVi (As := [.int (q_i y358)]) (rest := []) cx hB (fun _ h => h) hN hmo kmo (by decide) rfl (r_kept l g hN hB.2.1 mo hmo kmo y358 (by omega) (by omega) as has kas pa hpa kpa x356 (by omega) (by omega) z364 z366 z367 g368) q_cX12_449 q_dX12_kept (by decide) rfl rfl hl.1 rfl (Nat.le_of_ble_eq_true rfl) dX12_send_84 (fun y370 H locs f369 ry370 h371 hF hB => ?_)
                        obtain ⟨qy370, g372⟩ := h371
                        have z373 : q_is (q_z f369 sr 3) xt := Eq.trans (hF.z hsr (by rw [ksr]; rfl)) z362
                        have z374 : q_is (q_z f369 mo 0) 0 := Eq.trans (hF.z hmo (by rw [kmo]; rfl)) z363
                        have z375 : q_is (q_z f369 as 2) x356 := Eq.trans (hF.z has (by rw [kas]; rfl)) z364
                        have z376 : q_is (q_z f369 sr 4) (xm + 1) := Eq.trans (hF.z hsr (by rw [ksr]; rfl)) z360
                        have z377 : q_ir (q_r f369 mo 13) sr := Eq.trans (hF.r hmo (by rw [kmo]; rfl)) z365
                        have z378 : q_ir (q_r f369 mo 15) as := Eq.trans (hF.r hmo (by rw [kmo]; rfl)) z366
                        have z379 : q_ir (q_r f369 mo 17) pa := Eq.trans (hF.r hmo (by rw [kmo]; rfl)) z367
                        have g380 : q_gr f369 sr := q_gr_fr g361 (fun i9 _ => hF.z hsr (by rw [ksr]; rfl))
                        refine q_iret cx hr hlk hB dX12_send_87 ⟨by omega, by omega⟩ ?_
                        exact ⟨(by omega), (by omega), (q_isl z373 (by omega)), (q_isu z373 (by omega)), (q_isl z376 (by omega)), (q_isu z376 (by omega)), g380, g372⟩
                      · exact absurd c343 (by omega)
                  · obtain ⟨rfl, qy326⟩ := h329
                    subst qy326
                    refine q_ifeq (tgt := 61) cx ⟨by decide, by decide⟩ dX12_send_54 (by decide) (fun c381 => ?_) (fun c381 => ?_)
                    · refine q_iconst cx dX12_send_61 ?_
                      refine q_cVi (As := [.int (q_i 1), .int (q_i 1), .int (q_i 0)]) (rest := []) cx hB (fun _ h => h) hN hmo kmo (by decide) rfl (r_goesAll2 l g hN hB.2.1 mo hmo kmo 1 (by decide) (by decide) 1 (by decide) (by decide) 0 (by decide) (by decide)) q_cX12_458 q_dX12_goesAll (by decide) rfl rfl hl.1 rfl (Nat.le_of_ble_eq_true rfl) dX12_send_62 (fun y383 H locs f382 ry383 h384 hF hB => ?_)
                      obtain ⟨qy383, z385⟩ := h384
                      have z386 : q_is (q_z f382 sr 3) xt := Eq.trans (hF.z hsr (by rw [ksr]; rfl)) hf0
                      have z387 : q_is (q_z f382 sr 4) xm := Eq.trans (hF.z hsr (by rw [ksr]; rfl)) hf1
                      have z388 : q_ir (q_r f382 mo 13) sr := Eq.trans (hF.r hmo (by rw [kmo]; rfl)) hr0
                      have z389 : q_ir (q_r f382 mo 15) as := Eq.trans (hF.r hmo (by rw [kmo]; rfl)) hr1
                      have z390 : q_ir (q_r f382 mo 17) pa := Eq.trans (hF.r hmo (by rw [kmo]; rfl)) hr2
                      have g391 : q_gr f382 sr := q_gr_fr hgr (fun i9 _ => hF.z hsr (by rw [ksr]; rfl))
                      have g392 : q_pk f382 mo pa := q_pk_tr hpk (hF.z hmo (by rw [kmo]; rfl)) (fun i9 => hF.z hpa (by rw [kpa]; rfl))
                      subst qy383
                      refine q_ifne (tgt := 70) cx ⟨by decide, by decide⟩ dX12_send_65 (by decide) (fun c393 => ?_) (fun c393 => ?_)
                      · exact absurd c393 (by omega)
                      · refine q_iconst cx dX12_send_68 ?_
                        refine q_iret cx hr hlk hB dX12_send_69 ⟨by decide, by decide⟩ ?_
                        exact ⟨(by decide), (by decide), (q_isl z386 (by omega)), (q_isu z386 (by omega)), (q_isl z387 (by omega)), (q_isu z387 (by omega)), g391, g392⟩
                    · exact absurd c381 (by omega)
            · obtain ⟨rfl, qy317, t394⟩ := h320
              subst qy317
              refine q_ifeq (tgt := 42) cx ⟨by decide, by decide⟩ dX12_send_35 (by decide) (fun c395 => ?_) (fun c395 => ?_)
              · refine q_iconst cx dX12_send_42 ?_
                refine lv_iload cx.1 cx.2.1 dX12_send_43 (lv_at hl 0 rfl) ?_
                refine q_ifeq (tgt := 61) cx ⟨by decide, by decide⟩ dX12_send_45 (by decide) (fun c396 => ?_) (fun c396 => ?_)
                · exact absurd c396 (by omega)
                · refine q_ald_n cx dX12_send_48 rfl (lv_at hl 1 rfl) ?_
                  refine q_ild_n cx dX12_send_49 rfl (lv_at hl 2 rfl) ?_
                  refine q_ild_n cx dX12_send_50 rfl (lv_at hl 3 rfl) ?_
                  refine q_cVi (As := [.int (q_i a0), .int (q_i b0)]) (rest := [.int (q_i 0), .int (q_i 1), .ref mo]) cx hB (fun _ h => h) hN hmo kmo (by decide) rfl (r_maySend l g hN hB.2.1 mo hmo kmo a0 (by omega) (by omega) b0 (by omega) (by omega) sr hsr ksr xm (by omega) (by omega) hf1 hr0 hgr) q_cX12_455 q_dX12_maySend (by decide) rfl rfl hl.1 rfl (Nat.le_of_ble_eq_true rfl) dX12_send_51 (fun y398 H locs f397 ry398 h399 hF hB => ?_)
                  rcases h399 with h400 | h401
                  · obtain ⟨rfl, qy398, t402⟩ := h400
                    subst qy398
                    refine q_ifeq (tgt := 61) cx ⟨by decide, by decide⟩ dX12_send_54 (by decide) (fun c403 => ?_) (fun c403 => ?_)
                    · exact absurd c403 (by omega)
                    · refine q_iconst cx dX12_send_57 ?_
                      refine lv_goto (tgt := 62) cx.1 cx.2.1 dX12_send_58 (by decide) ?_
                      refine q_cVi (As := [.int (q_i 1), .int (q_i 0), .int (q_i 1)]) (rest := []) cx hB (fun _ h => h) hN hmo kmo (by decide) rfl (r_goesAll1 l g hN hB.2.1 mo hmo kmo 1 (by decide) (by decide) 0 (by decide) (by decide) 1 (by decide) (by decide)) q_cX12_458 q_dX12_goesAll (by decide) rfl rfl hl.1 rfl (Nat.le_of_ble_eq_true rfl) dX12_send_62 (fun y405 H locs f404 ry405 h406 hF hB => ?_)
                      obtain ⟨qy405, z407⟩ := h406
                      have z408 : q_is (q_z f404 sr 3) xt := Eq.trans (hF.z hsr (by rw [ksr]; rfl)) hf0
                      have z409 : q_is (q_z f404 sr 4) xm := Eq.trans (hF.z hsr (by rw [ksr]; rfl)) hf1
                      have z410 : q_ir (q_r f404 mo 13) sr := Eq.trans (hF.r hmo (by rw [kmo]; rfl)) hr0
                      have z411 : q_ir (q_r f404 mo 15) as := Eq.trans (hF.r hmo (by rw [kmo]; rfl)) hr1
                      have z412 : q_ir (q_r f404 mo 17) pa := Eq.trans (hF.r hmo (by rw [kmo]; rfl)) hr2
                      have g413 : q_gr f404 sr := q_gr_fr hgr (fun i9 _ => hF.z hsr (by rw [ksr]; rfl))
                      have g414 : q_pk f404 mo pa := q_pk_tr hpk (hF.z hmo (by rw [kmo]; rfl)) (fun i9 => hF.z hpa (by rw [kpa]; rfl))
                      subst qy405
                      refine q_ifne (tgt := 70) cx ⟨by decide, by decide⟩ dX12_send_65 (by decide) (fun c415 => ?_) (fun c415 => ?_)
                      · exact absurd c415 (by omega)
                      · refine q_iconst cx dX12_send_68 ?_
                        refine q_iret cx hr hlk hB dX12_send_69 ⟨by decide, by decide⟩ ?_
                        exact ⟨(by decide), (by decide), (q_isl z408 (by omega)), (q_isu z408 (by omega)), (q_isl z409 (by omega)), (q_isu z409 (by omega)), g413, g414⟩
                  · obtain ⟨rfl, qy398⟩ := h401
                    subst qy398
                    refine q_ifeq (tgt := 61) cx ⟨by decide, by decide⟩ dX12_send_54 (by decide) (fun c416 => ?_) (fun c416 => ?_)
                    · refine q_iconst cx dX12_send_61 ?_
                      refine q_cVi (As := [.int (q_i 1), .int (q_i 0), .int (q_i 0)]) (rest := []) cx hB (fun _ h => h) hN hmo kmo (by decide) rfl (r_goesAll1 l g hN hB.2.1 mo hmo kmo 1 (by decide) (by decide) 0 (by decide) (by decide) 0 (by decide) (by decide)) q_cX12_458 q_dX12_goesAll (by decide) rfl rfl hl.1 rfl (Nat.le_of_ble_eq_true rfl) dX12_send_62 (fun y418 H locs f417 ry418 h419 hF hB => ?_)
                      obtain ⟨qy418, z420⟩ := h419
                      have z421 : q_is (q_z f417 sr 3) xt := Eq.trans (hF.z hsr (by rw [ksr]; rfl)) hf0
                      have z422 : q_is (q_z f417 sr 4) xm := Eq.trans (hF.z hsr (by rw [ksr]; rfl)) hf1
                      have z423 : q_ir (q_r f417 mo 13) sr := Eq.trans (hF.r hmo (by rw [kmo]; rfl)) hr0
                      have z424 : q_ir (q_r f417 mo 15) as := Eq.trans (hF.r hmo (by rw [kmo]; rfl)) hr1
                      have z425 : q_ir (q_r f417 mo 17) pa := Eq.trans (hF.r hmo (by rw [kmo]; rfl)) hr2
                      have g426 : q_gr f417 sr := q_gr_fr hgr (fun i9 _ => hF.z hsr (by rw [ksr]; rfl))
                      have g427 : q_pk f417 mo pa := q_pk_tr hpk (hF.z hmo (by rw [kmo]; rfl)) (fun i9 => hF.z hpa (by rw [kpa]; rfl))
                      subst qy418
                      refine q_ifne (tgt := 70) cx ⟨by decide, by decide⟩ dX12_send_65 (by decide) (fun c428 => ?_) (fun c428 => ?_)
                      · exact absurd c428 (by omega)
                      · refine q_iconst cx dX12_send_68 ?_
                        refine q_iret cx hr hlk hB dX12_send_69 ⟨by decide, by decide⟩ ?_
                        exact ⟨(by decide), (by decide), (q_isl z421 (by omega)), (q_isu z421 (by omega)), (q_isl z422 (by omega)), (q_isu z422 (by omega)), g426, g427⟩
                    · exact absurd c416 (by omega)
              · exact absurd c395 (by omega)
      · obtain ⟨rfl, qy275⟩ := h278
        subst qy275
        refine q_ifeq (tgt := 20) cx ⟨by decide, by decide⟩ dX12_send_13 (by decide) (fun c429 => ?_) (fun c429 => ?_)
        · refine q_iconst cx dX12_send_20 ?_
          refine lv_istore (lv' := [(5, .int (q_i 0)), (0, .ref mo), (1, .int (q_i a0)), (2, .int (q_i b0)), (3, .int (q_i c0)), (4, .int (q_i d0))]) cx.1 cx.2.1 dX12_send_21 hl (by decide) rfl (fun ls hl => ?_)
          refine q_ald_n cx dX12_send_23 rfl (lv_at hl 1 rfl) ?_
          refine lv_iload cx.1 cx.2.1 dX12_send_24 (lv_at hl 0 rfl) ?_
          refine q_ild_n cx dX12_send_26 rfl (lv_at hl 2 rfl) ?_
          refine q_ild_n cx dX12_send_27 rfl (lv_at hl 3 rfl) ?_
          refine q_iceq (tgt := 42) cx ⟨by omega, by omega⟩ ⟨by omega, by omega⟩ dX12_send_28 (by decide) (fun c430 => ?_) (fun c430 => ?_)
          · refine q_iconst cx dX12_send_42 ?_
            refine lv_iload cx.1 cx.2.1 dX12_send_43 (lv_at hl 0 rfl) ?_
            refine q_ifeq (tgt := 61) cx ⟨by decide, by decide⟩ dX12_send_45 (by decide) (fun c431 => ?_) (fun c431 => ?_)
            · refine q_iconst cx dX12_send_61 ?_
              refine q_cVi (As := [.int (q_i 0), .int (q_i 0), .int (q_i 0)]) (rest := []) cx hB (fun _ h => h) hN hmo kmo (by decide) rfl (r_goesAll0 l g hN hB.2.1 mo hmo kmo 0 (by decide) (by decide) 0 (by decide) (by decide) 0 (by decide) (by decide)) q_cX12_458 q_dX12_goesAll (by decide) rfl rfl hl.1 rfl (Nat.le_of_ble_eq_true rfl) dX12_send_62 (fun y433 H locs f432 ry433 h434 hF hB => ?_)
              obtain ⟨qy433, z435⟩ := h434
              have z436 : q_is (q_z f432 sr 3) xt := Eq.trans (hF.z hsr (by rw [ksr]; rfl)) hf0
              have z437 : q_is (q_z f432 sr 4) xm := Eq.trans (hF.z hsr (by rw [ksr]; rfl)) hf1
              have z438 : q_ir (q_r f432 mo 13) sr := Eq.trans (hF.r hmo (by rw [kmo]; rfl)) hr0
              have z439 : q_ir (q_r f432 mo 15) as := Eq.trans (hF.r hmo (by rw [kmo]; rfl)) hr1
              have z440 : q_ir (q_r f432 mo 17) pa := Eq.trans (hF.r hmo (by rw [kmo]; rfl)) hr2
              have g441 : q_gr f432 sr := q_gr_fr hgr (fun i9 _ => hF.z hsr (by rw [ksr]; rfl))
              have g442 : q_pk f432 mo pa := q_pk_tr hpk (hF.z hmo (by rw [kmo]; rfl)) (fun i9 => hF.z hpa (by rw [kpa]; rfl))
              subst qy433
              refine q_ifne (tgt := 70) cx ⟨by decide, by decide⟩ dX12_send_65 (by decide) (fun c443 => ?_) (fun c443 => ?_)
              · exact absurd c443 (by omega)
              · refine q_iconst cx dX12_send_68 ?_
                refine q_iret cx hr hlk hB dX12_send_69 ⟨by decide, by decide⟩ ?_
                exact ⟨(by decide), (by decide), (q_isl z436 (by omega)), (q_isu z436 (by omega)), (q_isl z437 (by omega)), (q_isu z437 (by omega)), g441, g442⟩
            · exact absurd c431 (by omega)
          · refine q_ild_n cx dX12_send_31 rfl (lv_at hl 4 rfl) ?_
            refine q_cSi (As := [.int (q_i c0)]) (rest := [.int (q_i 0), .ref mo]) cx hB (fun _ h => h) hN (r_isMany l g hN hB.2.1 c0 (by omega) (by omega)) q_cX12_452 q_dX12_isMany (by decide) rfl rfl hl.1 rfl (Nat.le_of_ble_eq_true rfl) dX12_send_32 (fun y445 H locs f444 ry445 h446 hF hB => ?_)
            rcases h446 with h447 | h448
            · obtain ⟨rfl, qy445, t449, t450⟩ := h447
              subst qy445
              refine q_ifeq (tgt := 42) cx ⟨by decide, by decide⟩ dX12_send_35 (by decide) (fun c451 => ?_) (fun c451 => ?_)
              · exact absurd c451 (by omega)
              · refine q_iconst cx dX12_send_38 ?_
                refine lv_goto (tgt := 43) cx.1 cx.2.1 dX12_send_39 (by decide) ?_
                refine lv_iload cx.1 cx.2.1 dX12_send_43 (lv_at hl 0 rfl) ?_
                refine q_ifeq (tgt := 61) cx ⟨by decide, by decide⟩ dX12_send_45 (by decide) (fun c452 => ?_) (fun c452 => ?_)
                · refine q_iconst cx dX12_send_61 ?_
                  refine q_cVi (As := [.int (q_i 0), .int (q_i 1), .int (q_i 0)]) (rest := []) cx hB (fun _ h => h) hN hmo kmo (by decide) rfl (r_goesAll0 l g hN hB.2.1 mo hmo kmo 0 (by decide) (by decide) 1 (by decide) (by decide) 0 (by decide) (by decide)) q_cX12_458 q_dX12_goesAll (by decide) rfl rfl hl.1 rfl (Nat.le_of_ble_eq_true rfl) dX12_send_62 (fun y454 H locs f453 ry454 h455 hF hB => ?_)
                  obtain ⟨qy454, z456⟩ := h455
                  have z457 : q_is (q_z f453 sr 3) xt := Eq.trans (hF.z hsr (by rw [ksr]; rfl)) hf0
                  have z458 : q_is (q_z f453 sr 4) xm := Eq.trans (hF.z hsr (by rw [ksr]; rfl)) hf1
                  have z459 : q_ir (q_r f453 mo 13) sr := Eq.trans (hF.r hmo (by rw [kmo]; rfl)) hr0
                  have z460 : q_ir (q_r f453 mo 15) as := Eq.trans (hF.r hmo (by rw [kmo]; rfl)) hr1
                  have z461 : q_ir (q_r f453 mo 17) pa := Eq.trans (hF.r hmo (by rw [kmo]; rfl)) hr2
                  have g462 : q_gr f453 sr := q_gr_fr hgr (fun i9 _ => hF.z hsr (by rw [ksr]; rfl))
                  have g463 : q_pk f453 mo pa := q_pk_tr hpk (hF.z hmo (by rw [kmo]; rfl)) (fun i9 => hF.z hpa (by rw [kpa]; rfl))
                  subst qy454
                  refine q_ifne (tgt := 70) cx ⟨by decide, by decide⟩ dX12_send_65 (by decide) (fun c464 => ?_) (fun c464 => ?_)
                  · exact absurd c464 (by omega)
                  · refine q_iconst cx dX12_send_68 ?_
                    refine q_iret cx hr hlk hB dX12_send_69 ⟨by decide, by decide⟩ ?_
                    exact ⟨(by decide), (by decide), (q_isl z457 (by omega)), (q_isu z457 (by omega)), (q_isl z458 (by omega)), (q_isu z458 (by omega)), g462, g463⟩
                · exact absurd c452 (by omega)
            · obtain ⟨rfl, qy445, t465⟩ := h448
              subst qy445
              refine q_ifeq (tgt := 42) cx ⟨by decide, by decide⟩ dX12_send_35 (by decide) (fun c466 => ?_) (fun c466 => ?_)
              · refine q_iconst cx dX12_send_42 ?_
                refine lv_iload cx.1 cx.2.1 dX12_send_43 (lv_at hl 0 rfl) ?_
                refine q_ifeq (tgt := 61) cx ⟨by decide, by decide⟩ dX12_send_45 (by decide) (fun c467 => ?_) (fun c467 => ?_)
                · refine q_iconst cx dX12_send_61 ?_
                  refine q_cVi (As := [.int (q_i 0), .int (q_i 0), .int (q_i 0)]) (rest := []) cx hB (fun _ h => h) hN hmo kmo (by decide) rfl (r_goesAll0 l g hN hB.2.1 mo hmo kmo 0 (by decide) (by decide) 0 (by decide) (by decide) 0 (by decide) (by decide)) q_cX12_458 q_dX12_goesAll (by decide) rfl rfl hl.1 rfl (Nat.le_of_ble_eq_true rfl) dX12_send_62 (fun y469 H locs f468 ry469 h470 hF hB => ?_)
                  obtain ⟨qy469, z471⟩ := h470
                  have z472 : q_is (q_z f468 sr 3) xt := Eq.trans (hF.z hsr (by rw [ksr]; rfl)) hf0
                  have z473 : q_is (q_z f468 sr 4) xm := Eq.trans (hF.z hsr (by rw [ksr]; rfl)) hf1
                  have z474 : q_ir (q_r f468 mo 13) sr := Eq.trans (hF.r hmo (by rw [kmo]; rfl)) hr0
                  have z475 : q_ir (q_r f468 mo 15) as := Eq.trans (hF.r hmo (by rw [kmo]; rfl)) hr1
                  have z476 : q_ir (q_r f468 mo 17) pa := Eq.trans (hF.r hmo (by rw [kmo]; rfl)) hr2
                  have g477 : q_gr f468 sr := q_gr_fr hgr (fun i9 _ => hF.z hsr (by rw [ksr]; rfl))
                  have g478 : q_pk f468 mo pa := q_pk_tr hpk (hF.z hmo (by rw [kmo]; rfl)) (fun i9 => hF.z hpa (by rw [kpa]; rfl))
                  subst qy469
                  refine q_ifne (tgt := 70) cx ⟨by decide, by decide⟩ dX12_send_65 (by decide) (fun c479 => ?_) (fun c479 => ?_)
                  · exact absurd c479 (by omega)
                  · refine q_iconst cx dX12_send_68 ?_
                    refine q_iret cx hr hlk hB dX12_send_69 ⟨by decide, by decide⟩ ?_
                    exact ⟨(by decide), (by decide), (q_isl z472 (by omega)), (q_isu z472 (by omega)), (q_isl z473 (by omega)), (q_isu z473 (by omega)), g477, g478⟩
                · exact absurd c467 (by omega)
              · exact absurd c466 (by omega)
        · exact absurd c429 (by omega)
  · obtain ⟨rfl, qy267⟩ := h270
    subst qy267
    refine q_ifeq (tgt := 20) cx ⟨by decide, by decide⟩ dX12_send_5 (by decide) (fun c480 => ?_) (fun c480 => ?_)
    · refine q_iconst cx dX12_send_20 ?_
      refine lv_istore (lv' := [(5, .int (q_i 0)), (0, .ref mo), (1, .int (q_i a0)), (2, .int (q_i b0)), (3, .int (q_i c0)), (4, .int (q_i d0))]) cx.1 cx.2.1 dX12_send_21 hl (by decide) rfl (fun ls hl => ?_)
      refine q_ald_n cx dX12_send_23 rfl (lv_at hl 1 rfl) ?_
      refine lv_iload cx.1 cx.2.1 dX12_send_24 (lv_at hl 0 rfl) ?_
      refine q_ild_n cx dX12_send_26 rfl (lv_at hl 2 rfl) ?_
      refine q_ild_n cx dX12_send_27 rfl (lv_at hl 3 rfl) ?_
      refine q_iceq (tgt := 42) cx ⟨by omega, by omega⟩ ⟨by omega, by omega⟩ dX12_send_28 (by decide) (fun c481 => ?_) (fun c481 => ?_)
      · refine q_iconst cx dX12_send_42 ?_
        refine lv_iload cx.1 cx.2.1 dX12_send_43 (lv_at hl 0 rfl) ?_
        refine q_ifeq (tgt := 61) cx ⟨by decide, by decide⟩ dX12_send_45 (by decide) (fun c482 => ?_) (fun c482 => ?_)
        · refine q_iconst cx dX12_send_61 ?_
          refine q_cVi (As := [.int (q_i 0), .int (q_i 0), .int (q_i 0)]) (rest := []) cx hB (fun _ h => h) hN hmo kmo (by decide) rfl (r_goesAll0 l g hN hB.2.1 mo hmo kmo 0 (by decide) (by decide) 0 (by decide) (by decide) 0 (by decide) (by decide)) q_cX12_458 q_dX12_goesAll (by decide) rfl rfl hl.1 rfl (Nat.le_of_ble_eq_true rfl) dX12_send_62 (fun y484 H locs f483 ry484 h485 hF hB => ?_)
          obtain ⟨qy484, z486⟩ := h485
          have z487 : q_is (q_z f483 sr 3) xt := Eq.trans (hF.z hsr (by rw [ksr]; rfl)) hf0
          have z488 : q_is (q_z f483 sr 4) xm := Eq.trans (hF.z hsr (by rw [ksr]; rfl)) hf1
          have z489 : q_ir (q_r f483 mo 13) sr := Eq.trans (hF.r hmo (by rw [kmo]; rfl)) hr0
          have z490 : q_ir (q_r f483 mo 15) as := Eq.trans (hF.r hmo (by rw [kmo]; rfl)) hr1
          have z491 : q_ir (q_r f483 mo 17) pa := Eq.trans (hF.r hmo (by rw [kmo]; rfl)) hr2
          have g492 : q_gr f483 sr := q_gr_fr hgr (fun i9 _ => hF.z hsr (by rw [ksr]; rfl))
          have g493 : q_pk f483 mo pa := q_pk_tr hpk (hF.z hmo (by rw [kmo]; rfl)) (fun i9 => hF.z hpa (by rw [kpa]; rfl))
          subst qy484
          refine q_ifne (tgt := 70) cx ⟨by decide, by decide⟩ dX12_send_65 (by decide) (fun c494 => ?_) (fun c494 => ?_)
          · exact absurd c494 (by omega)
          · refine q_iconst cx dX12_send_68 ?_
            refine q_iret cx hr hlk hB dX12_send_69 ⟨by decide, by decide⟩ ?_
            exact ⟨(by decide), (by decide), (q_isl z487 (by omega)), (q_isu z487 (by omega)), (q_isl z488 (by omega)), (q_isu z488 (by omega)), g492, g493⟩
        · exact absurd c482 (by omega)
      · refine q_ild_n cx dX12_send_31 rfl (lv_at hl 4 rfl) ?_
        refine q_cSi (As := [.int (q_i c0)]) (rest := [.int (q_i 0), .ref mo]) cx hB (fun _ h => h) hN (r_isMany l g hN hB.2.1 c0 (by omega) (by omega)) q_cX12_452 q_dX12_isMany (by decide) rfl rfl hl.1 rfl (Nat.le_of_ble_eq_true rfl) dX12_send_32 (fun y496 H locs f495 ry496 h497 hF hB => ?_)
        rcases h497 with h498 | h499
        · obtain ⟨rfl, qy496, t500, t501⟩ := h498
          subst qy496
          refine q_ifeq (tgt := 42) cx ⟨by decide, by decide⟩ dX12_send_35 (by decide) (fun c502 => ?_) (fun c502 => ?_)
          · exact absurd c502 (by omega)
          · refine q_iconst cx dX12_send_38 ?_
            refine lv_goto (tgt := 43) cx.1 cx.2.1 dX12_send_39 (by decide) ?_
            refine lv_iload cx.1 cx.2.1 dX12_send_43 (lv_at hl 0 rfl) ?_
            refine q_ifeq (tgt := 61) cx ⟨by decide, by decide⟩ dX12_send_45 (by decide) (fun c503 => ?_) (fun c503 => ?_)
            · refine q_iconst cx dX12_send_61 ?_
              refine q_cVi (As := [.int (q_i 0), .int (q_i 1), .int (q_i 0)]) (rest := []) cx hB (fun _ h => h) hN hmo kmo (by decide) rfl (r_goesAll0 l g hN hB.2.1 mo hmo kmo 0 (by decide) (by decide) 1 (by decide) (by decide) 0 (by decide) (by decide)) q_cX12_458 q_dX12_goesAll (by decide) rfl rfl hl.1 rfl (Nat.le_of_ble_eq_true rfl) dX12_send_62 (fun y505 H locs f504 ry505 h506 hF hB => ?_)
              obtain ⟨qy505, z507⟩ := h506
              have z508 : q_is (q_z f504 sr 3) xt := Eq.trans (hF.z hsr (by rw [ksr]; rfl)) hf0
              have z509 : q_is (q_z f504 sr 4) xm := Eq.trans (hF.z hsr (by rw [ksr]; rfl)) hf1
              have z510 : q_ir (q_r f504 mo 13) sr := Eq.trans (hF.r hmo (by rw [kmo]; rfl)) hr0
              have z511 : q_ir (q_r f504 mo 15) as := Eq.trans (hF.r hmo (by rw [kmo]; rfl)) hr1
              have z512 : q_ir (q_r f504 mo 17) pa := Eq.trans (hF.r hmo (by rw [kmo]; rfl)) hr2
              have g513 : q_gr f504 sr := q_gr_fr hgr (fun i9 _ => hF.z hsr (by rw [ksr]; rfl))
              have g514 : q_pk f504 mo pa := q_pk_tr hpk (hF.z hmo (by rw [kmo]; rfl)) (fun i9 => hF.z hpa (by rw [kpa]; rfl))
              subst qy505
              refine q_ifne (tgt := 70) cx ⟨by decide, by decide⟩ dX12_send_65 (by decide) (fun c515 => ?_) (fun c515 => ?_)
              · exact absurd c515 (by omega)
              · refine q_iconst cx dX12_send_68 ?_
                refine q_iret cx hr hlk hB dX12_send_69 ⟨by decide, by decide⟩ ?_
                exact ⟨(by decide), (by decide), (q_isl z508 (by omega)), (q_isu z508 (by omega)), (q_isl z509 (by omega)), (q_isu z509 (by omega)), g513, g514⟩
            · exact absurd c503 (by omega)
        · obtain ⟨rfl, qy496, t516⟩ := h499
          subst qy496
          refine q_ifeq (tgt := 42) cx ⟨by decide, by decide⟩ dX12_send_35 (by decide) (fun c517 => ?_) (fun c517 => ?_)
          · refine q_iconst cx dX12_send_42 ?_
            refine lv_iload cx.1 cx.2.1 dX12_send_43 (lv_at hl 0 rfl) ?_
            refine q_ifeq (tgt := 61) cx ⟨by decide, by decide⟩ dX12_send_45 (by decide) (fun c518 => ?_) (fun c518 => ?_)
            · refine q_iconst cx dX12_send_61 ?_
              refine q_cVi (As := [.int (q_i 0), .int (q_i 0), .int (q_i 0)]) (rest := []) cx hB (fun _ h => h) hN hmo kmo (by decide) rfl (r_goesAll0 l g hN hB.2.1 mo hmo kmo 0 (by decide) (by decide) 0 (by decide) (by decide) 0 (by decide) (by decide)) q_cX12_458 q_dX12_goesAll (by decide) rfl rfl hl.1 rfl (Nat.le_of_ble_eq_true rfl) dX12_send_62 (fun y520 H locs f519 ry520 h521 hF hB => ?_)
              obtain ⟨qy520, z522⟩ := h521
              have z523 : q_is (q_z f519 sr 3) xt := Eq.trans (hF.z hsr (by rw [ksr]; rfl)) hf0
              have z524 : q_is (q_z f519 sr 4) xm := Eq.trans (hF.z hsr (by rw [ksr]; rfl)) hf1
              have z525 : q_ir (q_r f519 mo 13) sr := Eq.trans (hF.r hmo (by rw [kmo]; rfl)) hr0
              have z526 : q_ir (q_r f519 mo 15) as := Eq.trans (hF.r hmo (by rw [kmo]; rfl)) hr1
              have z527 : q_ir (q_r f519 mo 17) pa := Eq.trans (hF.r hmo (by rw [kmo]; rfl)) hr2
              have g528 : q_gr f519 sr := q_gr_fr hgr (fun i9 _ => hF.z hsr (by rw [ksr]; rfl))
              have g529 : q_pk f519 mo pa := q_pk_tr hpk (hF.z hmo (by rw [kmo]; rfl)) (fun i9 => hF.z hpa (by rw [kpa]; rfl))
              subst qy520
              refine q_ifne (tgt := 70) cx ⟨by decide, by decide⟩ dX12_send_65 (by decide) (fun c530 => ?_) (fun c530 => ?_)
              · exact absurd c530 (by omega)
              · refine q_iconst cx dX12_send_68 ?_
                refine q_iret cx hr hlk hB dX12_send_69 ⟨by decide, by decide⟩ ?_
                exact ⟨(by decide), (by decide), (q_isl z523 (by omega)), (q_isu z523 (by omega)), (q_isl z524 (by omega)), (q_isu z524 (by omega)), g528, g529⟩
            · exact absurd c518 (by omega)
          · exact absurd c517 (by omega)
    · exact absurd c480 (by omega)
set_option maxHeartbeats 4000000 in
set_option maxRecDepth 100000 in
theorem r_setShift (l : Launch) (g : q_G) {K : Nat → Nat} {L : List Nat} (hN : L.Nodup) {f : Nat → va_E} (hT : q_Ty g K L f) (mo : Nat) (hmo : mo ∈ L) (kmo : K mo = 12) (a0 : Int) (la0 : (-2147483648) ≤ a0) (ua0 : a0 ≤ 2147483647) (b0 : Int) (lb0 : (-2147483648) ≤ b0) (ub0 : b0 ≤ 2147483647) (sr : Nat) (hsr : sr ∈ L) (ksr : K sr = 151) (as : Nat) (has : as ∈ L) (kas : K as = 153) (pa : Nat) (hpa : pa ∈ L) (kpa : K pa = 155) (xt : Int) (lxt : 0 ≤ xt) (uxt : xt ≤ 9999) (xm : Int) (lxm : 0 ≤ xm) (uxm : xm ≤ 60) (hf0 : q_is (q_z f sr 3) xt) (hf1 : q_is (q_z f sr 4) xm) (hr0 : q_ir (q_r f mo 13) sr) (hr1 : q_ir (q_r f mo 15) as) (hr2 : q_ir (q_r f mo 17) pa) (hgr : q_gr f sr) (hpk : q_pk f mo pa) : q_Ct l g K L yX12_setShift cX12_setShift 3 (some .int) 3 66 [.ref mo, .int (q_i a0), .int (q_i b0)] f [(12, 0, 0), (12, 21, 21), (151, 11, 83), (153, 0, 657), (155, 0, 3947)] (q_Pi (fun (z : Int) (f1 : Nat → va_E) => 0 ≤ z ∧ z ≤ 59 ∧ 0 ≤ q_z f1 sr 3 ∧ q_z f1 sr 3 ≤ 9999 ∧ 0 ≤ q_z f1 sr 4 ∧ q_z f1 sr 4 ≤ 60 ∧ q_gr f1 sr ∧ (q_pk f1 mo pa))) := by
  refine q_ofb (by decide +kernel) hN hT (Nat.le_of_ble_eq_true rfl) ?_
  intro p e s m below meth c ls cx hr hlk hB hl
  have hl : lv_has ls 3 [(0, .ref mo), (1, .int (q_i a0)), (2, .int (q_i b0))] := hl
  obtain ⟨H, hH⟩ : ∃ H : Heap, H = s.heap := ⟨_, rfl⟩
  obtain ⟨locs, hlocs⟩ : ∃ z : List Loc, z = [] := ⟨_, rfl⟩
  rw [← hH, ← hlocs] at hB
  rw [← hH, ← hlocs]
  refine q_ald_n cx dX12_setShift_0 rfl (lv_at hl 0 rfl) ?_
  refine q_ald_n cx dX12_setShift_1 rfl (lv_at hl 0 rfl) ?_
  refine q_ild_n cx dX12_setShift_2 rfl (lv_at hl 1 rfl) ?_
  refine q_cVi (As := [.int (q_i a0)]) (rest := [.ref mo]) cx hB (fun _ h => h) hN hmo kmo (by decide) rfl (r_isNode l g hN hB.2.1 mo hmo kmo a0 (by omega) (by omega) sr hsr ksr hr0) q_cX12_355 q_dX12_isNode (by decide) rfl rfl hl.1 rfl (Nat.le_of_ble_eq_true rfl) dX12_setShift_3 (fun y111 H locs f110 ry111 h112 hF hB => ?_)
  rcases h112 with h113 | h114
  · obtain ⟨rfl, qy111, t115, t116⟩ := h113
    subst qy111
    refine q_ald_n cx dX12_setShift_6 rfl (lv_at hl 0 rfl) ?_
    refine q_ild_n cx dX12_setShift_7 rfl (lv_at hl 2 rfl) ?_
    refine q_cVi (As := [.int (q_i b0)]) (rest := [.int (q_i 1), .ref mo]) cx hB (fun _ h => h) hN hmo kmo (by decide) rfl (r_isDay l g hN hB.2.1 mo hmo kmo b0 (by omega) (by omega) sr hsr ksr hr0 hgr) q_cX12_388 q_dX12_isDay (by decide) rfl rfl hl.1 rfl (Nat.le_of_ble_eq_true rfl) dX12_setShift_8 (fun y118 H locs f117 ry118 h119 hF hB => ?_)
    rcases h119 with h120 | h121
    · obtain ⟨rfl, qy118, t122, t123⟩ := h120
      subst qy118
      refine q_cVi (As := [.int (q_i 1), .int (q_i 1)]) (rest := []) cx hB (fun _ h => h) hN hmo kmo (by decide) rfl (r_goesBoth2 l g hN hB.2.1 mo hmo kmo 1 (by decide) (by decide) 1 (by decide) (by decide)) q_cX12_358 q_dX12_goesBoth (by decide) rfl rfl hl.1 rfl (Nat.le_of_ble_eq_true rfl) dX12_setShift_11 (fun y125 H locs f124 ry125 h126 hF hB => ?_)
      obtain ⟨qy125, z127⟩ := h126
      have z128 : q_is (q_z f124 sr 3) xt := Eq.trans (hF.z hsr (by rw [ksr]; rfl)) hf0
      have z129 : q_is (q_z f124 sr 4) xm := Eq.trans (hF.z hsr (by rw [ksr]; rfl)) hf1
      have z130 : q_ir (q_r f124 mo 13) sr := Eq.trans (hF.r hmo (by rw [kmo]; rfl)) hr0
      have z131 : q_ir (q_r f124 mo 15) as := Eq.trans (hF.r hmo (by rw [kmo]; rfl)) hr1
      have z132 : q_ir (q_r f124 mo 17) pa := Eq.trans (hF.r hmo (by rw [kmo]; rfl)) hr2
      have g133 : q_gr f124 sr := q_gr_fr hgr (fun i9 _ => hF.z hsr (by rw [ksr]; rfl))
      have g134 : q_pk f124 mo pa := q_pk_tr hpk (hF.z hmo (by rw [kmo]; rfl)) (fun i9 => hF.z hpa (by rw [kpa]; rfl))
      subst qy125
      refine q_ifne (tgt := 19) cx ⟨by decide, by decide⟩ dX12_setShift_14 (by decide) (fun c135 => ?_) (fun c135 => ?_)
      · refine q_ald_n cx dX12_setShift_19 rfl (lv_at hl 0 rfl) ?_
        refine q_cVv (As := []) (rest := []) cx hB (fun _ h => h) hN hmo kmo (by decide) rfl (r_laysAside l g hN hB.2.1 mo hmo kmo sr hsr ksr as has kas xt (by omega) (by omega) xm (by omega) (by omega) z128 z129 z130 z131 g133) q_cX12_247 q_dX12_laysAside (by decide) rfl rfl hl.1 rfl (Nat.le_of_ble_eq_true rfl) dX12_setShift_20 (fun H locs f136 h138 hF hB => ?_)
        obtain ⟨lz139, uz139⟩ := h138
        have z140 : q_is (q_z f136 sr 3) xt := Eq.trans (hF.z hsr (by rw [ksr]; rfl)) z128
        have z141 : q_is (q_z f136 sr 4) xm := Eq.trans (hF.z hsr (by rw [ksr]; rfl)) z129
        have z142 : q_is (q_z f136 mo 0) 0 := Eq.trans (hF.z hmo (by rw [kmo]; rfl)) z127
        have z143 : q_ir (q_r f136 mo 13) sr := Eq.trans (hF.r hmo (by rw [kmo]; rfl)) z130
        have z144 : q_ir (q_r f136 mo 15) as := Eq.trans (hF.r hmo (by rw [kmo]; rfl)) z131
        have z145 : q_ir (q_r f136 mo 17) pa := Eq.trans (hF.r hmo (by rw [kmo]; rfl)) z132
        have g146 : q_gr f136 sr := q_gr_fr g133 (fun i9 _ => hF.z hsr (by rw [ksr]; rfl))
        have g147 : q_pk f136 mo pa := q_pk_tr g134 (hF.z hmo (by rw [kmo]; rfl)) (fun i9 => hF.z hpa (by rw [kpa]; rfl))
        obtain ⟨x148, ex148⟩ : ∃ zz, q_is (q_z f136 as 2) zz := ⟨_, q_isr _⟩
        obtain ⟨lx148, ux148⟩ := q_isb ex148 ⟨lz139, uz139⟩
        refine q_ald_n cx dX12_setShift_23 rfl (lv_at hl 0 rfl) ?_
        refine q_ald_n cx dX12_setShift_24 rfl (lv_at hl 0 rfl) ?_
        refine q_ild_n cx dX12_setShift_25 rfl (lv_at hl 1 rfl) ?_
        refine q_iconst cx dX12_setShift_26 ?_
        refine q_cSi (As := [.int (q_i a0), .int (q_i 1)]) (rest := [.ref mo, .ref mo]) cx hB (fun _ h => h) hN (r_nodeCell l g hN hB.2.1 a0 (by omega) (by omega) 1 (by decide) (by decide)) q_cX12_172 q_dX12_nodeCell (by decide) rfl rfl hl.1 rfl (Nat.le_of_ble_eq_true rfl) dX12_setShift_27 (fun y150 H locs f149 ry150 h151 hF hB => ?_)
        obtain ⟨rfl, qy150⟩ := h151
        refine q_ild_n cx dX12_setShift_30 rfl (lv_at hl 2 rfl) ?_
        refine q_cVi (As := [.int (q_i y150), .int (q_i b0)]) (rest := [.ref mo]) cx hB (fun _ h => h) hN hmo kmo (by decide) rfl (r_swapsCelln1 l g hN hB.2.1 mo hmo kmo y150 (by omega) (by omega) b0 (by omega) (by omega) sr hsr ksr a0 (by omega) (by omega) z143 (by omega) g146) q_cX12_462 q_dX12_swapsCell (by decide) rfl rfl hl.1 rfl (Nat.le_of_ble_eq_true rfl) dX12_setShift_31 (fun y153 H locs f152 ry153 h154 hF hB => ?_)
        obtain ⟨ly153, uy153, g155⟩ := h154
        have z156 : q_is (q_z f152 sr 3) xt := Eq.trans (hF.z hsr (by rw [ksr]; rfl)) z140
        have z157 : q_is (q_z f152 sr 4) xm := Eq.trans (hF.z hsr (by rw [ksr]; rfl)) z141
        have z158 : q_is (q_z f152 mo 0) 0 := Eq.trans (hF.z hmo (by rw [kmo]; rfl)) z142
        have z159 : q_is (q_z f152 as 2) x148 := Eq.trans (hF.z has (by rw [kas]; rfl)) ex148
        have z160 : q_ir (q_r f152 mo 13) sr := Eq.trans (hF.r hmo (by rw [kmo]; rfl)) z143
        have z161 : q_ir (q_r f152 mo 15) as := Eq.trans (hF.r hmo (by rw [kmo]; rfl)) z144
        have z162 : q_ir (q_r f152 mo 17) pa := Eq.trans (hF.r hmo (by rw [kmo]; rfl)) z145
        have g163 : q_pk f152 mo pa := q_pk_tr g147 (hF.z hmo (by rw [kmo]; rfl)) (fun i9 => hF.z hpa (by rw [kpa]; rfl))
        refine q_cVi (As := [.int (q_i y153)]) (rest := []) cx hB (fun _ h => h) hN hmo kmo (by decide) rfl (r_kept l g hN hB.2.1 mo hmo kmo y153 (by omega) (by omega) as has kas pa hpa kpa x148 (by omega) (by omega) z159 z161 z162 g163) q_cX12_449 q_dX12_kept (by decide) rfl rfl hl.1 rfl (Nat.le_of_ble_eq_true rfl) dX12_setShift_34 (fun y165 H locs f164 ry165 h166 hF hB => ?_)
        obtain ⟨qy165, g167⟩ := h166
        have z168 : q_is (q_z f164 sr 3) xt := Eq.trans (hF.z hsr (by rw [ksr]; rfl)) z156
        have z169 : q_is (q_z f164 sr 4) xm := Eq.trans (hF.z hsr (by rw [ksr]; rfl)) z157
        have z170 : q_is (q_z f164 mo 0) 0 := Eq.trans (hF.z hmo (by rw [kmo]; rfl)) z158
        have z171 : q_is (q_z f164 as 2) x148 := Eq.trans (hF.z has (by rw [kas]; rfl)) z159
        have z172 : q_ir (q_r f164 mo 13) sr := Eq.trans (hF.r hmo (by rw [kmo]; rfl)) z160
        have z173 : q_ir (q_r f164 mo 15) as := Eq.trans (hF.r hmo (by rw [kmo]; rfl)) z161
        have z174 : q_ir (q_r f164 mo 17) pa := Eq.trans (hF.r hmo (by rw [kmo]; rfl)) z162
        have g175 : q_gr f164 sr := q_gr_fr g155 (fun i9 _ => hF.z hsr (by rw [ksr]; rfl))
        refine q_iret cx hr hlk hB dX12_setShift_37 ⟨by omega, by omega⟩ ?_
        exact ⟨(by omega), (by omega), (q_isl z168 (by omega)), (q_isu z168 (by omega)), (q_isl z169 (by omega)), (q_isu z169 (by omega)), g175, g167⟩
      · exact absurd c135 (by omega)
    · obtain ⟨rfl, qy118⟩ := h121
      subst qy118
      refine q_cVi (As := [.int (q_i 1), .int (q_i 0)]) (rest := []) cx hB (fun _ h => h) hN hmo kmo (by decide) rfl (r_goesBoth1 l g hN hB.2.1 mo hmo kmo 1 (by decide) (by decide) 0 (by decide) (by decide)) q_cX12_358 q_dX12_goesBoth (by decide) rfl rfl hl.1 rfl (Nat.le_of_ble_eq_true rfl) dX12_setShift_11 (fun y177 H locs f176 ry177 h178 hF hB => ?_)
      obtain ⟨qy177, z179⟩ := h178
      have z180 : q_is (q_z f176 sr 3) xt := Eq.trans (hF.z hsr (by rw [ksr]; rfl)) hf0
      have z181 : q_is (q_z f176 sr 4) xm := Eq.trans (hF.z hsr (by rw [ksr]; rfl)) hf1
      have z182 : q_ir (q_r f176 mo 13) sr := Eq.trans (hF.r hmo (by rw [kmo]; rfl)) hr0
      have z183 : q_ir (q_r f176 mo 15) as := Eq.trans (hF.r hmo (by rw [kmo]; rfl)) hr1
      have z184 : q_ir (q_r f176 mo 17) pa := Eq.trans (hF.r hmo (by rw [kmo]; rfl)) hr2
      have g185 : q_gr f176 sr := q_gr_fr hgr (fun i9 _ => hF.z hsr (by rw [ksr]; rfl))
      have g186 : q_pk f176 mo pa := q_pk_tr hpk (hF.z hmo (by rw [kmo]; rfl)) (fun i9 => hF.z hpa (by rw [kpa]; rfl))
      subst qy177
      refine q_ifne (tgt := 19) cx ⟨by decide, by decide⟩ dX12_setShift_14 (by decide) (fun c187 => ?_) (fun c187 => ?_)
      · exact absurd c187 (by omega)
      · refine q_iconst cx dX12_setShift_17 ?_
        refine q_iret cx hr hlk hB dX12_setShift_18 ⟨by decide, by decide⟩ ?_
        exact ⟨(by decide), (by decide), (q_isl z180 (by omega)), (q_isu z180 (by omega)), (q_isl z181 (by omega)), (q_isu z181 (by omega)), g185, g186⟩
  · obtain ⟨rfl, qy111⟩ := h114
    subst qy111
    refine q_ald_n cx dX12_setShift_6 rfl (lv_at hl 0 rfl) ?_
    refine q_ild_n cx dX12_setShift_7 rfl (lv_at hl 2 rfl) ?_
    refine q_cVi (As := [.int (q_i b0)]) (rest := [.int (q_i 0), .ref mo]) cx hB (fun _ h => h) hN hmo kmo (by decide) rfl (r_isDay l g hN hB.2.1 mo hmo kmo b0 (by omega) (by omega) sr hsr ksr hr0 hgr) q_cX12_388 q_dX12_isDay (by decide) rfl rfl hl.1 rfl (Nat.le_of_ble_eq_true rfl) dX12_setShift_8 (fun y189 H locs f188 ry189 h190 hF hB => ?_)
    rcases h190 with h191 | h192
    · obtain ⟨rfl, qy189, t193, t194⟩ := h191
      subst qy189
      refine q_cVi (As := [.int (q_i 0), .int (q_i 1)]) (rest := []) cx hB (fun _ h => h) hN hmo kmo (by decide) rfl (r_goesBoth0 l g hN hB.2.1 mo hmo kmo 0 (by decide) (by decide) 1 (by decide) (by decide)) q_cX12_358 q_dX12_goesBoth (by decide) rfl rfl hl.1 rfl (Nat.le_of_ble_eq_true rfl) dX12_setShift_11 (fun y196 H locs f195 ry196 h197 hF hB => ?_)
      obtain ⟨qy196, z198⟩ := h197
      have z199 : q_is (q_z f195 sr 3) xt := Eq.trans (hF.z hsr (by rw [ksr]; rfl)) hf0
      have z200 : q_is (q_z f195 sr 4) xm := Eq.trans (hF.z hsr (by rw [ksr]; rfl)) hf1
      have z201 : q_ir (q_r f195 mo 13) sr := Eq.trans (hF.r hmo (by rw [kmo]; rfl)) hr0
      have z202 : q_ir (q_r f195 mo 15) as := Eq.trans (hF.r hmo (by rw [kmo]; rfl)) hr1
      have z203 : q_ir (q_r f195 mo 17) pa := Eq.trans (hF.r hmo (by rw [kmo]; rfl)) hr2
      have g204 : q_gr f195 sr := q_gr_fr hgr (fun i9 _ => hF.z hsr (by rw [ksr]; rfl))
      have g205 : q_pk f195 mo pa := q_pk_tr hpk (hF.z hmo (by rw [kmo]; rfl)) (fun i9 => hF.z hpa (by rw [kpa]; rfl))
      subst qy196
      refine q_ifne (tgt := 19) cx ⟨by decide, by decide⟩ dX12_setShift_14 (by decide) (fun c206 => ?_) (fun c206 => ?_)
      · exact absurd c206 (by omega)
      · refine q_iconst cx dX12_setShift_17 ?_
        refine q_iret cx hr hlk hB dX12_setShift_18 ⟨by decide, by decide⟩ ?_
        exact ⟨(by decide), (by decide), (q_isl z199 (by omega)), (q_isu z199 (by omega)), (q_isl z200 (by omega)), (q_isu z200 (by omega)), g204, g205⟩
    · obtain ⟨rfl, qy189⟩ := h192
      subst qy189
      refine q_cVi (As := [.int (q_i 0), .int (q_i 0)]) (rest := []) cx hB (fun _ h => h) hN hmo kmo (by decide) rfl (r_goesBoth0 l g hN hB.2.1 mo hmo kmo 0 (by decide) (by decide) 0 (by decide) (by decide)) q_cX12_358 q_dX12_goesBoth (by decide) rfl rfl hl.1 rfl (Nat.le_of_ble_eq_true rfl) dX12_setShift_11 (fun y208 H locs f207 ry208 h209 hF hB => ?_)
      obtain ⟨qy208, z210⟩ := h209
      have z211 : q_is (q_z f207 sr 3) xt := Eq.trans (hF.z hsr (by rw [ksr]; rfl)) hf0
      have z212 : q_is (q_z f207 sr 4) xm := Eq.trans (hF.z hsr (by rw [ksr]; rfl)) hf1
      have z213 : q_ir (q_r f207 mo 13) sr := Eq.trans (hF.r hmo (by rw [kmo]; rfl)) hr0
      have z214 : q_ir (q_r f207 mo 15) as := Eq.trans (hF.r hmo (by rw [kmo]; rfl)) hr1
      have z215 : q_ir (q_r f207 mo 17) pa := Eq.trans (hF.r hmo (by rw [kmo]; rfl)) hr2
      have g216 : q_gr f207 sr := q_gr_fr hgr (fun i9 _ => hF.z hsr (by rw [ksr]; rfl))
      have g217 : q_pk f207 mo pa := q_pk_tr hpk (hF.z hmo (by rw [kmo]; rfl)) (fun i9 => hF.z hpa (by rw [kpa]; rfl))
      subst qy208
      refine q_ifne (tgt := 19) cx ⟨by decide, by decide⟩ dX12_setShift_14 (by decide) (fun c218 => ?_) (fun c218 => ?_)
      · exact absurd c218 (by omega)
      · refine q_iconst cx dX12_setShift_17 ?_
        refine q_iret cx hr hlk hB dX12_setShift_18 ⟨by decide, by decide⟩ ?_
        exact ⟨(by decide), (by decide), (q_isl z211 (by omega)), (q_isu z211 (by omega)), (q_isl z212 (by omega)), (q_isu z212 (by omega)), g216, g217⟩
set_option maxHeartbeats 4000000 in
set_option maxRecDepth 100000 in
theorem r_setBorn (l : Launch) (g : q_G) {K : Nat → Nat} {L : List Nat} (hN : L.Nodup) {f : Nat → va_E} (hT : q_Ty g K L f) (mo : Nat) (hmo : mo ∈ L) (kmo : K mo = 12) (a0 : Int) (la0 : (-2147483648) ≤ a0) (ua0 : a0 ≤ 2147483647) (b0 : Int) (lb0 : (-2147483648) ≤ b0) (ub0 : b0 ≤ 2147483647) (sr : Nat) (hsr : sr ∈ L) (ksr : K sr = 151) (as : Nat) (has : as ∈ L) (kas : K as = 153) (pa : Nat) (hpa : pa ∈ L) (kpa : K pa = 155) (xt : Int) (lxt : 0 ≤ xt) (uxt : xt ≤ 9999) (xm : Int) (lxm : 0 ≤ xm) (uxm : xm ≤ 60) (hf0 : q_is (q_z f sr 3) xt) (hf1 : q_is (q_z f sr 4) xm) (hr0 : q_ir (q_r f mo 13) sr) (hr1 : q_ir (q_r f mo 15) as) (hr2 : q_ir (q_r f mo 17) pa) (hgr : q_gr f sr) (hpk : q_pk f mo pa) : q_Ct l g K L yX12_setBorn cX12_setBorn 3 (some .int) 3 66 [.ref mo, .int (q_i a0), .int (q_i b0)] f [(12, 0, 0), (12, 21, 21), (151, 10, 82), (153, 0, 657), (155, 0, 3947)] (q_Pi (fun (z : Int) (f1 : Nat → va_E) => 0 ≤ z ∧ z ≤ 59 ∧ 0 ≤ q_z f1 sr 3 ∧ q_z f1 sr 3 ≤ 9999 ∧ 0 ≤ q_z f1 sr 4 ∧ q_z f1 sr 4 ≤ 60 ∧ q_gr f1 sr ∧ (q_pk f1 mo pa))) := by
  refine q_ofb (by decide +kernel) hN hT (Nat.le_of_ble_eq_true rfl) ?_
  intro p e s m below meth c ls cx hr hlk hB hl
  have hl : lv_has ls 3 [(0, .ref mo), (1, .int (q_i a0)), (2, .int (q_i b0))] := hl
  obtain ⟨H, hH⟩ : ∃ H : Heap, H = s.heap := ⟨_, rfl⟩
  obtain ⟨locs, hlocs⟩ : ∃ z : List Loc, z = [] := ⟨_, rfl⟩
  rw [← hH, ← hlocs] at hB
  rw [← hH, ← hlocs]
  refine q_ald_n cx dX12_setBorn_0 rfl (lv_at hl 0 rfl) ?_
  refine q_ald_n cx dX12_setBorn_1 rfl (lv_at hl 0 rfl) ?_
  refine q_ild_n cx dX12_setBorn_2 rfl (lv_at hl 1 rfl) ?_
  refine q_cVi (As := [.int (q_i a0)]) (rest := [.ref mo]) cx hB (fun _ h => h) hN hmo kmo (by decide) rfl (r_isNode l g hN hB.2.1 mo hmo kmo a0 (by omega) (by omega) sr hsr ksr hr0) q_cX12_355 q_dX12_isNode (by decide) rfl rfl hl.1 rfl (Nat.le_of_ble_eq_true rfl) dX12_setBorn_3 (fun y111 H locs f110 ry111 h112 hF hB => ?_)
  rcases h112 with h113 | h114
  · obtain ⟨rfl, qy111, t115, t116⟩ := h113
    subst qy111
    refine q_ald_n cx dX12_setBorn_6 rfl (lv_at hl 0 rfl) ?_
    refine q_ild_n cx dX12_setBorn_7 rfl (lv_at hl 2 rfl) ?_
    refine q_cVi (As := [.int (q_i b0)]) (rest := [.int (q_i 1), .ref mo]) cx hB (fun _ h => h) hN hmo kmo (by decide) rfl (r_isDay l g hN hB.2.1 mo hmo kmo b0 (by omega) (by omega) sr hsr ksr hr0 hgr) q_cX12_388 q_dX12_isDay (by decide) rfl rfl hl.1 rfl (Nat.le_of_ble_eq_true rfl) dX12_setBorn_8 (fun y118 H locs f117 ry118 h119 hF hB => ?_)
    rcases h119 with h120 | h121
    · obtain ⟨rfl, qy118, t122, t123⟩ := h120
      subst qy118
      refine q_cVi (As := [.int (q_i 1), .int (q_i 1)]) (rest := []) cx hB (fun _ h => h) hN hmo kmo (by decide) rfl (r_goesBoth2 l g hN hB.2.1 mo hmo kmo 1 (by decide) (by decide) 1 (by decide) (by decide)) q_cX12_358 q_dX12_goesBoth (by decide) rfl rfl hl.1 rfl (Nat.le_of_ble_eq_true rfl) dX12_setBorn_11 (fun y125 H locs f124 ry125 h126 hF hB => ?_)
      obtain ⟨qy125, z127⟩ := h126
      have z128 : q_is (q_z f124 sr 3) xt := Eq.trans (hF.z hsr (by rw [ksr]; rfl)) hf0
      have z129 : q_is (q_z f124 sr 4) xm := Eq.trans (hF.z hsr (by rw [ksr]; rfl)) hf1
      have z130 : q_ir (q_r f124 mo 13) sr := Eq.trans (hF.r hmo (by rw [kmo]; rfl)) hr0
      have z131 : q_ir (q_r f124 mo 15) as := Eq.trans (hF.r hmo (by rw [kmo]; rfl)) hr1
      have z132 : q_ir (q_r f124 mo 17) pa := Eq.trans (hF.r hmo (by rw [kmo]; rfl)) hr2
      have g133 : q_gr f124 sr := q_gr_fr hgr (fun i9 _ => hF.z hsr (by rw [ksr]; rfl))
      have g134 : q_pk f124 mo pa := q_pk_tr hpk (hF.z hmo (by rw [kmo]; rfl)) (fun i9 => hF.z hpa (by rw [kpa]; rfl))
      subst qy125
      refine q_ifne (tgt := 19) cx ⟨by decide, by decide⟩ dX12_setBorn_14 (by decide) (fun c135 => ?_) (fun c135 => ?_)
      · refine q_ald_n cx dX12_setBorn_19 rfl (lv_at hl 0 rfl) ?_
        refine q_cVv (As := []) (rest := []) cx hB (fun _ h => h) hN hmo kmo (by decide) rfl (r_laysAside l g hN hB.2.1 mo hmo kmo sr hsr ksr as has kas xt (by omega) (by omega) xm (by omega) (by omega) z128 z129 z130 z131 g133) q_cX12_247 q_dX12_laysAside (by decide) rfl rfl hl.1 rfl (Nat.le_of_ble_eq_true rfl) dX12_setBorn_20 (fun H locs f136 h138 hF hB => ?_)
        obtain ⟨lz139, uz139⟩ := h138
        have z140 : q_is (q_z f136 sr 3) xt := Eq.trans (hF.z hsr (by rw [ksr]; rfl)) z128
        have z141 : q_is (q_z f136 sr 4) xm := Eq.trans (hF.z hsr (by rw [ksr]; rfl)) z129
        have z142 : q_is (q_z f136 mo 0) 0 := Eq.trans (hF.z hmo (by rw [kmo]; rfl)) z127
        have z143 : q_ir (q_r f136 mo 13) sr := Eq.trans (hF.r hmo (by rw [kmo]; rfl)) z130
        have z144 : q_ir (q_r f136 mo 15) as := Eq.trans (hF.r hmo (by rw [kmo]; rfl)) z131
        have z145 : q_ir (q_r f136 mo 17) pa := Eq.trans (hF.r hmo (by rw [kmo]; rfl)) z132
        have g146 : q_gr f136 sr := q_gr_fr g133 (fun i9 _ => hF.z hsr (by rw [ksr]; rfl))
        have g147 : q_pk f136 mo pa := q_pk_tr g134 (hF.z hmo (by rw [kmo]; rfl)) (fun i9 => hF.z hpa (by rw [kpa]; rfl))
        obtain ⟨x148, ex148⟩ : ∃ zz, q_is (q_z f136 as 2) zz := ⟨_, q_isr _⟩
        obtain ⟨lx148, ux148⟩ := q_isb ex148 ⟨lz139, uz139⟩
        refine q_ald_n cx dX12_setBorn_23 rfl (lv_at hl 0 rfl) ?_
        refine q_ald_n cx dX12_setBorn_24 rfl (lv_at hl 0 rfl) ?_
        refine q_ild_n cx dX12_setBorn_25 rfl (lv_at hl 1 rfl) ?_
        refine q_iconst cx dX12_setBorn_26 ?_
        refine q_cSi (As := [.int (q_i a0), .int (q_i 0)]) (rest := [.ref mo, .ref mo]) cx hB (fun _ h => h) hN (r_nodeCell l g hN hB.2.1 a0 (by omega) (by omega) 0 (by decide) (by decide)) q_cX12_172 q_dX12_nodeCell (by decide) rfl rfl hl.1 rfl (Nat.le_of_ble_eq_true rfl) dX12_setBorn_27 (fun y150 H locs f149 ry150 h151 hF hB => ?_)
        obtain ⟨rfl, qy150⟩ := h151
        refine q_ild_n cx dX12_setBorn_30 rfl (lv_at hl 2 rfl) ?_
        refine q_cVi (As := [.int (q_i y150), .int (q_i b0)]) (rest := [.ref mo]) cx hB (fun _ h => h) hN hmo kmo (by decide) rfl (r_swapsCelln0 l g hN hB.2.1 mo hmo kmo y150 (by omega) (by omega) b0 (by omega) (by omega) sr hsr ksr a0 (by omega) (by omega) z143 (by omega) g146) q_cX12_462 q_dX12_swapsCell (by decide) rfl rfl hl.1 rfl (Nat.le_of_ble_eq_true rfl) dX12_setBorn_31 (fun y153 H locs f152 ry153 h154 hF hB => ?_)
        obtain ⟨ly153, uy153, g155⟩ := h154
        have z156 : q_is (q_z f152 sr 3) xt := Eq.trans (hF.z hsr (by rw [ksr]; rfl)) z140
        have z157 : q_is (q_z f152 sr 4) xm := Eq.trans (hF.z hsr (by rw [ksr]; rfl)) z141
        have z158 : q_is (q_z f152 mo 0) 0 := Eq.trans (hF.z hmo (by rw [kmo]; rfl)) z142
        have z159 : q_is (q_z f152 as 2) x148 := Eq.trans (hF.z has (by rw [kas]; rfl)) ex148
        have z160 : q_ir (q_r f152 mo 13) sr := Eq.trans (hF.r hmo (by rw [kmo]; rfl)) z143
        have z161 : q_ir (q_r f152 mo 15) as := Eq.trans (hF.r hmo (by rw [kmo]; rfl)) z144
        have z162 : q_ir (q_r f152 mo 17) pa := Eq.trans (hF.r hmo (by rw [kmo]; rfl)) z145
        have g163 : q_pk f152 mo pa := q_pk_tr g147 (hF.z hmo (by rw [kmo]; rfl)) (fun i9 => hF.z hpa (by rw [kpa]; rfl))
        refine q_cVi (As := [.int (q_i y153)]) (rest := []) cx hB (fun _ h => h) hN hmo kmo (by decide) rfl (r_kept l g hN hB.2.1 mo hmo kmo y153 (by omega) (by omega) as has kas pa hpa kpa x148 (by omega) (by omega) z159 z161 z162 g163) q_cX12_449 q_dX12_kept (by decide) rfl rfl hl.1 rfl (Nat.le_of_ble_eq_true rfl) dX12_setBorn_34 (fun y165 H locs f164 ry165 h166 hF hB => ?_)
        obtain ⟨qy165, g167⟩ := h166
        have z168 : q_is (q_z f164 sr 3) xt := Eq.trans (hF.z hsr (by rw [ksr]; rfl)) z156
        have z169 : q_is (q_z f164 sr 4) xm := Eq.trans (hF.z hsr (by rw [ksr]; rfl)) z157
        have z170 : q_is (q_z f164 mo 0) 0 := Eq.trans (hF.z hmo (by rw [kmo]; rfl)) z158
        have z171 : q_is (q_z f164 as 2) x148 := Eq.trans (hF.z has (by rw [kas]; rfl)) z159
        have z172 : q_ir (q_r f164 mo 13) sr := Eq.trans (hF.r hmo (by rw [kmo]; rfl)) z160
        have z173 : q_ir (q_r f164 mo 15) as := Eq.trans (hF.r hmo (by rw [kmo]; rfl)) z161
        have z174 : q_ir (q_r f164 mo 17) pa := Eq.trans (hF.r hmo (by rw [kmo]; rfl)) z162
        have g175 : q_gr f164 sr := q_gr_fr g155 (fun i9 _ => hF.z hsr (by rw [ksr]; rfl))
        refine q_iret cx hr hlk hB dX12_setBorn_37 ⟨by omega, by omega⟩ ?_
        exact ⟨(by omega), (by omega), (q_isl z168 (by omega)), (q_isu z168 (by omega)), (q_isl z169 (by omega)), (q_isu z169 (by omega)), g175, g167⟩
      · exact absurd c135 (by omega)
    · obtain ⟨rfl, qy118⟩ := h121
      subst qy118
      refine q_cVi (As := [.int (q_i 1), .int (q_i 0)]) (rest := []) cx hB (fun _ h => h) hN hmo kmo (by decide) rfl (r_goesBoth1 l g hN hB.2.1 mo hmo kmo 1 (by decide) (by decide) 0 (by decide) (by decide)) q_cX12_358 q_dX12_goesBoth (by decide) rfl rfl hl.1 rfl (Nat.le_of_ble_eq_true rfl) dX12_setBorn_11 (fun y177 H locs f176 ry177 h178 hF hB => ?_)
      obtain ⟨qy177, z179⟩ := h178
      have z180 : q_is (q_z f176 sr 3) xt := Eq.trans (hF.z hsr (by rw [ksr]; rfl)) hf0
      have z181 : q_is (q_z f176 sr 4) xm := Eq.trans (hF.z hsr (by rw [ksr]; rfl)) hf1
      have z182 : q_ir (q_r f176 mo 13) sr := Eq.trans (hF.r hmo (by rw [kmo]; rfl)) hr0
      have z183 : q_ir (q_r f176 mo 15) as := Eq.trans (hF.r hmo (by rw [kmo]; rfl)) hr1
      have z184 : q_ir (q_r f176 mo 17) pa := Eq.trans (hF.r hmo (by rw [kmo]; rfl)) hr2
      have g185 : q_gr f176 sr := q_gr_fr hgr (fun i9 _ => hF.z hsr (by rw [ksr]; rfl))
      have g186 : q_pk f176 mo pa := q_pk_tr hpk (hF.z hmo (by rw [kmo]; rfl)) (fun i9 => hF.z hpa (by rw [kpa]; rfl))
      subst qy177
      refine q_ifne (tgt := 19) cx ⟨by decide, by decide⟩ dX12_setBorn_14 (by decide) (fun c187 => ?_) (fun c187 => ?_)
      · exact absurd c187 (by omega)
      · refine q_iconst cx dX12_setBorn_17 ?_
        refine q_iret cx hr hlk hB dX12_setBorn_18 ⟨by decide, by decide⟩ ?_
        exact ⟨(by decide), (by decide), (q_isl z180 (by omega)), (q_isu z180 (by omega)), (q_isl z181 (by omega)), (q_isu z181 (by omega)), g185, g186⟩
  · obtain ⟨rfl, qy111⟩ := h114
    subst qy111
    refine q_ald_n cx dX12_setBorn_6 rfl (lv_at hl 0 rfl) ?_
    refine q_ild_n cx dX12_setBorn_7 rfl (lv_at hl 2 rfl) ?_
    refine q_cVi (As := [.int (q_i b0)]) (rest := [.int (q_i 0), .ref mo]) cx hB (fun _ h => h) hN hmo kmo (by decide) rfl (r_isDay l g hN hB.2.1 mo hmo kmo b0 (by omega) (by omega) sr hsr ksr hr0 hgr) q_cX12_388 q_dX12_isDay (by decide) rfl rfl hl.1 rfl (Nat.le_of_ble_eq_true rfl) dX12_setBorn_8 (fun y189 H locs f188 ry189 h190 hF hB => ?_)
    rcases h190 with h191 | h192
    · obtain ⟨rfl, qy189, t193, t194⟩ := h191
      subst qy189
      refine q_cVi (As := [.int (q_i 0), .int (q_i 1)]) (rest := []) cx hB (fun _ h => h) hN hmo kmo (by decide) rfl (r_goesBoth0 l g hN hB.2.1 mo hmo kmo 0 (by decide) (by decide) 1 (by decide) (by decide)) q_cX12_358 q_dX12_goesBoth (by decide) rfl rfl hl.1 rfl (Nat.le_of_ble_eq_true rfl) dX12_setBorn_11 (fun y196 H locs f195 ry196 h197 hF hB => ?_)
      obtain ⟨qy196, z198⟩ := h197
      have z199 : q_is (q_z f195 sr 3) xt := Eq.trans (hF.z hsr (by rw [ksr]; rfl)) hf0
      have z200 : q_is (q_z f195 sr 4) xm := Eq.trans (hF.z hsr (by rw [ksr]; rfl)) hf1
      have z201 : q_ir (q_r f195 mo 13) sr := Eq.trans (hF.r hmo (by rw [kmo]; rfl)) hr0
      have z202 : q_ir (q_r f195 mo 15) as := Eq.trans (hF.r hmo (by rw [kmo]; rfl)) hr1
      have z203 : q_ir (q_r f195 mo 17) pa := Eq.trans (hF.r hmo (by rw [kmo]; rfl)) hr2
      have g204 : q_gr f195 sr := q_gr_fr hgr (fun i9 _ => hF.z hsr (by rw [ksr]; rfl))
      have g205 : q_pk f195 mo pa := q_pk_tr hpk (hF.z hmo (by rw [kmo]; rfl)) (fun i9 => hF.z hpa (by rw [kpa]; rfl))
      subst qy196
      refine q_ifne (tgt := 19) cx ⟨by decide, by decide⟩ dX12_setBorn_14 (by decide) (fun c206 => ?_) (fun c206 => ?_)
      · exact absurd c206 (by omega)
      · refine q_iconst cx dX12_setBorn_17 ?_
        refine q_iret cx hr hlk hB dX12_setBorn_18 ⟨by decide, by decide⟩ ?_
        exact ⟨(by decide), (by decide), (q_isl z199 (by omega)), (q_isu z199 (by omega)), (q_isl z200 (by omega)), (q_isu z200 (by omega)), g204, g205⟩
    · obtain ⟨rfl, qy189⟩ := h192
      subst qy189
      refine q_cVi (As := [.int (q_i 0), .int (q_i 0)]) (rest := []) cx hB (fun _ h => h) hN hmo kmo (by decide) rfl (r_goesBoth0 l g hN hB.2.1 mo hmo kmo 0 (by decide) (by decide) 0 (by decide) (by decide)) q_cX12_358 q_dX12_goesBoth (by decide) rfl rfl hl.1 rfl (Nat.le_of_ble_eq_true rfl) dX12_setBorn_11 (fun y208 H locs f207 ry208 h209 hF hB => ?_)
      obtain ⟨qy208, z210⟩ := h209
      have z211 : q_is (q_z f207 sr 3) xt := Eq.trans (hF.z hsr (by rw [ksr]; rfl)) hf0
      have z212 : q_is (q_z f207 sr 4) xm := Eq.trans (hF.z hsr (by rw [ksr]; rfl)) hf1
      have z213 : q_ir (q_r f207 mo 13) sr := Eq.trans (hF.r hmo (by rw [kmo]; rfl)) hr0
      have z214 : q_ir (q_r f207 mo 15) as := Eq.trans (hF.r hmo (by rw [kmo]; rfl)) hr1
      have z215 : q_ir (q_r f207 mo 17) pa := Eq.trans (hF.r hmo (by rw [kmo]; rfl)) hr2
      have g216 : q_gr f207 sr := q_gr_fr hgr (fun i9 _ => hF.z hsr (by rw [ksr]; rfl))
      have g217 : q_pk f207 mo pa := q_pk_tr hpk (hF.z hmo (by rw [kmo]; rfl)) (fun i9 => hF.z hpa (by rw [kpa]; rfl))
      subst qy208
      refine q_ifne (tgt := 19) cx ⟨by decide, by decide⟩ dX12_setBorn_14 (by decide) (fun c218 => ?_) (fun c218 => ?_)
      · exact absurd c218 (by omega)
      · refine q_iconst cx dX12_setBorn_17 ?_
        refine q_iret cx hr hlk hB dX12_setBorn_18 ⟨by decide, by decide⟩ ?_
        exact ⟨(by decide), (by decide), (q_isl z211 (by omega)), (q_isu z211 (by omega)), (q_isl z212 (by omega)), (q_isu z212 (by omega)), g216, g217⟩
