set_option maxHeartbeats 4000000 in
set_option maxRecDepth 100000 in
theorem r_readsLink0 (l : Launch) (g : q_G) {K : Nat → Nat} {L : List Nat} (hN : L.Nodup) {f : Nat → va_E} (hT : q_Ty g K L f) (mo : Nat) (hmo : mo ∈ L) (kmo : K mo = 12) (sr : Nat) (hsr : sr ∈ L) (ksr : K sr = 151) (nm : Nat) (hnm : nm ∈ L) (knm : K nm = 156) (bu : Nat) (hbu : bu ∈ L) (kbu : K bu = 150) (xp : Int) (lxp : 0 ≤ xp) (uxp : xp ≤ 600) (hf0 : q_is (q_z f mo 8) 0) (hf1 : q_is (q_z f mo 4) xp) (hr0 : q_ir (q_r f mo 13) sr) (hr1 : q_ir (q_r f mo 18) nm) (hr2 : q_ir (q_r f mo 1) bu) (hgr : q_gr f sr) : q_Ct l g K L yX12_readsLink cX12_readsLink 4 none 3 64 [.ref mo] f [(12, 4, 9), (12, 12, 12), (151, 1, 1), (151, 90, 166)] (q_Pv (fun (f1 : Nat → va_E) => (q_is (q_z f1 mo 8) 0 ∧ (xp ≤ q_z f1 mo 4) ∧ (k_po (q_z f1 mo 6) (q_z f1 mo 4) xp) ∧ q_gr f1 sr) ∨ (1 ≤ q_z f1 mo 8 ∧ q_z f1 mo 8 ≤ 5))) := by
  refine q_ofb (by decide +kernel) hN hT (Nat.le_of_ble_eq_true rfl) ?_
  intro p e s m below meth c ls cx hr hlk hB hl
  have hl : lv_has ls 4 [(0, .ref mo)] := hl
  obtain ⟨H, hH⟩ : ∃ H : Heap, H = s.heap := ⟨_, rfl⟩
  obtain ⟨locs, hlocs⟩ : ∃ z : List Loc, z = [] := ⟨_, rfl⟩
  rw [← hH, ← hlocs] at hB
  rw [← hH, ← hlocs]
  refine q_ald_n cx dX12_readsLink_0 rfl (lv_at hl 0 rfl) ?_
  refine q_gX12_20 cx hB hmo kmo hr0 dX12_readsLink_1 (fun hb287 kb287 => ?_)
  refine q_iconst cx dX12_readsLink_4 ?_
  obtain ⟨x288, ex288⟩ : ∃ zz, q_is (q_z f sr (Int.toNat 1)) zz := ⟨_, q_isr _⟩
  refine q_iald (lo := 0) (hi := 16) (n := 658) cx hB hsr ksr (by decide) rfl rfl (by decide) (by decide) (by decide) rfl ex288 dX12_readsLink_5 (fun lb289 ub289 => ?_)
  refine lv_istore_n (lv' := [(1, .int (q_i x288)), (0, .ref mo)]) cx.1 cx.2.1 dX12_readsLink_6 rfl hl (by decide) rfl (fun ls hl => ?_)
  refine q_ild_n cx dX12_readsLink_7 rfl (lv_at hl 0 rfl) ?_
  refine q_bipush cx dX12_readsLink_8 rfl ?_
  refine q_icne (tgt := 18) cx ⟨by omega, by omega⟩ ⟨by decide, by decide⟩ dX12_readsLink_10 (by decide) (fun c290 => ?_) (fun c290 => ?_)
  · refine q_ald_n cx dX12_readsLink_18 rfl (lv_at hl 1 rfl) ?_
    refine q_cVi (As := []) (rest := []) cx hB (fun _ h => h) hN hmo kmo (by decide) rfl (r_isGood0 l g hN hB.2.1 mo hmo kmo hf0) q_cX12_130 q_dX12_isGood (by decide) rfl rfl hl.1 rfl (Nat.le_of_ble_eq_true rfl) dX12_readsLink_19 (fun y292 H locs f291 ry292 h293 hF hB => ?_)
    obtain ⟨rfl, qy292⟩ := h293
    subst qy292
    refine q_ifeq (tgt := 29) cx ⟨by decide, by decide⟩ dX12_readsLink_22 (by decide) (fun c294 => ?_) (fun c294 => ?_)
    · exact absurd c294 (by omega)
    · refine q_ald_n cx dX12_readsLink_25 rfl (lv_at hl 1 rfl) ?_
      obtain ⟨x295, ex295⟩ : ∃ zz, q_is (q_z f mo 3) zz := ⟨_, q_isr _⟩
      obtain ⟨lx295, ux295⟩ := q_isb ex295 (q_fib hB.2.1 hmo kmo (by decide) rfl)
      refine q_cVv (As := []) (rest := []) cx hB (fun _ h => h) hN hmo kmo (by decide) rfl (r_goOn l g hN hB.2.1 mo hmo kmo bu hbu kbu xp (by omega) (by omega) x295 (by omega) (by omega) hf1 ex295 hr2) q_cX12_140 q_dX12_goOn (by decide) rfl rfl hl.1 rfl (Nat.le_of_ble_eq_true rfl) dX12_readsLink_26 (fun H locs f296 h298 hF hB => ?_)
      obtain ⟨t299, t300⟩ := h298
      have z301 : q_is (q_z f296 mo 8) 0 := Eq.trans (hF.z hmo (by rw [kmo]; rfl)) hf0
      have z302 : q_is (q_z f296 sr 1) x288 := Eq.trans (hF.z hsr (by rw [ksr]; rfl)) ex288
      have z303 : q_is (q_z f296 mo 3) x295 := Eq.trans (hF.z hmo (by rw [kmo]; rfl)) ex295
      have z304 : q_ir (q_r f296 mo 13) sr := Eq.trans (hF.r hmo (by rw [kmo]; rfl)) hr0
      have z305 : q_ir (q_r f296 mo 18) nm := Eq.trans (hF.r hmo (by rw [kmo]; rfl)) hr1
      have z306 : q_ir (q_r f296 mo 1) bu := Eq.trans (hF.r hmo (by rw [kmo]; rfl)) hr2
      have g307 : q_gr f296 sr := q_gr_fr hgr (fun i9 _ => hF.z hsr (by rw [ksr]; rfl))
      obtain ⟨x308, ex308⟩ : ∃ zz, q_is (q_z f296 mo 4) zz := ⟨_, q_isr _⟩
      obtain ⟨lx308, ux308⟩ := q_isb ex308 (q_fib hB.2.1 hmo kmo (by decide) rfl)
      obtain ⟨x309, ex309⟩ : ∃ zz, q_is (q_z f296 mo 6) zz := ⟨_, q_isr _⟩
      obtain ⟨lx309, ux309⟩ := q_isb ex309 (q_fib hB.2.1 hmo kmo (by decide) rfl)
      replace t299 := q_isl9 ex308 t299
      replace t300 := k_po_si ex309 ex308 t300
      refine q_ald_n cx dX12_readsLink_29 rfl (lv_at hl 1 rfl) ?_
      refine q_cVi (As := []) (rest := []) cx hB (fun _ h => h) hN hmo kmo (by decide) rfl (r_told0 l g hN hB.2.1 mo hmo kmo sr hsr ksr nm hnm knm bu hbu kbu x308 (by omega) (by omega) z301 ex308 z304 z305 z306) q_cX12_213 q_dX12_told (by decide) rfl rfl hl.1 rfl (Nat.le_of_ble_eq_true rfl) dX12_readsLink_30 (fun y311 H locs f310 ry311 h312 hF hB => ?_)
      rcases h312 with h313 | h314
      · obtain ⟨ly311, uy311, z315, t316, t317⟩ := h313
        have z318 : q_is (q_z f310 sr 1) x288 := Eq.trans (hF.z hsr (by rw [ksr]; rfl)) z302
        have z319 : q_is (q_z f310 mo 3) x295 := Eq.trans (hF.z hmo (by rw [kmo]; rfl)) z303
        have z320 : q_ir (q_r f310 mo 13) sr := Eq.trans (hF.r hmo (by rw [kmo]; rfl)) z304
        have z321 : q_ir (q_r f310 mo 18) nm := Eq.trans (hF.r hmo (by rw [kmo]; rfl)) z305
        have z322 : q_ir (q_r f310 mo 1) bu := Eq.trans (hF.r hmo (by rw [kmo]; rfl)) z306
        have g323 : q_gr f310 sr := q_gr_fr g307 (fun i9 _ => hF.z hsr (by rw [ksr]; rfl))
        obtain ⟨x324, ex324⟩ : ∃ zz, q_is (q_z f310 mo 4) zz := ⟨_, q_isr _⟩
        obtain ⟨lx324, ux324⟩ := q_isb ex324 (q_fib hB.2.1 hmo kmo (by decide) rfl)
        obtain ⟨x325, ex325⟩ : ∃ zz, q_is (q_z f310 mo 6) zz := ⟨_, q_isr _⟩
        obtain ⟨lx325, ux325⟩ := q_isb ex325 (q_fib hB.2.1 hmo kmo (by decide) rfl)
        replace t316 := q_isl9 ex324 t316
        replace t317 := k_po_si ex325 ex324 t317
        refine lv_istore_n (lv' := [(2, .int (q_i y311)), (1, .int (q_i x288)), (0, .ref mo)]) cx.1 cx.2.1 dX12_readsLink_33 rfl hl (by decide) rfl (fun ls hl => ?_)
        refine q_ald_n cx dX12_readsLink_34 rfl (lv_at hl 2 rfl) ?_
        refine q_cVv (As := []) (rest := []) cx hB (fun _ h => h) hN hmo kmo (by decide) rfl (r_mustBeWord0 l g hN hB.2.1 mo hmo kmo z315) q_cX12_175 q_dX12_mustBeWord (by decide) rfl rfl hl.1 rfl (Nat.le_of_ble_eq_true rfl) dX12_readsLink_35 (fun H locs f326 h328 hF hB => ?_)
        rcases h328 with h329 | h330
        · have z331 := h329
          have z332 : q_is (q_z f326 sr 1) x288 := Eq.trans (hF.z hsr (by rw [ksr]; rfl)) z318
          have z333 : q_is (q_z f326 mo 3) x295 := Eq.trans (hF.z hmo (by rw [kmo]; rfl)) z319
          have z334 : q_is (q_z f326 mo 4) x324 := Eq.trans (hF.z hmo (by rw [kmo]; rfl)) ex324
          have z335 : q_is (q_z f326 mo 6) x325 := Eq.trans (hF.z hmo (by rw [kmo]; rfl)) ex325
          have z336 : q_ir (q_r f326 mo 13) sr := Eq.trans (hF.r hmo (by rw [kmo]; rfl)) z320
          have z337 : q_ir (q_r f326 mo 18) nm := Eq.trans (hF.r hmo (by rw [kmo]; rfl)) z321
          have z338 : q_ir (q_r f326 mo 1) bu := Eq.trans (hF.r hmo (by rw [kmo]; rfl)) z322
          have g339 : q_gr f326 sr := q_gr_fr g323 (fun i9 _ => hF.z hsr (by rw [ksr]; rfl))
          refine q_ald_n cx dX12_readsLink_38 rfl (lv_at hl 2 rfl) ?_
          refine q_cVi (As := []) (rest := []) cx hB (fun _ h => h) hN hmo kmo (by decide) rfl (r_isGood0 l g hN hB.2.1 mo hmo kmo z331) q_cX12_130 q_dX12_isGood (by decide) rfl rfl hl.1 rfl (Nat.le_of_ble_eq_true rfl) dX12_readsLink_39 (fun y341 H locs f340 ry341 h342 hF hB => ?_)
          obtain ⟨rfl, qy341⟩ := h342
          subst qy341
          refine q_ifeq (tgt := 52) cx ⟨by decide, by decide⟩ dX12_readsLink_42 (by decide) (fun c343 => ?_) (fun c343 => ?_)
          · exact absurd c343 (by omega)
          · refine q_ald_n cx dX12_readsLink_45 rfl (lv_at hl 2 rfl) ?_
            refine q_cVi (As := []) (rest := []) cx hB (fun _ h => h) hN hmo kmo (by decide) rfl (r_named l g hN hB.2.1 mo hmo kmo sr hsr ksr nm hnm knm z336 z337) q_cX12_178 q_dX12_named (by decide) rfl rfl hl.1 rfl (Nat.le_of_ble_eq_true rfl) dX12_readsLink_46 (fun y345 H locs f344 ry345 h346 hF hB => ?_)
            obtain ⟨rfl, ly345, uy345⟩ := h346
            refine lv_goto (tgt := 53) cx.1 cx.2.1 dX12_readsLink_49 (by decide) ?_
            refine lv_istore_n (lv' := [(3, .int (q_i y345)), (2, .int (q_i y311)), (1, .int (q_i x288)), (0, .ref mo)]) cx.1 cx.2.1 dX12_readsLink_53 rfl hl (by decide) rfl (fun ls hl => ?_)
            refine q_ald_n cx dX12_readsLink_54 rfl (lv_at hl 3 rfl) ?_
            refine q_cVi (As := []) (rest := []) cx hB (fun _ h => h) hN hmo kmo (by decide) rfl (r_isGood0 l g hN hB.2.1 mo hmo kmo z331) q_cX12_130 q_dX12_isGood (by decide) rfl rfl hl.1 rfl (Nat.le_of_ble_eq_true rfl) dX12_readsLink_55 (fun y348 H locs f347 ry348 h349 hF hB => ?_)
            obtain ⟨rfl, qy348⟩ := h349
            subst qy348
            refine q_ifeq (tgt := 86) cx ⟨by decide, by decide⟩ dX12_readsLink_58 (by decide) (fun c350 => ?_) (fun c350 => ?_)
            · exact absurd c350 (by omega)
            · refine q_ild_n cx dX12_readsLink_61 rfl (lv_at hl 0 rfl) ?_
              refine q_iconst cx dX12_readsLink_62 ?_
              refine q_iceq (tgt := 86) cx ⟨by omega, by omega⟩ ⟨by decide, by decide⟩ dX12_readsLink_63 (by decide) (fun c351 => ?_) (fun c351 => ?_)
              · refine q_ald_n cx dX12_readsLink_86 rfl (lv_at hl 3 rfl) ?_
                refine q_cVi (As := []) (rest := []) cx hB (fun _ h => h) hN hmo kmo (by decide) rfl (r_isGood0 l g hN hB.2.1 mo hmo kmo z331) q_cX12_130 q_dX12_isGood (by decide) rfl rfl hl.1 rfl (Nat.le_of_ble_eq_true rfl) dX12_readsLink_87 (fun y353 H locs f352 ry353 h354 hF hB => ?_)
                obtain ⟨rfl, qy353⟩ := h354
                subst qy353
                refine q_ifeq (tgt := 103) cx ⟨by decide, by decide⟩ dX12_readsLink_90 (by decide) (fun c355 => ?_) (fun c355 => ?_)
                · exact absurd c355 (by omega)
                · refine q_ild_n cx dX12_readsLink_93 rfl (lv_at hl 0 rfl) ?_
                  refine q_iconst cx dX12_readsLink_94 ?_
                  refine q_icne (tgt := 103) cx ⟨by omega, by omega⟩ ⟨by decide, by decide⟩ dX12_readsLink_95 (by decide) (fun c356 => ?_) (fun c356 => ?_)
                  · exact absurd c356 (by omega)
                  · refine q_ald_n cx dX12_readsLink_98 rfl (lv_at hl 3 rfl) ?_
                    refine q_iconst cx dX12_readsLink_99 ?_
                    refine q_cVv (As := [.int (q_i 4)]) (rest := []) cx hB (fun _ h => h) hN hmo kmo (by decide) rfl (r_wrong0 l g hN hB.2.1 mo hmo kmo 4 (by decide) (by decide) z331) q_cX12_137 q_dX12_wrong (by decide) rfl rfl hl.1 rfl (Nat.le_of_ble_eq_true rfl) dX12_readsLink_100 (fun H locs f357 h359 hF hB => ?_)
                    obtain ⟨lz360, uz360⟩ := h359
                    have z361 : q_is (q_z f357 sr 1) x288 := Eq.trans (hF.z hsr (by rw [ksr]; rfl)) z332
                    have z362 : q_is (q_z f357 mo 3) x295 := Eq.trans (hF.z hmo (by rw [kmo]; rfl)) z333
                    have z363 : q_is (q_z f357 mo 4) x324 := Eq.trans (hF.z hmo (by rw [kmo]; rfl)) z334
                    have z364 : q_is (q_z f357 mo 6) x325 := Eq.trans (hF.z hmo (by rw [kmo]; rfl)) z335
                    have z365 : q_ir (q_r f357 mo 13) sr := Eq.trans (hF.r hmo (by rw [kmo]; rfl)) z336
                    have z366 : q_ir (q_r f357 mo 18) nm := Eq.trans (hF.r hmo (by rw [kmo]; rfl)) z337
                    have z367 : q_ir (q_r f357 mo 1) bu := Eq.trans (hF.r hmo (by rw [kmo]; rfl)) z338
                    have g368 : q_gr f357 sr := q_gr_fr g339 (fun i9 _ => hF.z hsr (by rw [ksr]; rfl))
                    obtain ⟨x369, ex369⟩ : ∃ zz, q_is (q_z f357 mo 8) zz := ⟨_, q_isr _⟩
                    obtain ⟨lx369, ux369⟩ := q_isb ex369 ⟨lz360, uz360⟩
                    refine q_ald_n cx dX12_readsLink_103 rfl (lv_at hl 3 rfl) ?_
                    refine q_cVi (As := []) (rest := []) cx hB (fun _ h => h) hN hmo kmo (by decide) rfl (r_isGood1 l g hN hB.2.1 mo hmo kmo x369 (by omega) (by omega) ex369) q_cX12_130 q_dX12_isGood (by decide) rfl rfl hl.1 rfl (Nat.le_of_ble_eq_true rfl) dX12_readsLink_104 (fun y371 H locs f370 ry371 h372 hF hB => ?_)
                    obtain ⟨rfl, qy371⟩ := h372
                    subst qy371
                    refine q_ifne (tgt := 111) cx ⟨by decide, by decide⟩ dX12_readsLink_107 (by decide) (fun c373 => ?_) (fun c373 => ?_)
                    · exact absurd c373 (by omega)
                    · refine q_vret cx hr hlk hB dX12_readsLink_110 ?_
                      exact (Or.inr ⟨(q_isl ex369 (by omega)), (q_isu ex369 (by omega))⟩)
              · refine q_ild_n cx dX12_readsLink_66 rfl (lv_at hl 0 rfl) ?_
                refine q_ild_n cx dX12_readsLink_67 rfl (lv_at hl 1 rfl) ?_
                refine q_iceq (tgt := 81) cx ⟨by omega, by omega⟩ ⟨by omega, by omega⟩ dX12_readsLink_68 (by decide) (fun c374 => ?_) (fun c374 => ?_)
                · refine q_ald_n cx dX12_readsLink_81 rfl (lv_at hl 3 rfl) ?_
                  refine q_iconst cx dX12_readsLink_82 ?_
                  refine q_cVv (As := [.int (q_i 3)]) (rest := []) cx hB (fun _ h => h) hN hmo kmo (by decide) rfl (r_wrong0 l g hN hB.2.1 mo hmo kmo 3 (by decide) (by decide) z331) q_cX12_137 q_dX12_wrong (by decide) rfl rfl hl.1 rfl (Nat.le_of_ble_eq_true rfl) dX12_readsLink_83 (fun H locs f375 h377 hF hB => ?_)
                  obtain ⟨lz378, uz378⟩ := h377
                  have z379 : q_is (q_z f375 sr 1) x288 := Eq.trans (hF.z hsr (by rw [ksr]; rfl)) z332
                  have z380 : q_is (q_z f375 mo 3) x295 := Eq.trans (hF.z hmo (by rw [kmo]; rfl)) z333
                  have z381 : q_is (q_z f375 mo 4) x324 := Eq.trans (hF.z hmo (by rw [kmo]; rfl)) z334
                  have z382 : q_is (q_z f375 mo 6) x325 := Eq.trans (hF.z hmo (by rw [kmo]; rfl)) z335
                  have z383 : q_ir (q_r f375 mo 13) sr := Eq.trans (hF.r hmo (by rw [kmo]; rfl)) z336
                  have z384 : q_ir (q_r f375 mo 18) nm := Eq.trans (hF.r hmo (by rw [kmo]; rfl)) z337
                  have z385 : q_ir (q_r f375 mo 1) bu := Eq.trans (hF.r hmo (by rw [kmo]; rfl)) z338
                  have g386 : q_gr f375 sr := q_gr_fr g339 (fun i9 _ => hF.z hsr (by rw [ksr]; rfl))
                  obtain ⟨x387, ex387⟩ : ∃ zz, q_is (q_z f375 mo 8) zz := ⟨_, q_isr _⟩
                  obtain ⟨lx387, ux387⟩ := q_isb ex387 ⟨lz378, uz378⟩
                  refine q_ald_n cx dX12_readsLink_86 rfl (lv_at hl 3 rfl) ?_
                  refine q_cVi (As := []) (rest := []) cx hB (fun _ h => h) hN hmo kmo (by decide) rfl (r_isGood1 l g hN hB.2.1 mo hmo kmo x387 (by omega) (by omega) ex387) q_cX12_130 q_dX12_isGood (by decide) rfl rfl hl.1 rfl (Nat.le_of_ble_eq_true rfl) dX12_readsLink_87 (fun y389 H locs f388 ry389 h390 hF hB => ?_)
                  obtain ⟨rfl, qy389⟩ := h390
                  subst qy389
                  refine q_ifeq (tgt := 103) cx ⟨by decide, by decide⟩ dX12_readsLink_90 (by decide) (fun c391 => ?_) (fun c391 => ?_)
                  · refine q_ald_n cx dX12_readsLink_103 rfl (lv_at hl 3 rfl) ?_
                    refine q_cVi (As := []) (rest := []) cx hB (fun _ h => h) hN hmo kmo (by decide) rfl (r_isGood1 l g hN hB.2.1 mo hmo kmo x387 (by omega) (by omega) ex387) q_cX12_130 q_dX12_isGood (by decide) rfl rfl hl.1 rfl (Nat.le_of_ble_eq_true rfl) dX12_readsLink_104 (fun y393 H locs f392 ry393 h394 hF hB => ?_)
                    obtain ⟨rfl, qy393⟩ := h394
                    subst qy393
                    refine q_ifne (tgt := 111) cx ⟨by decide, by decide⟩ dX12_readsLink_107 (by decide) (fun c395 => ?_) (fun c395 => ?_)
                    · exact absurd c395 (by omega)
                    · refine q_vret cx hr hlk hB dX12_readsLink_110 ?_
                      exact (Or.inr ⟨(q_isl ex387 (by omega)), (q_isu ex387 (by omega))⟩)
                  · exact absurd c391 (by omega)
                · refine q_ald_n cx dX12_readsLink_71 rfl (lv_at hl 3 rfl) ?_
                  refine q_ild_n cx dX12_readsLink_72 rfl (lv_at hl 1 rfl) ?_
                  refine q_ild_n cx dX12_readsLink_73 rfl (lv_at hl 0 rfl) ?_
                  refine q_cVi (As := [.int (q_i y311), .int (q_i y345)]) (rest := []) cx hB (fun _ h => h) hN hmo kmo (by decide) rfl (r_linkOf l g hN hB.2.1 mo hmo kmo y311 (by omega) (by omega) y345 (by omega) (by omega) sr hsr ksr z336) q_cX12_216 q_dX12_linkOf (by decide) rfl rfl hl.1 rfl (Nat.le_of_ble_eq_true rfl) dX12_readsLink_74 (fun y397 H locs f396 ry397 h398 hF hB => ?_)
                  obtain ⟨rfl, ly397, uy397⟩ := h398
                  refine q_iconst cx dX12_readsLink_77 ?_
                  refine q_iceq (tgt := 86) cx ⟨by omega, by omega⟩ ⟨by decide, by decide⟩ dX12_readsLink_78 (by decide) (fun c399 => ?_) (fun c399 => ?_)
                  · refine q_ald_n cx dX12_readsLink_86 rfl (lv_at hl 3 rfl) ?_
                    refine q_cVi (As := []) (rest := []) cx hB (fun _ h => h) hN hmo kmo (by decide) rfl (r_isGood0 l g hN hB.2.1 mo hmo kmo z331) q_cX12_130 q_dX12_isGood (by decide) rfl rfl hl.1 rfl (Nat.le_of_ble_eq_true rfl) dX12_readsLink_87 (fun y401 H locs f400 ry401 h402 hF hB => ?_)
                    obtain ⟨rfl, qy401⟩ := h402
                    subst qy401
                    refine q_ifeq (tgt := 103) cx ⟨by decide, by decide⟩ dX12_readsLink_90 (by decide) (fun c403 => ?_) (fun c403 => ?_)
                    · exact absurd c403 (by omega)
                    · refine q_ild_n cx dX12_readsLink_93 rfl (lv_at hl 0 rfl) ?_
                      refine q_iconst cx dX12_readsLink_94 ?_
                      refine q_icne (tgt := 103) cx ⟨by omega, by omega⟩ ⟨by decide, by decide⟩ dX12_readsLink_95 (by decide) (fun c404 => ?_) (fun c404 => ?_)
                      · refine q_ald_n cx dX12_readsLink_103 rfl (lv_at hl 3 rfl) ?_
                        refine q_cVi (As := []) (rest := []) cx hB (fun _ h => h) hN hmo kmo (by decide) rfl (r_isGood0 l g hN hB.2.1 mo hmo kmo z331) q_cX12_130 q_dX12_isGood (by decide) rfl rfl hl.1 rfl (Nat.le_of_ble_eq_true rfl) dX12_readsLink_104 (fun y406 H locs f405 ry406 h407 hF hB => ?_)
                        obtain ⟨rfl, qy406⟩ := h407
                        subst qy406
                        refine q_ifne (tgt := 111) cx ⟨by decide, by decide⟩ dX12_readsLink_107 (by decide) (fun c408 => ?_) (fun c408 => ?_)
                        · refine q_ald_n cx dX12_readsLink_111 rfl (lv_at hl 3 rfl) ?_
                          refine q_cVv (As := []) (rest := []) cx hB (fun _ h => h) hN hmo kmo (by decide) rfl (r_goOn l g hN hB.2.1 mo hmo kmo bu hbu kbu x324 (by omega) (by omega) x295 (by omega) (by omega) z334 z333 z338) q_cX12_140 q_dX12_goOn (by decide) rfl rfl hl.1 rfl (Nat.le_of_ble_eq_true rfl) dX12_readsLink_112 (fun H locs f409 h411 hF hB => ?_)
                          obtain ⟨t412, t413⟩ := h411
                          have z414 : q_is (q_z f409 sr 1) x288 := Eq.trans (hF.z hsr (by rw [ksr]; rfl)) z332
                          have z415 : q_is (q_z f409 mo 3) x295 := Eq.trans (hF.z hmo (by rw [kmo]; rfl)) z333
                          have z416 : q_is (q_z f409 mo 8) 0 := Eq.trans (hF.z hmo (by rw [kmo]; rfl)) z331
                          have z417 : q_ir (q_r f409 mo 13) sr := Eq.trans (hF.r hmo (by rw [kmo]; rfl)) z336
                          have z418 : q_ir (q_r f409 mo 18) nm := Eq.trans (hF.r hmo (by rw [kmo]; rfl)) z337
                          have z419 : q_ir (q_r f409 mo 1) bu := Eq.trans (hF.r hmo (by rw [kmo]; rfl)) z338
                          have g420 : q_gr f409 sr := q_gr_fr g339 (fun i9 _ => hF.z hsr (by rw [ksr]; rfl))
                          obtain ⟨x421, ex421⟩ : ∃ zz, q_is (q_z f409 mo 4) zz := ⟨_, q_isr _⟩
                          obtain ⟨lx421, ux421⟩ := q_isb ex421 (q_fib hB.2.1 hmo kmo (by decide) rfl)
                          obtain ⟨x422, ex422⟩ : ∃ zz, q_is (q_z f409 mo 6) zz := ⟨_, q_isr _⟩
                          obtain ⟨lx422, ux422⟩ := q_isb ex422 (q_fib hB.2.1 hmo kmo (by decide) rfl)
                          replace t412 := q_isl9 ex421 t412
                          replace t413 := k_po_si ex422 ex421 t413
                          refine q_ald_n cx dX12_readsLink_115 rfl (lv_at hl 3 rfl) ?_
                          refine q_ild_n cx dX12_readsLink_116 rfl (lv_at hl 2 rfl) ?_
                          refine q_iconst cx dX12_readsLink_117 ?_
                          refine q_ild_n cx dX12_readsLink_118 rfl (lv_at hl 1 rfl) ?_
                          refine q_cVv (As := [.int (q_i x288), .int (q_i 0), .int (q_i y311)]) (rest := []) cx hB (fun _ h => h) hN hmo kmo (by decide) rfl (r_setsLink0 l g hN hB.2.1 mo hmo kmo x288 (by omega) (by omega) 0 (by decide) (by decide) y311 (by omega) (by omega) sr hsr ksr z417 g420) q_cX12_219 q_dX12_setsLink (by decide) rfl rfl hl.1 rfl (Nat.le_of_ble_eq_true rfl) dX12_readsLink_119 (fun H locs f423 h425 hF hB => ?_)
                          have g426 := h425
                          have z427 : q_is (q_z f423 sr 1) x288 := Eq.trans (hF.z hsr (by rw [ksr]; rfl)) z414
                          have z428 : q_is (q_z f423 mo 3) x295 := Eq.trans (hF.z hmo (by rw [kmo]; rfl)) z415
                          have z429 : q_is (q_z f423 mo 8) 0 := Eq.trans (hF.z hmo (by rw [kmo]; rfl)) z416
                          have z430 : q_is (q_z f423 mo 4) x421 := Eq.trans (hF.z hmo (by rw [kmo]; rfl)) ex421
                          have z431 : q_is (q_z f423 mo 6) x422 := Eq.trans (hF.z hmo (by rw [kmo]; rfl)) ex422
                          have z432 : q_ir (q_r f423 mo 13) sr := Eq.trans (hF.r hmo (by rw [kmo]; rfl)) z417
                          have z433 : q_ir (q_r f423 mo 18) nm := Eq.trans (hF.r hmo (by rw [kmo]; rfl)) z418
                          have z434 : q_ir (q_r f423 mo 1) bu := Eq.trans (hF.r hmo (by rw [kmo]; rfl)) z419
                          refine q_ald_n cx dX12_readsLink_122 rfl (lv_at hl 3 rfl) ?_
                          refine q_ild_n cx dX12_readsLink_123 rfl (lv_at hl 2 rfl) ?_
                          refine q_iconst cx dX12_readsLink_124 ?_
                          refine q_ild_n cx dX12_readsLink_125 rfl (lv_at hl 0 rfl) ?_
                          refine q_cVv (As := [.int (q_i x288), .int (q_i 1), .int (q_i y345)]) (rest := []) cx hB (fun _ h => h) hN hmo kmo (by decide) rfl (r_setsLink1 l g hN hB.2.1 mo hmo kmo x288 (by omega) (by omega) 1 (by decide) (by decide) y345 (by omega) (by omega) sr hsr ksr z432 g426) q_cX12_219 q_dX12_setsLink (by decide) rfl rfl hl.1 rfl (Nat.le_of_ble_eq_true rfl) dX12_readsLink_126 (fun H locs f435 h437 hF hB => ?_)
                          have g438 := h437
                          have z439 : q_is (q_z f435 sr 1) x288 := Eq.trans (hF.z hsr (by rw [ksr]; rfl)) z427
                          have z440 : q_is (q_z f435 mo 3) x295 := Eq.trans (hF.z hmo (by rw [kmo]; rfl)) z428
                          have z441 : q_is (q_z f435 mo 8) 0 := Eq.trans (hF.z hmo (by rw [kmo]; rfl)) z429
                          have z442 : q_is (q_z f435 mo 4) x421 := Eq.trans (hF.z hmo (by rw [kmo]; rfl)) z430
                          have z443 : q_is (q_z f435 mo 6) x422 := Eq.trans (hF.z hmo (by rw [kmo]; rfl)) z431
                          have z444 : q_ir (q_r f435 mo 13) sr := Eq.trans (hF.r hmo (by rw [kmo]; rfl)) z432
                          have z445 : q_ir (q_r f435 mo 18) nm := Eq.trans (hF.r hmo (by rw [kmo]; rfl)) z433
                          have z446 : q_ir (q_r f435 mo 1) bu := Eq.trans (hF.r hmo (by rw [kmo]; rfl)) z434
                          refine q_ald_n cx dX12_readsLink_129 rfl (lv_at hl 3 rfl) ?_
                          refine q_gX12_20 cx hB hmo kmo z444 dX12_readsLink_130 (fun hb447 kb447 => ?_)
                          refine q_iconst cx dX12_readsLink_133 ?_
                          refine lv_dup2_11 cx.1 cx.2.1 dX12_readsLink_134 rfl rfl ?_
                          refine q_iald (lo := 0) (hi := 16) (n := 658) cx hB hsr ksr (by decide) rfl rfl (by decide) (by decide) (by decide) rfl z439 dX12_readsLink_135 (fun lb449 ub449 => ?_)
                          refine q_iconst cx dX12_readsLink_136 ?_
                          refine q_iadd cx dX12_readsLink_137 ?_
                          refine q_iast (lo := 0) (hi := 16) (n := 658) cx hB hsr ksr (by decide) rfl rfl (by decide) (by decide) (by decide) rfl ⟨by omega, by omega⟩ (by omega) (by omega) rfl dX12_readsLink_138 (fun H locs f450 ef450 z451 hB => ?_)
                          have z452 : q_is (q_z f450 mo 3) x295 := by rw [ef450, q_setz (Or.inr (by decide))]; exact z440
                          have z453 : q_is (q_z f450 mo 8) 0 := by rw [ef450, q_setz (Or.inr (by decide))]; exact z441
                          have z454 : q_is (q_z f450 mo 4) x421 := by rw [ef450, q_setz (Or.inr (by decide))]; exact z442
                          have z455 : q_is (q_z f450 mo 6) x422 := by rw [ef450, q_setz (Or.inr (by decide))]; exact z443
                          have z456 : q_ir (q_r f450 mo 13) sr := by rw [ef450, q_setr (Or.inr (by decide))]; exact z444
                          have z457 : q_ir (q_r f450 mo 18) nm := by rw [ef450, q_setr (Or.inr (by decide))]; exact z445
                          have z458 : q_ir (q_r f450 mo 1) bu := by rw [ef450, q_setr (Or.inl (fun q => by rw [q, ksr] at kmo; exact absurd kmo (by decide)))]; exact z446
                          have g459 : q_gr f450 sr := q_gr_put g438 ef450 z451 rfl (by omega) (by omega)
                          refine q_vret cx hr hlk hB dX12_readsLink_139 ?_
                          exact (Or.inl ⟨z453, (q_isl z454 (by omega)), (k_po_is z455 z454 (k_po_mono t413 (by omega))), g459⟩)
                        · exact absurd c408 (by omega)
                      · exact absurd c404 (by omega)
                  · refine q_ald_n cx dX12_readsLink_81 rfl (lv_at hl 3 rfl) ?_
                    refine q_iconst cx dX12_readsLink_82 ?_
                    refine q_cVv (As := [.int (q_i 3)]) (rest := []) cx hB (fun _ h => h) hN hmo kmo (by decide) rfl (r_wrong0 l g hN hB.2.1 mo hmo kmo 3 (by decide) (by decide) z331) q_cX12_137 q_dX12_wrong (by decide) rfl rfl hl.1 rfl (Nat.le_of_ble_eq_true rfl) dX12_readsLink_83 (fun H locs f460 h462 hF hB => ?_)
                    obtain ⟨lz463, uz463⟩ := h462
                    have z464 : q_is (q_z f460 sr 1) x288 := Eq.trans (hF.z hsr (by rw [ksr]; rfl)) z332
                    have z465 : q_is (q_z f460 mo 3) x295 := Eq.trans (hF.z hmo (by rw [kmo]; rfl)) z333
                    have z466 : q_is (q_z f460 mo 4) x324 := Eq.trans (hF.z hmo (by rw [kmo]; rfl)) z334
                    have z467 : q_is (q_z f460 mo 6) x325 := Eq.trans (hF.z hmo (by rw [kmo]; rfl)) z335
                    have z468 : q_ir (q_r f460 mo 13) sr := Eq.trans (hF.r hmo (by rw [kmo]; rfl)) z336
                    have z469 : q_ir (q_r f460 mo 18) nm := Eq.trans (hF.r hmo (by rw [kmo]; rfl)) z337
                    have z470 : q_ir (q_r f460 mo 1) bu := Eq.trans (hF.r hmo (by rw [kmo]; rfl)) z338
                    have g471 : q_gr f460 sr := q_gr_fr g339 (fun i9 _ => hF.z hsr (by rw [ksr]; rfl))
                    obtain ⟨x472, ex472⟩ : ∃ zz, q_is (q_z f460 mo 8) zz := ⟨_, q_isr _⟩
                    obtain ⟨lx472, ux472⟩ := q_isb ex472 ⟨lz463, uz463⟩
                    refine q_ald_n cx dX12_readsLink_86 rfl (lv_at hl 3 rfl) ?_
                    refine q_cVi (As := []) (rest := []) cx hB (fun _ h => h) hN hmo kmo (by decide) rfl (r_isGood1 l g hN hB.2.1 mo hmo kmo x472 (by omega) (by omega) ex472) q_cX12_130 q_dX12_isGood (by decide) rfl rfl hl.1 rfl (Nat.le_of_ble_eq_true rfl) dX12_readsLink_87 (fun y474 H locs f473 ry474 h475 hF hB => ?_)
                    obtain ⟨rfl, qy474⟩ := h475
                    subst qy474
                    refine q_ifeq (tgt := 103) cx ⟨by decide, by decide⟩ dX12_readsLink_90 (by decide) (fun c476 => ?_) (fun c476 => ?_)
                    · refine q_ald_n cx dX12_readsLink_103 rfl (lv_at hl 3 rfl) ?_
                      refine q_cVi (As := []) (rest := []) cx hB (fun _ h => h) hN hmo kmo (by decide) rfl (r_isGood1 l g hN hB.2.1 mo hmo kmo x472 (by omega) (by omega) ex472) q_cX12_130 q_dX12_isGood (by decide) rfl rfl hl.1 rfl (Nat.le_of_ble_eq_true rfl) dX12_readsLink_104 (fun y478 H locs f477 ry478 h479 hF hB => ?_)
                      obtain ⟨rfl, qy478⟩ := h479
                      subst qy478
                      refine q_ifne (tgt := 111) cx ⟨by decide, by decide⟩ dX12_readsLink_107 (by decide) (fun c480 => ?_) (fun c480 => ?_)
                      · exact absurd c480 (by omega)
                      · refine q_vret cx hr hlk hB dX12_readsLink_110 ?_
                        exact (Or.inr ⟨(q_isl ex472 (by omega)), (q_isu ex472 (by omega))⟩)
                    · exact absurd c476 (by omega)
        · obtain ⟨lz481, uz481⟩ := h330
          have z482 : q_is (q_z f326 sr 1) x288 := Eq.trans (hF.z hsr (by rw [ksr]; rfl)) z318
          have z483 : q_is (q_z f326 mo 3) x295 := Eq.trans (hF.z hmo (by rw [kmo]; rfl)) z319
          have z484 : q_is (q_z f326 mo 4) x324 := Eq.trans (hF.z hmo (by rw [kmo]; rfl)) ex324
          have z485 : q_is (q_z f326 mo 6) x325 := Eq.trans (hF.z hmo (by rw [kmo]; rfl)) ex325
          have z486 : q_ir (q_r f326 mo 13) sr := Eq.trans (hF.r hmo (by rw [kmo]; rfl)) z320
          have z487 : q_ir (q_r f326 mo 18) nm := Eq.trans (hF.r hmo (by rw [kmo]; rfl)) z321
          have z488 : q_ir (q_r f326 mo 1) bu := Eq.trans (hF.r hmo (by rw [kmo]; rfl)) z322
          have g489 : q_gr f326 sr := q_gr_fr g323 (fun i9 _ => hF.z hsr (by rw [ksr]; rfl))
          obtain ⟨x490, ex490⟩ : ∃ zz, q_is (q_z f326 mo 8) zz := ⟨_, q_isr _⟩
          obtain ⟨lx490, ux490⟩ := q_isb ex490 ⟨lz481, uz481⟩
          refine q_ald_n cx dX12_readsLink_38 rfl (lv_at hl 2 rfl) ?_
          refine q_cVi (As := []) (rest := []) cx hB (fun _ h => h) hN hmo kmo (by decide) rfl (r_isGood1 l g hN hB.2.1 mo hmo kmo x490 (by omega) (by omega) ex490) q_cX12_130 q_dX12_isGood (by decide) rfl rfl hl.1 rfl (Nat.le_of_ble_eq_true rfl) dX12_readsLink_39 (fun y492 H locs f491 ry492 h493 hF hB => ?_)
          obtain ⟨rfl, qy492⟩ := h493
          subst qy492
          refine q_ifeq (tgt := 52) cx ⟨by decide, by decide⟩ dX12_readsLink_42 (by decide) (fun c494 => ?_) (fun c494 => ?_)
          · refine q_iconst cx dX12_readsLink_52 ?_
            refine lv_istore_n (lv' := [(3, .int (q_i (-1))), (2, .int (q_i y311)), (1, .int (q_i x288)), (0, .ref mo)]) cx.1 cx.2.1 dX12_readsLink_53 rfl hl (by decide) rfl (fun ls hl => ?_)
            refine q_ald_n cx dX12_readsLink_54 rfl (lv_at hl 3 rfl) ?_
            refine q_cVi (As := []) (rest := []) cx hB (fun _ h => h) hN hmo kmo (by decide) rfl (r_isGood1 l g hN hB.2.1 mo hmo kmo x490 (by omega) (by omega) ex490) q_cX12_130 q_dX12_isGood (by decide) rfl rfl hl.1 rfl (Nat.le_of_ble_eq_true rfl) dX12_readsLink_55 (fun y496 H locs f495 ry496 h497 hF hB => ?_)
            obtain ⟨rfl, qy496⟩ := h497
            subst qy496
            refine q_ifeq (tgt := 86) cx ⟨by decide, by decide⟩ dX12_readsLink_58 (by decide) (fun c498 => ?_) (fun c498 => ?_)
            · refine q_ald_n cx dX12_readsLink_86 rfl (lv_at hl 3 rfl) ?_
              refine q_cVi (As := []) (rest := []) cx hB (fun _ h => h) hN hmo kmo (by decide) rfl (r_isGood1 l g hN hB.2.1 mo hmo kmo x490 (by omega) (by omega) ex490) q_cX12_130 q_dX12_isGood (by decide) rfl rfl hl.1 rfl (Nat.le_of_ble_eq_true rfl) dX12_readsLink_87 (fun y500 H locs f499 ry500 h501 hF hB => ?_)
              obtain ⟨rfl, qy500⟩ := h501
              subst qy500
              refine q_ifeq (tgt := 103) cx ⟨by decide, by decide⟩ dX12_readsLink_90 (by decide) (fun c502 => ?_) (fun c502 => ?_)
              · refine q_ald_n cx dX12_readsLink_103 rfl (lv_at hl 3 rfl) ?_
                refine q_cVi (As := []) (rest := []) cx hB (fun _ h => h) hN hmo kmo (by decide) rfl (r_isGood1 l g hN hB.2.1 mo hmo kmo x490 (by omega) (by omega) ex490) q_cX12_130 q_dX12_isGood (by decide) rfl rfl hl.1 rfl (Nat.le_of_ble_eq_true rfl) dX12_readsLink_104 (fun y504 H locs f503 ry504 h505 hF hB => ?_)
                obtain ⟨rfl, qy504⟩ := h505
                subst qy504
                refine q_ifne (tgt := 111) cx ⟨by decide, by decide⟩ dX12_readsLink_107 (by decide) (fun c506 => ?_) (fun c506 => ?_)
                · exact absurd c506 (by omega)
                · refine q_vret cx hr hlk hB dX12_readsLink_110 ?_
                  exact (Or.inr ⟨(q_isl ex490 (by omega)), (q_isu ex490 (by omega))⟩)
              · exact absurd c502 (by omega)
            · exact absurd c498 (by omega)
          · exact absurd c494 (by omega)
      · obtain ⟨ly311, uy311, lz507, uz507⟩ := h314
        have z508 : q_is (q_z f310 sr 1) x288 := Eq.trans (hF.z hsr (by rw [ksr]; rfl)) z302
        have z509 : q_is (q_z f310 mo 3) x295 := Eq.trans (hF.z hmo (by rw [kmo]; rfl)) z303
        have z510 : q_ir (q_r f310 mo 13) sr := Eq.trans (hF.r hmo (by rw [kmo]; rfl)) z304
        have z511 : q_ir (q_r f310 mo 18) nm := Eq.trans (hF.r hmo (by rw [kmo]; rfl)) z305
        have z512 : q_ir (q_r f310 mo 1) bu := Eq.trans (hF.r hmo (by rw [kmo]; rfl)) z306
        have g513 : q_gr f310 sr := q_gr_fr g307 (fun i9 _ => hF.z hsr (by rw [ksr]; rfl))
        obtain ⟨x514, ex514⟩ : ∃ zz, q_is (q_z f310 mo 8) zz := ⟨_, q_isr _⟩
        obtain ⟨lx514, ux514⟩ := q_isb ex514 ⟨lz507, uz507⟩
        obtain ⟨x515, ex515⟩ : ∃ zz, q_is (q_z f310 mo 4) zz := ⟨_, q_isr _⟩
        obtain ⟨lx515, ux515⟩ := q_isb ex515 (q_fib hB.2.1 hmo kmo (by decide) rfl)
        obtain ⟨x516, ex516⟩ : ∃ zz, q_is (q_z f310 mo 6) zz := ⟨_, q_isr _⟩
        obtain ⟨lx516, ux516⟩ := q_isb ex516 (q_fib hB.2.1 hmo kmo (by decide) rfl)
        refine lv_istore_n (lv' := [(2, .int (q_i y311)), (1, .int (q_i x288)), (0, .ref mo)]) cx.1 cx.2.1 dX12_readsLink_33 rfl hl (by decide) rfl (fun ls hl => ?_)
        refine q_ald_n cx dX12_readsLink_34 rfl (lv_at hl 2 rfl) ?_
        refine q_cVv (As := []) (rest := []) cx hB (fun _ h => h) hN hmo kmo (by decide) rfl (r_mustBeWord1 l g hN hB.2.1 mo hmo kmo x514 (by omega) (by omega) ex514) q_cX12_175 q_dX12_mustBeWord (by decide) rfl rfl hl.1 rfl (Nat.le_of_ble_eq_true rfl) dX12_readsLink_35 (fun H locs f517 h519 hF hB => ?_)
        obtain rfl := h519
        refine q_ald_n cx dX12_readsLink_38 rfl (lv_at hl 2 rfl) ?_
        refine q_cVi (As := []) (rest := []) cx hB (fun _ h => h) hN hmo kmo (by decide) rfl (r_isGood1 l g hN hB.2.1 mo hmo kmo x514 (by omega) (by omega) ex514) q_cX12_130 q_dX12_isGood (by decide) rfl rfl hl.1 rfl (Nat.le_of_ble_eq_true rfl) dX12_readsLink_39 (fun y521 H locs f520 ry521 h522 hF hB => ?_)
        obtain ⟨rfl, qy521⟩ := h522
        subst qy521
        refine q_ifeq (tgt := 52) cx ⟨by decide, by decide⟩ dX12_readsLink_42 (by decide) (fun c523 => ?_) (fun c523 => ?_)
        · refine q_iconst cx dX12_readsLink_52 ?_
          refine lv_istore_n (lv' := [(3, .int (q_i (-1))), (2, .int (q_i y311)), (1, .int (q_i x288)), (0, .ref mo)]) cx.1 cx.2.1 dX12_readsLink_53 rfl hl (by decide) rfl (fun ls hl => ?_)
          refine q_ald_n cx dX12_readsLink_54 rfl (lv_at hl 3 rfl) ?_
          refine q_cVi (As := []) (rest := []) cx hB (fun _ h => h) hN hmo kmo (by decide) rfl (r_isGood1 l g hN hB.2.1 mo hmo kmo x514 (by omega) (by omega) ex514) q_cX12_130 q_dX12_isGood (by decide) rfl rfl hl.1 rfl (Nat.le_of_ble_eq_true rfl) dX12_readsLink_55 (fun y525 H locs f524 ry525 h526 hF hB => ?_)
          obtain ⟨rfl, qy525⟩ := h526
          subst qy525
          refine q_ifeq (tgt := 86) cx ⟨by decide, by decide⟩ dX12_readsLink_58 (by decide) (fun c527 => ?_) (fun c527 => ?_)
          · refine q_ald_n cx dX12_readsLink_86 rfl (lv_at hl 3 rfl) ?_
            refine q_cVi (As := []) (rest := []) cx hB (fun _ h => h) hN hmo kmo (by decide) rfl (r_isGood1 l g hN hB.2.1 mo hmo kmo x514 (by omega) (by omega) ex514) q_cX12_130 q_dX12_isGood (by decide) rfl rfl hl.1 rfl (Nat.le_of_ble_eq_true rfl) dX12_readsLink_87 (fun y529 H locs f528 ry529 h530 hF hB => ?_)
            obtain ⟨rfl, qy529⟩ := h530
            subst qy529
            refine q_ifeq (tgt := 103) cx ⟨by decide, by decide⟩ dX12_readsLink_90 (by decide) (fun c531 => ?_) (fun c531 => ?_)
            · refine q_ald_n cx dX12_readsLink_103 rfl (lv_at hl 3 rfl) ?_
              refine q_cVi (As := []) (rest := []) cx hB (fun _ h => h) hN hmo kmo (by decide) rfl (r_isGood1 l g hN hB.2.1 mo hmo kmo x514 (by omega) (by omega) ex514) q_cX12_130 q_dX12_isGood (by decide) rfl rfl hl.1 rfl (Nat.le_of_ble_eq_true rfl) dX12_readsLink_104 (fun y533 H locs f532 ry533 h534 hF hB => ?_)
              obtain ⟨rfl, qy533⟩ := h534
              subst qy533
              refine q_ifne (tgt := 111) cx ⟨by decide, by decide⟩ dX12_readsLink_107 (by decide) (fun c535 => ?_) (fun c535 => ?_)
              · exact absurd c535 (by omega)
              · refine q_vret cx hr hlk hB dX12_readsLink_110 ?_
                exact (Or.inr ⟨(q_isl ex514 (by omega)), (q_isu ex514 (by omega))⟩)
            · exact absurd c531 (by omega)
          · exact absurd c527 (by omega)
        · exact absurd c523 (by omega)
  · refine q_ald_n cx dX12_readsLink_13 rfl (lv_at hl 1 rfl) ?_
    refine q_iconst cx dX12_readsLink_14 ?_
    refine q_cVv (As := [.int (q_i 5)]) (rest := []) cx hB (fun _ h => h) hN hmo kmo (by decide) rfl (r_wrong0 l g hN hB.2.1 mo hmo kmo 5 (by decide) (by decide) hf0) q_cX12_137 q_dX12_wrong (by decide) rfl rfl hl.1 rfl (Nat.le_of_ble_eq_true rfl) dX12_readsLink_15 (fun H locs f536 h538 hF hB => ?_)
    obtain ⟨lz539, uz539⟩ := h538
    have z540 : q_is (q_z f536 mo 4) xp := Eq.trans (hF.z hmo (by rw [kmo]; rfl)) hf1
    have z541 : q_is (q_z f536 sr 1) x288 := Eq.trans (hF.z hsr (by rw [ksr]; rfl)) ex288
    have z542 : q_ir (q_r f536 mo 13) sr := Eq.trans (hF.r hmo (by rw [kmo]; rfl)) hr0
    have z543 : q_ir (q_r f536 mo 18) nm := Eq.trans (hF.r hmo (by rw [kmo]; rfl)) hr1
    have z544 : q_ir (q_r f536 mo 1) bu := Eq.trans (hF.r hmo (by rw [kmo]; rfl)) hr2
    have g545 : q_gr f536 sr := q_gr_fr hgr (fun i9 _ => hF.z hsr (by rw [ksr]; rfl))
    obtain ⟨x546, ex546⟩ : ∃ zz, q_is (q_z f536 mo 8) zz := ⟨_, q_isr _⟩
    obtain ⟨lx546, ux546⟩ := q_isb ex546 ⟨lz539, uz539⟩
    refine q_ald_n cx dX12_readsLink_18 rfl (lv_at hl 1 rfl) ?_
    refine q_cVi (As := []) (rest := []) cx hB (fun _ h => h) hN hmo kmo (by decide) rfl (r_isGood1 l g hN hB.2.1 mo hmo kmo x546 (by omega) (by omega) ex546) q_cX12_130 q_dX12_isGood (by decide) rfl rfl hl.1 rfl (Nat.le_of_ble_eq_true rfl) dX12_readsLink_19 (fun y548 H locs f547 ry548 h549 hF hB => ?_)
    obtain ⟨rfl, qy548⟩ := h549
    subst qy548
    refine q_ifeq (tgt := 29) cx ⟨by decide, by decide⟩ dX12_readsLink_22 (by decide) (fun c550 => ?_) (fun c550 => ?_)
    · refine q_ald_n cx dX12_readsLink_29 rfl (lv_at hl 1 rfl) ?_
      refine q_cVi (As := []) (rest := []) cx hB (fun _ h => h) hN hmo kmo (by decide) rfl (r_told1 l g hN hB.2.1 mo hmo kmo x546 (by omega) (by omega) ex546) q_cX12_213 q_dX12_told (by decide) rfl rfl hl.1 rfl (Nat.le_of_ble_eq_true rfl) dX12_readsLink_30 (fun y552 H locs f551 ry552 h553 hF hB => ?_)
      obtain ⟨rfl, qy552⟩ := h553
      subst qy552
      refine lv_istore_n (lv' := [(2, .int (q_i (-1))), (1, .int (q_i x288)), (0, .ref mo)]) cx.1 cx.2.1 dX12_readsLink_33 rfl hl (by decide) rfl (fun ls hl => ?_)
      refine q_ald_n cx dX12_readsLink_34 rfl (lv_at hl 2 rfl) ?_
      refine q_cVv (As := []) (rest := []) cx hB (fun _ h => h) hN hmo kmo (by decide) rfl (r_mustBeWord1 l g hN hB.2.1 mo hmo kmo x546 (by omega) (by omega) ex546) q_cX12_175 q_dX12_mustBeWord (by decide) rfl rfl hl.1 rfl (Nat.le_of_ble_eq_true rfl) dX12_readsLink_35 (fun H locs f554 h556 hF hB => ?_)
      obtain rfl := h556
      refine q_ald_n cx dX12_readsLink_38 rfl (lv_at hl 2 rfl) ?_
      refine q_cVi (As := []) (rest := []) cx hB (fun _ h => h) hN hmo kmo (by decide) rfl (r_isGood1 l g hN hB.2.1 mo hmo kmo x546 (by omega) (by omega) ex546) q_cX12_130 q_dX12_isGood (by decide) rfl rfl hl.1 rfl (Nat.le_of_ble_eq_true rfl) dX12_readsLink_39 (fun y558 H locs f557 ry558 h559 hF hB => ?_)
      obtain ⟨rfl, qy558⟩ := h559
      subst qy558
      refine q_ifeq (tgt := 52) cx ⟨by decide, by decide⟩ dX12_readsLink_42 (by decide) (fun c560 => ?_) (fun c560 => ?_)
      · refine q_iconst cx dX12_readsLink_52 ?_
        refine lv_istore_n (lv' := [(3, .int (q_i (-1))), (2, .int (q_i (-1))), (1, .int (q_i x288)), (0, .ref mo)]) cx.1 cx.2.1 dX12_readsLink_53 rfl hl (by decide) rfl (fun ls hl => ?_)
        refine q_ald_n cx dX12_readsLink_54 rfl (lv_at hl 3 rfl) ?_
        refine q_cVi (As := []) (rest := []) cx hB (fun _ h => h) hN hmo kmo (by decide) rfl (r_isGood1 l g hN hB.2.1 mo hmo kmo x546 (by omega) (by omega) ex546) q_cX12_130 q_dX12_isGood (by decide) rfl rfl hl.1 rfl (Nat.le_of_ble_eq_true rfl) dX12_readsLink_55 (fun y562 H locs f561 ry562 h563 hF hB => ?_)
        obtain ⟨rfl, qy562⟩ := h563
        subst qy562
        refine q_ifeq (tgt := 86) cx ⟨by decide, by decide⟩ dX12_readsLink_58 (by decide) (fun c564 => ?_) (fun c564 => ?_)
        · refine q_ald_n cx dX12_readsLink_86 rfl (lv_at hl 3 rfl) ?_
          refine q_cVi (As := []) (rest := []) cx hB (fun _ h => h) hN hmo kmo (by decide) rfl (r_isGood1 l g hN hB.2.1 mo hmo kmo x546 (by omega) (by omega) ex546) q_cX12_130 q_dX12_isGood (by decide) rfl rfl hl.1 rfl (Nat.le_of_ble_eq_true rfl) dX12_readsLink_87 (fun y566 H locs f565 ry566 h567 hF hB => ?_)
          obtain ⟨rfl, qy566⟩ := h567
          subst qy566
          refine q_ifeq (tgt := 103) cx ⟨by decide, by decide⟩ dX12_readsLink_90 (by decide) (fun c568 => ?_) (fun c568 => ?_)
          · refine q_ald_n cx dX12_readsLink_103 rfl (lv_at hl 3 rfl) ?_
            refine q_cVi (As := []) (rest := []) cx hB (fun _ h => h) hN hmo kmo (by decide) rfl (r_isGood1 l g hN hB.2.1 mo hmo kmo x546 (by omega) (by omega) ex546) q_cX12_130 q_dX12_isGood (by decide) rfl rfl hl.1 rfl (Nat.le_of_ble_eq_true rfl) dX12_readsLink_104 (fun y570 H locs f569 ry570 h571 hF hB => ?_)
            obtain ⟨rfl, qy570⟩ := h571
            subst qy570
            refine q_ifne (tgt := 111) cx ⟨by decide, by decide⟩ dX12_readsLink_107 (by decide) (fun c572 => ?_) (fun c572 => ?_)
            · exact absurd c572 (by omega)
            · refine q_vret cx hr hlk hB dX12_readsLink_110 ?_
              exact (Or.inr ⟨(q_isl ex546 (by omega)), (q_isu ex546 (by omega))⟩)
          · exact absurd c568 (by omega)
        · exact absurd c564 (by omega)
      · exact absurd c560 (by omega)
    · exact absurd c550 (by omega)
