set_option maxHeartbeats 4000000 in
set_option maxRecDepth 100000 in
theorem f_readCommand (l : Launch) (g : q_G) (ad : Nat → Nat) {K : Nat → Nat} {L : List Nat} (hN : L.Nodup) {f : Nat → va_E} (hT : q_Ty g K L f) (hfl : l.stackTraces = false) (B : Nat → Int) (nl9 : List (List Int)) (scr : Nat) (hscr : scr ∈ L) (kscr : K scr = 7) (so : Nat) (hso : so ∈ L) (kso : K so = 8) (now : Nat) (hnow : now ∈ L) (know : K now = 10) (ba : Nat) (hba : ba ∈ L) (kba : K ba = 142) (ndn : Nat) (hndn : ndn ∈ L) (kndn : K ndn = 110) (cmds : Nat) (hcmds : cmds ∈ L) (kcmds : K cmds = 141) (tn : Int) (ltn : 0 ≤ tn) (utn : tn ≤ 600) (ss : Int) (lss : 0 ≤ ss) (uss : ss ≤ 600) (kc : Int) (lkc : 0 ≤ kc) (ukc : kc ≤ 30) (ki : Int) (lki : (-1) ≤ ki) (uki : ki ≤ 29) (kd : Int) (lkd : 0 ≤ kd) (ukd : kd ≤ 2) (hf0 : q_is (q_z f so 1) tn) (hf1 : q_is (q_z f so 8) ss) (hf2 : q_is (q_z f so 2) 0) (hf3 : q_is (q_z f so 3) (-1)) (hf4 : q_is (q_z f scr 1) kc) (hf5 : q_is (q_z f scr 3) ki) (hf6 : q_is (q_z f scr 4) kd) (hr0 : q_ir (q_r f so 0) ba) (hr1 : q_ir (q_r f now 0) ndn) (hr2 : q_ir (q_r f scr 0) cmds) (htc : tk_tc f so B tn) (htb : tk_tb f ba B tn) (hvn : tk_vn K L 5 f now ndn nl9) (hch : tk_ch K L f cmds kc ki kd) : q_Xt l g ad K L yX7_readCommand cX7_readCommand 5 (some .boolean) 6 127 0 0 [.ref scr, .ref so, .ref now] f [(0, 0, 3), (0, 5, 5), (7, 1, 1), (7, 3, 4), (8, 2, 9)] (q_Pi (fun (z : Int) (f1 : Nat → va_E) => (z = 1 ∧ q_is (q_z f1 so 2) 0 ∧ q_is (q_z f1 so 3) (-1) ∧ q_is (q_z f1 scr 1) (kc + 1) ∧ (-1) ≤ q_z f1 scr 3 ∧ q_z f1 scr 3 ≤ 29 ∧ 0 ≤ q_z f1 scr 4 ∧ q_z f1 scr 4 ≤ 2 ∧ (tk_cd B tn nl9 ss kd kc = tk_ok (q_z f1 so 8, q_z f1 scr 4, q_z f1 scr 1)) ∧ (tk_ch K L f1 cmds (q_z f1 scr 1) (q_z f1 scr 3) (q_z f1 scr 4)) ∧ (kc ≤ 29) ∧ (tk_tc f1 so B tn)) ∨ (z = 0 ∧ (tk_cd B tn nl9 ss kd kc = tk_er (q_z f1 so 2) (q_z f1 so 3)) ∧ (tk_tc f1 so B tn)))) (fun (_ : String) (_ : Nat → va_E) => False) := by
  refine q_xofb (by decide +kernel) hN hT (Nat.le_of_ble_eq_true rfl) ?_
  intro p e s m below meth c ls cx hr hlk htab hX hB hl
  have hl : lv_has ls 5 [(0, .ref scr), (1, .ref so), (2, .ref now)] := hl
  obtain ⟨H, hH⟩ : ∃ H : Heap, H = s.heap := ⟨_, rfl⟩
  obtain ⟨locs, hlocs⟩ : ∃ z : List Loc, z = [] := ⟨_, rfl⟩
  rw [← hH, ← hlocs] at hB
  rw [← hH, ← hlocs]
  refine q_ald_n cx dX7_readCommand_0 rfl (lv_at hl 1 rfl) ?_
  refine q_cXS (As := [.ref so]) (rest := []) cx hX hB (fun _ h => h) (fun _ h _ => h) hN (f_kindOfWord l g ad hN hB.2.1 hfl B so hso kso ba hba kba tn (by omega) (by omega) ss (by omega) (by omega) hf0 hf1 hr0 htc htb) q_cX7_70 q_dX7_kindOfWord (by decide) rfl rfl hl.1 rfl (Nat.le_of_ble_eq_true rfl) dX7_readCommand_1 (fun E9 ce9 q9 H locs f325 hex hF hB hcell hcv hcl => ?_) (fun v9 H locs f322 h324 hF hB => ?_)
  · exact hex.elim
  · obtain ⟨y323, rfl, ry323, h324⟩ := h324
    refine W.eq (g2 := F0 m 4 ls [.int (q_i y323)]) rfl ?_
    obtain ⟨rfl, ly323, uy323, t326⟩ := h324
    refine lv_istore_n (lv' := [(3, .int (q_i y323)), (0, .ref scr), (1, .ref so), (2, .ref now)]) cx.1 cx.2.1 dX7_readCommand_4 rfl hl (by decide) rfl (fun ls hl => ?_)
    refine q_ild_n cx dX7_readCommand_5 rfl (lv_at hl 0 rfl) ?_
    refine q_iconst cx dX7_readCommand_6 ?_
    refine q_icne (tgt := 16) cx ⟨by omega, by omega⟩ ⟨by decide, by decide⟩ dX7_readCommand_7 (by decide) (fun c327 => ?_) (fun c327 => ?_)
    · refine q_ild_n cx dX7_readCommand_16 rfl (lv_at hl 0 rfl) ?_
      refine q_bipush cx dX7_readCommand_17 rfl ?_
      refine q_icne (tgt := 36) cx ⟨by omega, by omega⟩ ⟨by decide, by decide⟩ dX7_readCommand_19 (by decide) (fun c328 => ?_) (fun c328 => ?_)
      · refine q_ald_n cx dX7_readCommand_36 rfl (lv_at hl 1 rfl) ?_
        refine q_gX7_18 cx hB hscr kscr hf4 dX7_readCommand_37 (fun lb329 ub329 => ?_)
        refine q_ald_n cx dX7_readCommand_40 rfl (lv_at hl 1 rfl) ?_
        refine q_gX7_13 cx hB hscr kscr hr2 dX7_readCommand_41 (fun hb330 kb330 => ?_)
        refine q_alen (n := 30) cx hB hcmds kcmds (by decide) rfl 4 rfl rfl dX7_readCommand_44 ?_
        refine q_iclt (tgt := 54) cx ⟨by omega, by omega⟩ ⟨by decide, by decide⟩ dX7_readCommand_45 (by decide) (fun c331 => ?_) (fun c331 => ?_)
        · refine q_ald_n cx dX7_readCommand_54 rfl (lv_at hl 1 rfl) ?_
          refine q_ald_n cx dX7_readCommand_55 rfl (lv_at hl 1 rfl) ?_
          refine q_gX7_18 cx hB hscr kscr hf4 dX7_readCommand_56 (fun lb332 ub332 => ?_)
          refine q_cVr (As := [.int (q_i kc)]) (rest := []) cx hB (fun _ h => h) hN hscr kscr (by decide) rfl (f_commandAt l g hN hB.2.1 scr hscr kscr kc (by omega) (by omega) cmds hcmds kcmds hr2) q_cX7_74 q_dX7_commandAt (by decide) rfl rfl hl.1 rfl (Nat.le_of_ble_eq_true rfl) dX7_readCommand_59 (fun y334 H locs f333 h335 hF hB => ?_)
          obtain ⟨rfl, hy334, ky334, t336⟩ := h335
          refine lv_astore (lv' := [(4, .ref y334), (3, .int (q_i y323)), (0, .ref scr), (1, .ref so), (2, .ref now)]) cx.1 cx.2.1 dX7_readCommand_62 hl (by decide) rfl (fun ls hl => ?_)
          refine lv_aload cx.1 cx.2.1 dX7_readCommand_64 (lv_at hl 0 rfl) ?_
          refine q_ild_n cx dX7_readCommand_66 rfl (lv_at hl 1 rfl) ?_
          refine q_pX7_78 cx hB hy334 ky334 ⟨by omega, by omega⟩ (by omega) (by omega) rfl dX7_readCommand_67 (fun H locs f337 ef337 z338 hB => ?_)
          have z339 : q_is (q_z f337 so 1) tn := by rw [ef337, q_setz (Or.inr (by decide))]; exact hf0
          have z340 : q_is (q_z f337 so 8) ss := by rw [ef337, q_setz (Or.inr (by decide))]; exact hf1
          have z341 : q_is (q_z f337 so 2) 0 := by rw [ef337, q_setz (Or.inr (by decide))]; exact hf2
          have z342 : q_is (q_z f337 so 3) (-1) := by rw [ef337, q_setz (Or.inr (by decide))]; exact hf3
          have z343 : q_is (q_z f337 scr 1) kc := by rw [ef337, q_setz (Or.inr (by decide))]; exact hf4
          have z344 : q_is (q_z f337 scr 3) ki := by rw [ef337, q_setz (Or.inr (by decide))]; exact hf5
          have z345 : q_is (q_z f337 scr 4) kd := by rw [ef337, q_setz (Or.inr (by decide))]; exact hf6
          have z346 : q_ir (q_r f337 so 0) ba := by rw [ef337, q_setr (Or.inl (fun q => by rw [q, ky334] at kso; exact absurd kso (by decide)))]; exact hr0
          have z347 : q_ir (q_r f337 now 0) ndn := by rw [ef337, q_setr (Or.inl (fun q => by rw [q, ky334] at know; exact absurd know (by decide)))]; exact hr1
          have z348 : q_ir (q_r f337 scr 0) cmds := by rw [ef337, q_setr (Or.inl (fun q => by rw [q, ky334] at kscr; exact absurd kscr (by decide)))]; exact hr2
          have g349 : tk_tc f337 so B tn := tk_tc_tr htc (by rw [ef337, q_setz (Or.inr (by decide))]) (by rw [ef337, q_setz (Or.inr (by decide))]) (by rw [ef337, q_setz (Or.inr (by decide))]) (by rw [ef337, q_setj (Or.inr (by decide))]) (by rw [ef337, q_setz (Or.inr (by decide))])
          have g350 : tk_tb f337 ba B tn := tk_tb_tr htb (fun i9 => by rw [ef337, q_setz (Or.inl (fun q => by rw [q, ky334] at kba; exact absurd kba (by decide)))])
          have g351 : tk_vn K L 5 f337 now ndn nl9 := tk_vn_tr hvn (by rw [ef337, q_setz (Or.inr (by decide))]) (fun a9 h9 k9 => by rw [ef337, q_setj (Or.inl (fun q => by rw [q, ky334] at k9; exact absurd k9 (by decide)))]) (fun i9 => by rw [ef337, q_setr (Or.inl (fun q => by rw [q, ky334] at kndn; exact absurd kndn (by decide)))])
          have g352 : tk_ch K L f337 cmds kc ki kd := tk_ch_tr hch (fun a9 h9 k9 => by rw [ef337, q_setz (Or.inr (by decide))]) (fun i9 => by rw [ef337, q_setr (Or.inl (fun q => by rw [q, ky334] at kcmds; exact absurd kcmds (by decide)))])
          have g353 : y334 = q_r f337 cmds (Int.toNat kc) := tk_nz_tr t336 (fun i9 => by rw [ef337, q_setr (Or.inl (fun q => by rw [q, ky334] at kcmds; exact absurd kcmds (by decide)))])
          refine q_ald_n cx dX7_readCommand_70 rfl (lv_at hl 2 rfl) ?_
          refine lv_dup cx.1 cx.2.1 dX7_readCommand_71 rfl ?_
          refine q_gX7_18 cx hB hscr kscr z343 dX7_readCommand_72 (fun lb354 ub354 => ?_)
          refine q_iconst cx dX7_readCommand_75 ?_
          refine q_iadd cx dX7_readCommand_76 ?_
          refine q_pX7_18 cx hB hscr kscr ⟨by omega, by omega⟩ (by omega) (by omega) rfl dX7_readCommand_77 (fun H locs f355 ef355 z356 hB => ?_)
          have z357 : q_is (q_z f355 so 1) tn := by rw [ef355, q_setz (Or.inl (fun q => by rw [q, kscr] at kso; exact absurd kso (by decide)))]; exact z339
          have z358 : q_is (q_z f355 so 8) ss := by rw [ef355, q_setz (Or.inr (by decide))]; exact z340
          have z359 : q_is (q_z f355 so 2) 0 := by rw [ef355, q_setz (Or.inr (by decide))]; exact z341
          have z360 : q_is (q_z f355 so 3) (-1) := by rw [ef355, q_setz (Or.inr (by decide))]; exact z342
          have z361 : q_is (q_z f355 scr 3) ki := by rw [ef355, q_setz (Or.inr (by decide))]; exact z344
          have z362 : q_is (q_z f355 scr 4) kd := by rw [ef355, q_setz (Or.inr (by decide))]; exact z345
          have z363 : q_is (q_z f355 y334 0) y323 := by rw [ef355, q_setz (Or.inr (by decide))]; exact z338
          have z364 : q_ir (q_r f355 so 0) ba := by rw [ef355, q_setr (Or.inr (by decide))]; exact z346
          have z365 : q_ir (q_r f355 now 0) ndn := by rw [ef355, q_setr (Or.inr (by decide))]; exact z347
          have z366 : q_ir (q_r f355 scr 0) cmds := by rw [ef355, q_setr (Or.inr (by decide))]; exact z348
          have g367 : tk_tc f355 so B tn := tk_tc_tr g349 (by rw [ef355, q_setz (Or.inr (by decide))]) (by rw [ef355, q_setz (Or.inr (by decide))]) (by rw [ef355, q_setz (Or.inr (by decide))]) (by rw [ef355, q_setj (Or.inr (by decide))]) (by rw [ef355, q_setz (Or.inr (by decide))])
          have g368 : tk_tb f355 ba B tn := tk_tb_tr g350 (fun i9 => by rw [ef355, q_setz (Or.inl (fun q => by rw [q, kscr] at kba; exact absurd kba (by decide)))])
          have g369 : tk_vn K L 5 f355 now ndn nl9 := tk_vn_tr g351 (by rw [ef355, q_setz (Or.inr (by decide))]) (fun a9 h9 k9 => by rw [ef355, q_setj (Or.inl (fun q => by rw [q, kscr] at k9; exact absurd k9 (by decide)))]) (fun i9 => by rw [ef355, q_setr (Or.inl (fun q => by rw [q, kscr] at kndn; exact absurd kndn (by decide)))])
          have g370 : tk_ch K L f355 cmds kc ki kd := tk_ch_tr g352 (fun a9 h9 k9 => by rw [ef355, q_setz (Or.inl (fun q => by rw [q, kscr] at k9; exact absurd k9 (by decide)))]) (fun i9 => by rw [ef355, q_setr (Or.inl (fun q => by rw [q, kscr] at kcmds; exact absurd kcmds (by decide)))])
          have g371 : y334 = q_r f355 cmds (Int.toNat kc) := tk_nz_tr g353 (fun i9 => by rw [ef355, q_setr (Or.inl (fun q => by rw [q, kscr] at kcmds; exact absurd kcmds (by decide)))])
          refine q_ald_n cx dX7_readCommand_80 rfl (lv_at hl 3 rfl) ?_
          refine q_cVv (As := []) (rest := []) cx hB (fun _ h => h) hN hso kso (by decide) rfl (f_adv l g hN hB.2.1 B so hso kso ba hba kba tn (by omega) (by omega) ss (by omega) (by omega) z357 z358 z364 g367 g368) q_cX7_81 q_dX8_advance (by decide) rfl rfl hl.1 rfl (Nat.le_of_ble_eq_true rfl) dX7_readCommand_81 (fun H locs f372 h374 hF hB => ?_)
          obtain ⟨t375, g376⟩ := h374
          have z377 : q_is (q_z f372 so 1) tn := Eq.trans (hF.z hso (by rw [kso]; rfl)) z357
          have z378 : q_is (q_z f372 so 2) 0 := Eq.trans (hF.z hso (by rw [kso]; rfl)) z359
          have z379 : q_is (q_z f372 so 3) (-1) := Eq.trans (hF.z hso (by rw [kso]; rfl)) z360
          have z380 : q_is (q_z f372 scr 3) ki := Eq.trans (hF.z hscr (by rw [kscr]; rfl)) z361
          have z381 : q_is (q_z f372 scr 4) kd := Eq.trans (hF.z hscr (by rw [kscr]; rfl)) z362
          have z382 : q_is (q_z f372 y334 0) y323 := Eq.trans (hF.z hy334 (by rw [ky334]; rfl)) z363
          have z383 : q_is (q_z f372 scr 1) (kc + 1) := Eq.trans (hF.z hscr (by rw [kscr]; rfl)) z356
          have z384 : q_ir (q_r f372 so 0) ba := Eq.trans (hF.r hso (by rw [kso]; rfl)) z364
          have z385 : q_ir (q_r f372 now 0) ndn := Eq.trans (hF.r hnow (by rw [know]; rfl)) z365
          have z386 : q_ir (q_r f372 scr 0) cmds := Eq.trans (hF.r hscr (by rw [kscr]; rfl)) z366
          have g387 : tk_tb f372 ba B tn := tk_tb_tr g368 (fun i9 => hF.z hba (by rw [kba]; rfl))
          have g388 : tk_vn K L 5 f372 now ndn nl9 := tk_vn_tr g369 (hF.z hnow (by rw [know]; rfl)) (fun a9 h9 k9 => hF.j h9 (by rw [k9]; rfl)) (fun i9 => hF.r hndn (by rw [kndn]; rfl))
          have g389 : tk_ch K L f372 cmds kc ki kd := tk_ch_tr g370 (fun a9 h9 k9 => hF.z h9 (by rw [k9]; rfl)) (fun i9 => hF.r hcmds (by rw [kcmds]; rfl))
          have g390 : y334 = q_r f372 cmds (Int.toNat kc) := tk_nz_tr g371 (fun i9 => hF.r hcmds (by rw [kcmds]; rfl))
          obtain ⟨x391, ex391⟩ : ∃ zz, q_is (q_z f372 so 8) zz := ⟨_, q_isr _⟩
          obtain ⟨lx391, ux391⟩ := q_isb ex391 (q_fib hB.2.1 hso kso (by decide) rfl)
          obtain ⟨-, l0x391, u0x391, -, -⟩ := tk_tc_n g376 ex391
          refine q_ild_n cx dX7_readCommand_84 rfl (lv_at hl 1 rfl) ?_
          refine q_bipush cx dX7_readCommand_85 rfl ?_
          refine q_icne (tgt := 98) cx ⟨by omega, by omega⟩ ⟨by decide, by decide⟩ dX7_readCommand_87 (by decide) (fun c392 => ?_) (fun c392 => ?_)
          · have g393 : tk_ch K L f372 cmds (kc + 1) ki kd := tk_ch_more g389 (by omega) (by omega)
            refine q_ald_n cx dX7_readCommand_98 rfl (lv_at hl 2 rfl) ?_
            refine q_ald_n cx dX7_readCommand_99 rfl (lv_at hl 3 rfl) ?_
            refine q_ald_n cx dX7_readCommand_100 rfl (lv_at hl 4 rfl) ?_
            refine lv_aload cx.1 cx.2.1 dX7_readCommand_101 (lv_at hl 0 rfl) ?_
            refine q_cVi (As := [.ref so, .ref now, .ref y334]) (rest := []) cx hB (fun _ h => h) hN hscr kscr (by decide) rfl (f_readNames l g hN hB.2.1 B nl9 scr hscr kscr so hso kso now hnow know y334 hy334 ky334 ba hba kba ndn hndn kndn tn (by omega) (by omega) x391 (by omega) (by omega) y323 (by omega) (by omega) z377 ex391 z378 z379 z382 z384 z385 g376 g387 g388) q_cX7_88 q_dX7_readNames (by decide) rfl rfl hl.1 rfl (Nat.le_of_ble_eq_true rfl) dX7_readCommand_103 (fun y395 H locs f394 ry395 h396 hF hB => ?_)
            rcases h396 with h397 | h398
            · obtain ⟨qy395, z399, z400, t401, g402⟩ := h397
              have z403 : q_is (q_z f394 so 1) tn := Eq.trans (hF.z hso (by rw [kso]; rfl)) z377
              have z404 : q_is (q_z f394 scr 3) ki := Eq.trans (hF.z hscr (by rw [kscr]; rfl)) z380
              have z405 : q_is (q_z f394 scr 4) kd := Eq.trans (hF.z hscr (by rw [kscr]; rfl)) z381
              have z406 : q_is (q_z f394 y334 0) y323 := Eq.trans (hF.z hy334 (by rw [ky334]; rfl)) z382
              have z407 : q_is (q_z f394 scr 1) (kc + 1) := Eq.trans (hF.z hscr (by rw [kscr]; rfl)) z383
              have z408 : q_ir (q_r f394 so 0) ba := Eq.trans (hF.r hso (by rw [kso]; rfl)) z384
              have z409 : q_ir (q_r f394 now 0) ndn := Eq.trans (hF.r hnow (by rw [know]; rfl)) z385
              have z410 : q_ir (q_r f394 scr 0) cmds := Eq.trans (hF.r hscr (by rw [kscr]; rfl)) z386
              have g411 : tk_tb f394 ba B tn := tk_tb_tr g387 (fun i9 => hF.z hba (by rw [kba]; rfl))
              have g412 : tk_vn K L 5 f394 now ndn nl9 := tk_vn_tr g388 (hF.z hnow (by rw [know]; rfl)) (fun a9 h9 k9 => hF.j h9 (by rw [k9]; rfl)) (fun i9 => hF.r hndn (by rw [kndn]; rfl))
              have g413 : tk_ch K L f394 cmds (kc + 1) ki kd := tk_ch_tr g393 (fun a9 h9 k9 => hF.z h9 (by rw [k9]; rfl)) (fun i9 => hF.r hcmds (by rw [kcmds]; rfl))
              have g414 : y334 = q_r f394 cmds (Int.toNat kc) := tk_nz_tr g390 (fun i9 => hF.r hcmds (by rw [kcmds]; rfl))
              subst qy395
              obtain ⟨x415, ex415⟩ : ∃ zz, q_is (q_z f394 so 8) zz := ⟨_, q_isr _⟩
              obtain ⟨lx415, ux415⟩ := q_isb ex415 (q_fib hB.2.1 hso kso (by decide) rfl)
              obtain ⟨-, l0x415, u0x415, -, -⟩ := tk_tc_n g402 ex415
              refine q_ifeq (tgt := 123) cx ⟨by decide, by decide⟩ dX7_readCommand_106 (by decide) (fun c416 => ?_) (fun c416 => ?_)
              · exact absurd c416 (by omega)
              · refine q_ald_n cx dX7_readCommand_109 rfl (lv_at hl 2 rfl) ?_
                refine q_ald_n cx dX7_readCommand_110 rfl (lv_at hl 3 rfl) ?_
                refine lv_aload cx.1 cx.2.1 dX7_readCommand_111 (lv_at hl 0 rfl) ?_
                refine q_cVi (As := [.ref so, .ref y334]) (rest := []) cx hB (fun _ h => h) hN hscr kscr (by decide) rfl (f_readNumber l g hN hB.2.1 B scr hscr kscr so hso kso y334 hy334 ky334 ba hba kba tn (by omega) (by omega) x415 (by omega) (by omega) z403 ex415 z399 z400 z408 g402 g411) q_cX7_92 q_dX7_readNumber (by decide) rfl rfl hl.1 rfl (Nat.le_of_ble_eq_true rfl) dX7_readCommand_113 (fun y418 H locs f417 ry418 h419 hF hB => ?_)
                rcases h419 with h420 | h421
                · obtain ⟨qy418, z422, z423, t424, g425⟩ := h420
                  have z426 : q_is (q_z f417 so 1) tn := Eq.trans (hF.z hso (by rw [kso]; rfl)) z403
                  have z427 : q_is (q_z f417 scr 3) ki := Eq.trans (hF.z hscr (by rw [kscr]; rfl)) z404
                  have z428 : q_is (q_z f417 scr 4) kd := Eq.trans (hF.z hscr (by rw [kscr]; rfl)) z405
                  have z429 : q_is (q_z f417 y334 0) y323 := Eq.trans (hF.z hy334 (by rw [ky334]; rfl)) z406
                  have z430 : q_is (q_z f417 scr 1) (kc + 1) := Eq.trans (hF.z hscr (by rw [kscr]; rfl)) z407
                  have z431 : q_ir (q_r f417 so 0) ba := Eq.trans (hF.r hso (by rw [kso]; rfl)) z408
                  have z432 : q_ir (q_r f417 now 0) ndn := Eq.trans (hF.r hnow (by rw [know]; rfl)) z409
                  have z433 : q_ir (q_r f417 scr 0) cmds := Eq.trans (hF.r hscr (by rw [kscr]; rfl)) z410
                  have g434 : tk_tb f417 ba B tn := tk_tb_tr g411 (fun i9 => hF.z hba (by rw [kba]; rfl))
                  have g435 : tk_vn K L 5 f417 now ndn nl9 := tk_vn_tr g412 (hF.z hnow (by rw [know]; rfl)) (fun a9 h9 k9 => hF.j h9 (by rw [k9]; rfl)) (fun i9 => hF.r hndn (by rw [kndn]; rfl))
                  have g436 : tk_ch K L f417 cmds (kc + 1) ki kd := tk_ch_tr g413 (fun a9 h9 k9 => hF.z h9 (by rw [k9]; rfl)) (fun i9 => hF.r hcmds (by rw [kcmds]; rfl))
                  have g437 : y334 = q_r f417 cmds (Int.toNat kc) := tk_nz_tr g414 (fun i9 => hF.r hcmds (by rw [kcmds]; rfl))
                  subst qy418
                  obtain ⟨x438, ex438⟩ : ∃ zz, q_is (q_z f417 so 8) zz := ⟨_, q_isr _⟩
                  obtain ⟨lx438, ux438⟩ := q_isb ex438 (q_fib hB.2.1 hso kso (by decide) rfl)
                  obtain ⟨-, l0x438, u0x438, -, -⟩ := tk_tc_n g425 ex438
                  refine q_ifeq (tgt := 123) cx ⟨by decide, by decide⟩ dX7_readCommand_116 (by decide) (fun c439 => ?_) (fun c439 => ?_)
                  · exact absurd c439 (by omega)
                  · refine q_iconst cx dX7_readCommand_119 ?_
                    refine lv_goto (tgt := 124) cx.1 cx.2.1 dX7_readCommand_120 (by decide) ?_
                    refine W.widen (k := 0) (n := 0) (by decide) (by decide) ?_
                    refine vx_ret ?_
                    refine q_zret cx hr hlk hB dX7_readCommand_124 (by decide) (by decide) ?_
                    exact (Or.inl ⟨rfl, z422, z423, z430, (q_isl z427 (by omega)), (q_isu z427 (by omega)), (q_isl z428 (by omega)), (q_isu z428 (by omega)), (tk_xok (tk_cd_c t326 (by omega) (by omega) (by omega) (by omega) (Eq.trans (Eq.symm ex391) t375) (tk_okx t401 ex415) (tk_okx t424 ex438)) ex438 (Eq.trans z428 (by omega)) (Eq.trans z430 (by omega))), (tk_ch_w g436 (Eq.trans z430 (by omega)) (Eq.trans z427 (by omega)) (Eq.trans z428 (by omega))), (by omega), g425⟩)
                · obtain ⟨qy418, t440, g441⟩ := h421
                  have z442 : q_is (q_z f417 so 1) tn := Eq.trans (hF.z hso (by rw [kso]; rfl)) z403
                  have z443 : q_is (q_z f417 scr 3) ki := Eq.trans (hF.z hscr (by rw [kscr]; rfl)) z404
                  have z444 : q_is (q_z f417 scr 4) kd := Eq.trans (hF.z hscr (by rw [kscr]; rfl)) z405
                  have z445 : q_is (q_z f417 y334 0) y323 := Eq.trans (hF.z hy334 (by rw [ky334]; rfl)) z406
                  have z446 : q_is (q_z f417 scr 1) (kc + 1) := Eq.trans (hF.z hscr (by rw [kscr]; rfl)) z407
                  have z447 : q_ir (q_r f417 so 0) ba := Eq.trans (hF.r hso (by rw [kso]; rfl)) z408
                  have z448 : q_ir (q_r f417 now 0) ndn := Eq.trans (hF.r hnow (by rw [know]; rfl)) z409
                  have z449 : q_ir (q_r f417 scr 0) cmds := Eq.trans (hF.r hscr (by rw [kscr]; rfl)) z410
                  have g450 : tk_tb f417 ba B tn := tk_tb_tr g411 (fun i9 => hF.z hba (by rw [kba]; rfl))
                  have g451 : tk_vn K L 5 f417 now ndn nl9 := tk_vn_tr g412 (hF.z hnow (by rw [know]; rfl)) (fun a9 h9 k9 => hF.j h9 (by rw [k9]; rfl)) (fun i9 => hF.r hndn (by rw [kndn]; rfl))
                  have g452 : tk_ch K L f417 cmds (kc + 1) ki kd := tk_ch_tr g413 (fun a9 h9 k9 => hF.z h9 (by rw [k9]; rfl)) (fun i9 => hF.r hcmds (by rw [kcmds]; rfl))
                  have g453 : y334 = q_r f417 cmds (Int.toNat kc) := tk_nz_tr g414 (fun i9 => hF.r hcmds (by rw [kcmds]; rfl))
                  subst qy418
                  obtain ⟨x454, ex454⟩ : ∃ zz, q_is (q_z f417 so 8) zz := ⟨_, q_isr _⟩
                  obtain ⟨lx454, ux454⟩ := q_isb ex454 (q_fib hB.2.1 hso kso (by decide) rfl)
                  obtain ⟨-, l0x454, u0x454, -, -⟩ := tk_tc_n g441 ex454
                  refine q_ifeq (tgt := 123) cx ⟨by decide, by decide⟩ dX7_readCommand_116 (by decide) (fun c455 => ?_) (fun c455 => ?_)
                  · refine q_iconst cx dX7_readCommand_123 ?_
                    refine W.widen (k := 0) (n := 0) (by decide) (by decide) ?_
                    refine vx_ret ?_
                    refine q_zret cx hr hlk hB dX7_readCommand_124 (by decide) (by decide) ?_
                    exact (Or.inr ⟨rfl, (tk_cd_ce t326 (by omega) (by omega) (by omega) (by omega) (Eq.trans (Eq.symm ex391) t375) (tk_okx t401 ex415) t440), g441⟩)
                  · exact absurd c455 (by omega)
            · obtain ⟨qy395, t456, g457⟩ := h398
              have z458 : q_is (q_z f394 so 1) tn := Eq.trans (hF.z hso (by rw [kso]; rfl)) z377
              have z459 : q_is (q_z f394 scr 3) ki := Eq.trans (hF.z hscr (by rw [kscr]; rfl)) z380
              have z460 : q_is (q_z f394 scr 4) kd := Eq.trans (hF.z hscr (by rw [kscr]; rfl)) z381
              have z461 : q_is (q_z f394 y334 0) y323 := Eq.trans (hF.z hy334 (by rw [ky334]; rfl)) z382
              have z462 : q_is (q_z f394 scr 1) (kc + 1) := Eq.trans (hF.z hscr (by rw [kscr]; rfl)) z383
              have z463 : q_ir (q_r f394 so 0) ba := Eq.trans (hF.r hso (by rw [kso]; rfl)) z384
              have z464 : q_ir (q_r f394 now 0) ndn := Eq.trans (hF.r hnow (by rw [know]; rfl)) z385
              have z465 : q_ir (q_r f394 scr 0) cmds := Eq.trans (hF.r hscr (by rw [kscr]; rfl)) z386
              have g466 : tk_tb f394 ba B tn := tk_tb_tr g387 (fun i9 => hF.z hba (by rw [kba]; rfl))
              have g467 : tk_vn K L 5 f394 now ndn nl9 := tk_vn_tr g388 (hF.z hnow (by rw [know]; rfl)) (fun a9 h9 k9 => hF.j h9 (by rw [k9]; rfl)) (fun i9 => hF.r hndn (by rw [kndn]; rfl))
              have g468 : tk_ch K L f394 cmds (kc + 1) ki kd := tk_ch_tr g393 (fun a9 h9 k9 => hF.z h9 (by rw [k9]; rfl)) (fun i9 => hF.r hcmds (by rw [kcmds]; rfl))
              have g469 : y334 = q_r f394 cmds (Int.toNat kc) := tk_nz_tr g390 (fun i9 => hF.r hcmds (by rw [kcmds]; rfl))
              subst qy395
              obtain ⟨x470, ex470⟩ : ∃ zz, q_is (q_z f394 so 8) zz := ⟨_, q_isr _⟩
              obtain ⟨lx470, ux470⟩ := q_isb ex470 (q_fib hB.2.1 hso kso (by decide) rfl)
              obtain ⟨-, l0x470, u0x470, -, -⟩ := tk_tc_n g457 ex470
              refine q_ifeq (tgt := 123) cx ⟨by decide, by decide⟩ dX7_readCommand_106 (by decide) (fun c471 => ?_) (fun c471 => ?_)
              · refine q_iconst cx dX7_readCommand_123 ?_
                refine W.widen (k := 0) (n := 0) (by decide) (by decide) ?_
                refine vx_ret ?_
                refine q_zret cx hr hlk hB dX7_readCommand_124 (by decide) (by decide) ?_
                exact (Or.inr ⟨rfl, (tk_cd_e (tk_cm_er t326 (by omega) (by omega) (by omega) (Eq.trans (Eq.symm ex391) t375) (tk_rd_e (by omega) t456))), g457⟩)
              · exact absurd c471 (by omega)
          · exact absurd c392 (by omega)
        · refine q_ald_n cx dX7_readCommand_48 rfl (lv_at hl 2 rfl) ?_
          refine q_iconst cx dX7_readCommand_49 ?_
          refine q_cVi (As := [.int (q_i 5)]) (rest := []) cx hB (fun _ h => h) hN hso kso (by decide) rfl (f_fail l g hN hB.2.1 B so hso kso 5 (by decide) (by decide) ba hba kba tn (by omega) (by omega) ss (by omega) (by omega) hf0 hf1 hr0 htc htb) q_cX7_49 q_dX8_fail (by decide) rfl rfl hl.1 rfl (Nat.le_of_ble_eq_true rfl) dX7_readCommand_50 (fun y473 H locs f472 ry473 h474 hF hB => ?_)
          obtain ⟨qy473, z475, z476⟩ := h474
          have z477 : q_is (q_z f472 so 1) tn := Eq.trans (hF.z hso (by rw [kso]; rfl)) hf0
          have z478 : q_is (q_z f472 so 8) ss := Eq.trans (hF.z hso (by rw [kso]; rfl)) hf1
          have z479 : q_is (q_z f472 scr 1) kc := Eq.trans (hF.z hscr (by rw [kscr]; rfl)) hf4
          have z480 : q_is (q_z f472 scr 3) ki := Eq.trans (hF.z hscr (by rw [kscr]; rfl)) hf5
          have z481 : q_is (q_z f472 scr 4) kd := Eq.trans (hF.z hscr (by rw [kscr]; rfl)) hf6
          have z482 : q_ir (q_r f472 so 0) ba := Eq.trans (hF.r hso (by rw [kso]; rfl)) hr0
          have z483 : q_ir (q_r f472 now 0) ndn := Eq.trans (hF.r hnow (by rw [know]; rfl)) hr1
          have z484 : q_ir (q_r f472 scr 0) cmds := Eq.trans (hF.r hscr (by rw [kscr]; rfl)) hr2
          have g485 : tk_tc f472 so B tn := tk_tc_tr htc (hF.z hso (by rw [kso]; rfl)) (hF.z hso (by rw [kso]; rfl)) (hF.z hso (by rw [kso]; rfl)) (hF.j hso (by rw [kso]; rfl)) (hF.z hso (by rw [kso]; rfl))
          have g486 : tk_tb f472 ba B tn := tk_tb_tr htb (fun i9 => hF.z hba (by rw [kba]; rfl))
          have g487 : tk_vn K L 5 f472 now ndn nl9 := tk_vn_tr hvn (hF.z hnow (by rw [know]; rfl)) (fun a9 h9 k9 => hF.j h9 (by rw [k9]; rfl)) (fun i9 => hF.r hndn (by rw [kndn]; rfl))
          have g488 : tk_ch K L f472 cmds kc ki kd := tk_ch_tr hch (fun a9 h9 k9 => hF.z h9 (by rw [k9]; rfl)) (fun i9 => hF.r hcmds (by rw [kcmds]; rfl))
          subst qy473
          refine W.widen (k := 0) (n := 0) (by decide) (by decide) ?_
          refine vx_ret ?_
          refine q_zret cx hr hlk hB dX7_readCommand_53 (by decide) (by decide) ?_
          exact (Or.inr ⟨rfl, (tk_cd_e (tk_cm_e5 t326 (by omega) (by omega) (by omega) z475 z476)), g485⟩)
      · refine q_ald_n cx dX7_readCommand_22 rfl (lv_at hl 1 rfl) ?_
        refine q_gX7_25 cx hB hscr kscr hf6 dX7_readCommand_23 (fun lb489 ub489 => ?_)
        refine q_iconst cx dX7_readCommand_26 ?_
        refine q_iclt (tgt := 36) cx ⟨by omega, by omega⟩ ⟨by decide, by decide⟩ dX7_readCommand_27 (by decide) (fun c490 => ?_) (fun c490 => ?_)
        · refine q_ald_n cx dX7_readCommand_36 rfl (lv_at hl 1 rfl) ?_
          refine q_gX7_18 cx hB hscr kscr hf4 dX7_readCommand_37 (fun lb491 ub491 => ?_)
          refine q_ald_n cx dX7_readCommand_40 rfl (lv_at hl 1 rfl) ?_
          refine q_gX7_13 cx hB hscr kscr hr2 dX7_readCommand_41 (fun hb492 kb492 => ?_)
          refine q_alen (n := 30) cx hB hcmds kcmds (by decide) rfl 4 rfl rfl dX7_readCommand_44 ?_
          refine q_iclt (tgt := 54) cx ⟨by omega, by omega⟩ ⟨by decide, by decide⟩ dX7_readCommand_45 (by decide) (fun c493 => ?_) (fun c493 => ?_)
          · refine q_ald_n cx dX7_readCommand_54 rfl (lv_at hl 1 rfl) ?_
            refine q_ald_n cx dX7_readCommand_55 rfl (lv_at hl 1 rfl) ?_
            refine q_gX7_18 cx hB hscr kscr hf4 dX7_readCommand_56 (fun lb494 ub494 => ?_)
            refine q_cVr (As := [.int (q_i kc)]) (rest := []) cx hB (fun _ h => h) hN hscr kscr (by decide) rfl (f_commandAt l g hN hB.2.1 scr hscr kscr kc (by omega) (by omega) cmds hcmds kcmds hr2) q_cX7_74 q_dX7_commandAt (by decide) rfl rfl hl.1 rfl (Nat.le_of_ble_eq_true rfl) dX7_readCommand_59 (fun y496 H locs f495 h497 hF hB => ?_)
            obtain ⟨rfl, hy496, ky496, t498⟩ := h497
            refine lv_astore (lv' := [(4, .ref y496), (3, .int (q_i y323)), (0, .ref scr), (1, .ref so), (2, .ref now)]) cx.1 cx.2.1 dX7_readCommand_62 hl (by decide) rfl (fun ls hl => ?_)
            refine lv_aload cx.1 cx.2.1 dX7_readCommand_64 (lv_at hl 0 rfl) ?_
            refine q_ild_n cx dX7_readCommand_66 rfl (lv_at hl 1 rfl) ?_
            refine q_pX7_78 cx hB hy496 ky496 ⟨by omega, by omega⟩ (by omega) (by omega) rfl dX7_readCommand_67 (fun H locs f499 ef499 z500 hB => ?_)
            have z501 : q_is (q_z f499 so 1) tn := by rw [ef499, q_setz (Or.inr (by decide))]; exact hf0
            have z502 : q_is (q_z f499 so 8) ss := by rw [ef499, q_setz (Or.inr (by decide))]; exact hf1
            have z503 : q_is (q_z f499 so 2) 0 := by rw [ef499, q_setz (Or.inr (by decide))]; exact hf2
            have z504 : q_is (q_z f499 so 3) (-1) := by rw [ef499, q_setz (Or.inr (by decide))]; exact hf3
            have z505 : q_is (q_z f499 scr 1) kc := by rw [ef499, q_setz (Or.inr (by decide))]; exact hf4
            have z506 : q_is (q_z f499 scr 3) ki := by rw [ef499, q_setz (Or.inr (by decide))]; exact hf5
            have z507 : q_is (q_z f499 scr 4) kd := by rw [ef499, q_setz (Or.inr (by decide))]; exact hf6
            have z508 : q_ir (q_r f499 so 0) ba := by rw [ef499, q_setr (Or.inl (fun q => by rw [q, ky496] at kso; exact absurd kso (by decide)))]; exact hr0
            have z509 : q_ir (q_r f499 now 0) ndn := by rw [ef499, q_setr (Or.inl (fun q => by rw [q, ky496] at know; exact absurd know (by decide)))]; exact hr1
            have z510 : q_ir (q_r f499 scr 0) cmds := by rw [ef499, q_setr (Or.inl (fun q => by rw [q, ky496] at kscr; exact absurd kscr (by decide)))]; exact hr2
            have g511 : tk_tc f499 so B tn := tk_tc_tr htc (by rw [ef499, q_setz (Or.inr (by decide))]) (by rw [ef499, q_setz (Or.inr (by decide))]) (by rw [ef499, q_setz (Or.inr (by decide))]) (by rw [ef499, q_setj (Or.inr (by decide))]) (by rw [ef499, q_setz (Or.inr (by decide))])
            have g512 : tk_tb f499 ba B tn := tk_tb_tr htb (fun i9 => by rw [ef499, q_setz (Or.inl (fun q => by rw [q, ky496] at kba; exact absurd kba (by decide)))])
            have g513 : tk_vn K L 5 f499 now ndn nl9 := tk_vn_tr hvn (by rw [ef499, q_setz (Or.inr (by decide))]) (fun a9 h9 k9 => by rw [ef499, q_setj (Or.inl (fun q => by rw [q, ky496] at k9; exact absurd k9 (by decide)))]) (fun i9 => by rw [ef499, q_setr (Or.inl (fun q => by rw [q, ky496] at kndn; exact absurd kndn (by decide)))])
            have g514 : tk_ch K L f499 cmds kc ki kd := tk_ch_tr hch (fun a9 h9 k9 => by rw [ef499, q_setz (Or.inr (by decide))]) (fun i9 => by rw [ef499, q_setr (Or.inl (fun q => by rw [q, ky496] at kcmds; exact absurd kcmds (by decide)))])
            have g515 : y496 = q_r f499 cmds (Int.toNat kc) := tk_nz_tr t498 (fun i9 => by rw [ef499, q_setr (Or.inl (fun q => by rw [q, ky496] at kcmds; exact absurd kcmds (by decide)))])
            refine q_ald_n cx dX7_readCommand_70 rfl (lv_at hl 2 rfl) ?_
            refine lv_dup cx.1 cx.2.1 dX7_readCommand_71 rfl ?_
            refine q_gX7_18 cx hB hscr kscr z505 dX7_readCommand_72 (fun lb516 ub516 => ?_)
            refine q_iconst cx dX7_readCommand_75 ?_
            refine q_iadd cx dX7_readCommand_76 ?_
            refine q_pX7_18 cx hB hscr kscr ⟨by omega, by omega⟩ (by omega) (by omega) rfl dX7_readCommand_77 (fun H locs f517 ef517 z518 hB => ?_)
            have z519 : q_is (q_z f517 so 1) tn := by rw [ef517, q_setz (Or.inl (fun q => by rw [q, kscr] at kso; exact absurd kso (by decide)))]; exact z501
            have z520 : q_is (q_z f517 so 8) ss := by rw [ef517, q_setz (Or.inr (by decide))]; exact z502
            have z521 : q_is (q_z f517 so 2) 0 := by rw [ef517, q_setz (Or.inr (by decide))]; exact z503
            have z522 : q_is (q_z f517 so 3) (-1) := by rw [ef517, q_setz (Or.inr (by decide))]; exact z504
            have z523 : q_is (q_z f517 scr 3) ki := by rw [ef517, q_setz (Or.inr (by decide))]; exact z506
            have z524 : q_is (q_z f517 scr 4) kd := by rw [ef517, q_setz (Or.inr (by decide))]; exact z507
            have z525 : q_is (q_z f517 y496 0) y323 := by rw [ef517, q_setz (Or.inr (by decide))]; exact z500
            have z526 : q_ir (q_r f517 so 0) ba := by rw [ef517, q_setr (Or.inr (by decide))]; exact z508
            have z527 : q_ir (q_r f517 now 0) ndn := by rw [ef517, q_setr (Or.inr (by decide))]; exact z509
            have z528 : q_ir (q_r f517 scr 0) cmds := by rw [ef517, q_setr (Or.inr (by decide))]; exact z510
            have g529 : tk_tc f517 so B tn := tk_tc_tr g511 (by rw [ef517, q_setz (Or.inr (by decide))]) (by rw [ef517, q_setz (Or.inr (by decide))]) (by rw [ef517, q_setz (Or.inr (by decide))]) (by rw [ef517, q_setj (Or.inr (by decide))]) (by rw [ef517, q_setz (Or.inr (by decide))])
            have g530 : tk_tb f517 ba B tn := tk_tb_tr g512 (fun i9 => by rw [ef517, q_setz (Or.inl (fun q => by rw [q, kscr] at kba; exact absurd kba (by decide)))])
            have g531 : tk_vn K L 5 f517 now ndn nl9 := tk_vn_tr g513 (by rw [ef517, q_setz (Or.inr (by decide))]) (fun a9 h9 k9 => by rw [ef517, q_setj (Or.inl (fun q => by rw [q, kscr] at k9; exact absurd k9 (by decide)))]) (fun i9 => by rw [ef517, q_setr (Or.inl (fun q => by rw [q, kscr] at kndn; exact absurd kndn (by decide)))])
            have g532 : tk_ch K L f517 cmds kc ki kd := tk_ch_tr g514 (fun a9 h9 k9 => by rw [ef517, q_setz (Or.inl (fun q => by rw [q, kscr] at k9; exact absurd k9 (by decide)))]) (fun i9 => by rw [ef517, q_setr (Or.inl (fun q => by rw [q, kscr] at kcmds; exact absurd kcmds (by decide)))])
            have g533 : y496 = q_r f517 cmds (Int.toNat kc) := tk_nz_tr g515 (fun i9 => by rw [ef517, q_setr (Or.inl (fun q => by rw [q, kscr] at kcmds; exact absurd kcmds (by decide)))])
            refine q_ald_n cx dX7_readCommand_80 rfl (lv_at hl 3 rfl) ?_
            refine q_cVv (As := []) (rest := []) cx hB (fun _ h => h) hN hso kso (by decide) rfl (f_adv l g hN hB.2.1 B so hso kso ba hba kba tn (by omega) (by omega) ss (by omega) (by omega) z519 z520 z526 g529 g530) q_cX7_81 q_dX8_advance (by decide) rfl rfl hl.1 rfl (Nat.le_of_ble_eq_true rfl) dX7_readCommand_81 (fun H locs f534 h536 hF hB => ?_)
            obtain ⟨t537, g538⟩ := h536
            have z539 : q_is (q_z f534 so 1) tn := Eq.trans (hF.z hso (by rw [kso]; rfl)) z519
            have z540 : q_is (q_z f534 so 2) 0 := Eq.trans (hF.z hso (by rw [kso]; rfl)) z521
            have z541 : q_is (q_z f534 so 3) (-1) := Eq.trans (hF.z hso (by rw [kso]; rfl)) z522
            have z542 : q_is (q_z f534 scr 3) ki := Eq.trans (hF.z hscr (by rw [kscr]; rfl)) z523
            have z543 : q_is (q_z f534 scr 4) kd := Eq.trans (hF.z hscr (by rw [kscr]; rfl)) z524
            have z544 : q_is (q_z f534 y496 0) y323 := Eq.trans (hF.z hy496 (by rw [ky496]; rfl)) z525
            have z545 : q_is (q_z f534 scr 1) (kc + 1) := Eq.trans (hF.z hscr (by rw [kscr]; rfl)) z518
            have z546 : q_ir (q_r f534 so 0) ba := Eq.trans (hF.r hso (by rw [kso]; rfl)) z526
            have z547 : q_ir (q_r f534 now 0) ndn := Eq.trans (hF.r hnow (by rw [know]; rfl)) z527
            have z548 : q_ir (q_r f534 scr 0) cmds := Eq.trans (hF.r hscr (by rw [kscr]; rfl)) z528
            have g549 : tk_tb f534 ba B tn := tk_tb_tr g530 (fun i9 => hF.z hba (by rw [kba]; rfl))
            have g550 : tk_vn K L 5 f534 now ndn nl9 := tk_vn_tr g531 (hF.z hnow (by rw [know]; rfl)) (fun a9 h9 k9 => hF.j h9 (by rw [k9]; rfl)) (fun i9 => hF.r hndn (by rw [kndn]; rfl))
            have g551 : tk_ch K L f534 cmds kc ki kd := tk_ch_tr g532 (fun a9 h9 k9 => hF.z h9 (by rw [k9]; rfl)) (fun i9 => hF.r hcmds (by rw [kcmds]; rfl))
            have g552 : y496 = q_r f534 cmds (Int.toNat kc) := tk_nz_tr g533 (fun i9 => hF.r hcmds (by rw [kcmds]; rfl))
            obtain ⟨x553, ex553⟩ : ∃ zz, q_is (q_z f534 so 8) zz := ⟨_, q_isr _⟩
            obtain ⟨lx553, ux553⟩ := q_isb ex553 (q_fib hB.2.1 hso kso (by decide) rfl)
            obtain ⟨-, l0x553, u0x553, -, -⟩ := tk_tc_n g538 ex553
            refine q_ild_n cx dX7_readCommand_84 rfl (lv_at hl 1 rfl) ?_
            refine q_bipush cx dX7_readCommand_85 rfl ?_
            refine q_icne (tgt := 98) cx ⟨by omega, by omega⟩ ⟨by decide, by decide⟩ dX7_readCommand_87 (by decide) (fun c554 => ?_) (fun c554 => ?_)
            · exact absurd c554 (by omega)
            · refine q_ald_n cx dX7_readCommand_90 rfl (lv_at hl 2 rfl) ?_
              refine q_ald_n cx dX7_readCommand_91 rfl (lv_at hl 3 rfl) ?_
              refine lv_aload cx.1 cx.2.1 dX7_readCommand_92 (lv_at hl 0 rfl) ?_
              refine q_cVi (As := [.ref so, .ref y496]) (rest := []) cx hB (fun _ h => h) hN hscr kscr (by decide) rfl (f_openRepeat l g hN hB.2.1 B scr hscr kscr so hso kso y496 hy496 ky496 ba hba kba tn (by omega) (by omega) x553 (by omega) (by omega) (kc + 1) (by omega) (by omega) ki (by omega) (by omega) kd (by omega) (by omega) z539 ex553 z540 z541 z545 z542 z543 z546 g538 g549) q_cX7_84 q_dX7_openRepeat (by decide) rfl rfl hl.1 rfl (Nat.le_of_ble_eq_true rfl) dX7_readCommand_94 (fun y556 H locs f555 ry556 h557 hF hB => ?_)
              rcases h557 with h558 | h559
              · obtain ⟨qy556, z560, z561, z562, z563, z564, z565, t566, t567, g568⟩ := h558
                have z569 : q_is (q_z f555 so 1) tn := Eq.trans (hF.z hso (by rw [kso]; rfl)) z539
                have z570 : q_is (q_z f555 y496 0) y323 := Eq.trans (hF.z hy496 (by rw [ky496]; rfl)) z544
                have z571 : q_is (q_z f555 scr 1) (kc + 1) := Eq.trans (hF.z hscr (by rw [kscr]; rfl)) z545
                have z572 : q_ir (q_r f555 so 0) ba := Eq.trans (hF.r hso (by rw [kso]; rfl)) z546
                have z573 : q_ir (q_r f555 now 0) ndn := Eq.trans (hF.r hnow (by rw [know]; rfl)) z547
                have z574 : q_ir (q_r f555 scr 0) cmds := Eq.trans (hF.r hscr (by rw [kscr]; rfl)) z548
                have g575 : tk_tb f555 ba B tn := tk_tb_tr g549 (fun i9 => hF.z hba (by rw [kba]; rfl))
                have g576 : tk_vn K L 5 f555 now ndn nl9 := tk_vn_tr g550 (hF.z hnow (by rw [know]; rfl)) (fun a9 h9 k9 => hF.j h9 (by rw [k9]; rfl)) (fun i9 => hF.r hndn (by rw [kndn]; rfl))
                have g577 : y496 = q_r f555 cmds (Int.toNat kc) := tk_nz_tr g552 (fun i9 => hF.r hcmds (by rw [kcmds]; rfl))
                subst qy556
                obtain ⟨x578, ex578⟩ : ∃ zz, q_is (q_z f555 so 8) zz := ⟨_, q_isr _⟩
                obtain ⟨lx578, ux578⟩ := q_isb ex578 (q_fib hB.2.1 hso kso (by decide) rfl)
                obtain ⟨-, l0x578, u0x578, -, -⟩ := tk_tc_n g568 ex578
                have g579 : tk_ch K L f555 cmds (kc + 1) ((kc + 1) - 1) (kd + 1) := tk_ch_open g551 (by omega) (by omega) g552 z565 t567 (fun i9 => hF.r hcmds (by rw [kcmds]; rfl)) (by omega) (by omega) (by omega)
                refine W.widen (k := 0) (n := 0) (by decide) (by decide) ?_
                refine vx_ret ?_
                refine q_zret cx hr hlk hB dX7_readCommand_97 (by decide) (by decide) ?_
                exact (Or.inl ⟨rfl, z560, z561, z562, (q_isl z563 (by omega)), (q_isu z563 (by omega)), (q_isl z564 (by omega)), (q_isu z564 (by omega)), (tk_xok (tk_cd_6 (tk_cm_go t326 (by omega) (by omega) (by omega) (Eq.trans (Eq.symm ex553) t537) (tk_rd_6 (by omega) (tk_okx t566 ex578)) (tk_if6 (by omega)) rfl) (by omega)) ex578 (Eq.trans z564 (by omega)) (Eq.trans z562 (by omega))), (tk_ch_w g579 (Eq.trans z562 (by omega)) (Eq.trans z563 (by omega)) (Eq.trans z564 (by omega))), (by omega), g568⟩)
              · obtain ⟨qy556, t580, g581⟩ := h559
                have z582 : q_is (q_z f555 so 1) tn := Eq.trans (hF.z hso (by rw [kso]; rfl)) z539
                have z583 : q_is (q_z f555 y496 0) y323 := Eq.trans (hF.z hy496 (by rw [ky496]; rfl)) z544
                have z584 : q_is (q_z f555 scr 1) (kc + 1) := Eq.trans (hF.z hscr (by rw [kscr]; rfl)) z545
                have z585 : q_ir (q_r f555 so 0) ba := Eq.trans (hF.r hso (by rw [kso]; rfl)) z546
                have z586 : q_ir (q_r f555 now 0) ndn := Eq.trans (hF.r hnow (by rw [know]; rfl)) z547
                have z587 : q_ir (q_r f555 scr 0) cmds := Eq.trans (hF.r hscr (by rw [kscr]; rfl)) z548
                have g588 : tk_tb f555 ba B tn := tk_tb_tr g549 (fun i9 => hF.z hba (by rw [kba]; rfl))
                have g589 : tk_vn K L 5 f555 now ndn nl9 := tk_vn_tr g550 (hF.z hnow (by rw [know]; rfl)) (fun a9 h9 k9 => hF.j h9 (by rw [k9]; rfl)) (fun i9 => hF.r hndn (by rw [kndn]; rfl))
                have g590 : y496 = q_r f555 cmds (Int.toNat kc) := tk_nz_tr g552 (fun i9 => hF.r hcmds (by rw [kcmds]; rfl))
                subst qy556
                obtain ⟨x591, ex591⟩ : ∃ zz, q_is (q_z f555 so 8) zz := ⟨_, q_isr _⟩
                obtain ⟨lx591, ux591⟩ := q_isb ex591 (q_fib hB.2.1 hso kso (by decide) rfl)
                obtain ⟨-, l0x591, u0x591, -, -⟩ := tk_tc_n g581 ex591
                refine W.widen (k := 0) (n := 0) (by decide) (by decide) ?_
                refine vx_ret ?_
                refine q_zret cx hr hlk hB dX7_readCommand_97 (by decide) (by decide) ?_
                exact (Or.inr ⟨rfl, (tk_cd_e (tk_cm_er t326 (by omega) (by omega) (by omega) (Eq.trans (Eq.symm ex553) t537) (tk_rd_6 (by omega) t580))), g581⟩)
          · refine q_ald_n cx dX7_readCommand_48 rfl (lv_at hl 2 rfl) ?_
            refine q_iconst cx dX7_readCommand_49 ?_
            refine q_cVi (As := [.int (q_i 5)]) (rest := []) cx hB (fun _ h => h) hN hso kso (by decide) rfl (f_fail l g hN hB.2.1 B so hso kso 5 (by decide) (by decide) ba hba kba tn (by omega) (by omega) ss (by omega) (by omega) hf0 hf1 hr0 htc htb) q_cX7_49 q_dX8_fail (by decide) rfl rfl hl.1 rfl (Nat.le_of_ble_eq_true rfl) dX7_readCommand_50 (fun y593 H locs f592 ry593 h594 hF hB => ?_)
            obtain ⟨qy593, z595, z596⟩ := h594
            have z597 : q_is (q_z f592 so 1) tn := Eq.trans (hF.z hso (by rw [kso]; rfl)) hf0
            have z598 : q_is (q_z f592 so 8) ss := Eq.trans (hF.z hso (by rw [kso]; rfl)) hf1
            have z599 : q_is (q_z f592 scr 1) kc := Eq.trans (hF.z hscr (by rw [kscr]; rfl)) hf4
            have z600 : q_is (q_z f592 scr 3) ki := Eq.trans (hF.z hscr (by rw [kscr]; rfl)) hf5
            have z601 : q_is (q_z f592 scr 4) kd := Eq.trans (hF.z hscr (by rw [kscr]; rfl)) hf6
            have z602 : q_ir (q_r f592 so 0) ba := Eq.trans (hF.r hso (by rw [kso]; rfl)) hr0
            have z603 : q_ir (q_r f592 now 0) ndn := Eq.trans (hF.r hnow (by rw [know]; rfl)) hr1
            have z604 : q_ir (q_r f592 scr 0) cmds := Eq.trans (hF.r hscr (by rw [kscr]; rfl)) hr2
            have g605 : tk_tc f592 so B tn := tk_tc_tr htc (hF.z hso (by rw [kso]; rfl)) (hF.z hso (by rw [kso]; rfl)) (hF.z hso (by rw [kso]; rfl)) (hF.j hso (by rw [kso]; rfl)) (hF.z hso (by rw [kso]; rfl))
            have g606 : tk_tb f592 ba B tn := tk_tb_tr htb (fun i9 => hF.z hba (by rw [kba]; rfl))
            have g607 : tk_vn K L 5 f592 now ndn nl9 := tk_vn_tr hvn (hF.z hnow (by rw [know]; rfl)) (fun a9 h9 k9 => hF.j h9 (by rw [k9]; rfl)) (fun i9 => hF.r hndn (by rw [kndn]; rfl))
            have g608 : tk_ch K L f592 cmds kc ki kd := tk_ch_tr hch (fun a9 h9 k9 => hF.z h9 (by rw [k9]; rfl)) (fun i9 => hF.r hcmds (by rw [kcmds]; rfl))
            subst qy593
            refine W.widen (k := 0) (n := 0) (by decide) (by decide) ?_
            refine vx_ret ?_
            refine q_zret cx hr hlk hB dX7_readCommand_53 (by decide) (by decide) ?_
            exact (Or.inr ⟨rfl, (tk_cd_e (tk_cm_e5 t326 (by omega) (by omega) (by omega) z595 z596)), g605⟩)
        · refine q_ald_n cx dX7_readCommand_30 rfl (lv_at hl 2 rfl) ?_
          refine q_iconst cx dX7_readCommand_31 ?_
          refine q_cVi (As := [.int (q_i 3)]) (rest := []) cx hB (fun _ h => h) hN hso kso (by decide) rfl (f_fail l g hN hB.2.1 B so hso kso 3 (by decide) (by decide) ba hba kba tn (by omega) (by omega) ss (by omega) (by omega) hf0 hf1 hr0 htc htb) q_cX7_49 q_dX8_fail (by decide) rfl rfl hl.1 rfl (Nat.le_of_ble_eq_true rfl) dX7_readCommand_32 (fun y610 H locs f609 ry610 h611 hF hB => ?_)
          obtain ⟨qy610, z612, z613⟩ := h611
          have z614 : q_is (q_z f609 so 1) tn := Eq.trans (hF.z hso (by rw [kso]; rfl)) hf0
          have z615 : q_is (q_z f609 so 8) ss := Eq.trans (hF.z hso (by rw [kso]; rfl)) hf1
          have z616 : q_is (q_z f609 scr 1) kc := Eq.trans (hF.z hscr (by rw [kscr]; rfl)) hf4
          have z617 : q_is (q_z f609 scr 3) ki := Eq.trans (hF.z hscr (by rw [kscr]; rfl)) hf5
          have z618 : q_is (q_z f609 scr 4) kd := Eq.trans (hF.z hscr (by rw [kscr]; rfl)) hf6
          have z619 : q_ir (q_r f609 so 0) ba := Eq.trans (hF.r hso (by rw [kso]; rfl)) hr0
          have z620 : q_ir (q_r f609 now 0) ndn := Eq.trans (hF.r hnow (by rw [know]; rfl)) hr1
          have z621 : q_ir (q_r f609 scr 0) cmds := Eq.trans (hF.r hscr (by rw [kscr]; rfl)) hr2
          have g622 : tk_tc f609 so B tn := tk_tc_tr htc (hF.z hso (by rw [kso]; rfl)) (hF.z hso (by rw [kso]; rfl)) (hF.z hso (by rw [kso]; rfl)) (hF.j hso (by rw [kso]; rfl)) (hF.z hso (by rw [kso]; rfl))
          have g623 : tk_tb f609 ba B tn := tk_tb_tr htb (fun i9 => hF.z hba (by rw [kba]; rfl))
          have g624 : tk_vn K L 5 f609 now ndn nl9 := tk_vn_tr hvn (hF.z hnow (by rw [know]; rfl)) (fun a9 h9 k9 => hF.j h9 (by rw [k9]; rfl)) (fun i9 => hF.r hndn (by rw [kndn]; rfl))
          have g625 : tk_ch K L f609 cmds kc ki kd := tk_ch_tr hch (fun a9 h9 k9 => hF.z h9 (by rw [k9]; rfl)) (fun i9 => hF.r hcmds (by rw [kcmds]; rfl))
          subst qy610
          refine W.widen (k := 0) (n := 0) (by decide) (by decide) ?_
          refine vx_ret ?_
          refine q_zret cx hr hlk hB dX7_readCommand_35 (by decide) (by decide) ?_
          exact (Or.inr ⟨rfl, (tk_cd_e (tk_cm_e3 t326 (by omega) (by omega) z612 z613)), g622⟩)
    · refine q_ald_n cx dX7_readCommand_10 rfl (lv_at hl 2 rfl) ?_
      refine q_iconst cx dX7_readCommand_11 ?_
      refine q_cVi (As := [.int (q_i 1)]) (rest := []) cx hB (fun _ h => h) hN hso kso (by decide) rfl (f_fail l g hN hB.2.1 B so hso kso 1 (by decide) (by decide) ba hba kba tn (by omega) (by omega) ss (by omega) (by omega) hf0 hf1 hr0 htc htb) q_cX7_49 q_dX8_fail (by decide) rfl rfl hl.1 rfl (Nat.le_of_ble_eq_true rfl) dX7_readCommand_12 (fun y627 H locs f626 ry627 h628 hF hB => ?_)
      obtain ⟨qy627, z629, z630⟩ := h628
      have z631 : q_is (q_z f626 so 1) tn := Eq.trans (hF.z hso (by rw [kso]; rfl)) hf0
      have z632 : q_is (q_z f626 so 8) ss := Eq.trans (hF.z hso (by rw [kso]; rfl)) hf1
      have z633 : q_is (q_z f626 scr 1) kc := Eq.trans (hF.z hscr (by rw [kscr]; rfl)) hf4
      have z634 : q_is (q_z f626 scr 3) ki := Eq.trans (hF.z hscr (by rw [kscr]; rfl)) hf5
      have z635 : q_is (q_z f626 scr 4) kd := Eq.trans (hF.z hscr (by rw [kscr]; rfl)) hf6
      have z636 : q_ir (q_r f626 so 0) ba := Eq.trans (hF.r hso (by rw [kso]; rfl)) hr0
      have z637 : q_ir (q_r f626 now 0) ndn := Eq.trans (hF.r hnow (by rw [know]; rfl)) hr1
      have z638 : q_ir (q_r f626 scr 0) cmds := Eq.trans (hF.r hscr (by rw [kscr]; rfl)) hr2
      have g639 : tk_tc f626 so B tn := tk_tc_tr htc (hF.z hso (by rw [kso]; rfl)) (hF.z hso (by rw [kso]; rfl)) (hF.z hso (by rw [kso]; rfl)) (hF.j hso (by rw [kso]; rfl)) (hF.z hso (by rw [kso]; rfl))
      have g640 : tk_tb f626 ba B tn := tk_tb_tr htb (fun i9 => hF.z hba (by rw [kba]; rfl))
      have g641 : tk_vn K L 5 f626 now ndn nl9 := tk_vn_tr hvn (hF.z hnow (by rw [know]; rfl)) (fun a9 h9 k9 => hF.j h9 (by rw [k9]; rfl)) (fun i9 => hF.r hndn (by rw [kndn]; rfl))
      have g642 : tk_ch K L f626 cmds kc ki kd := tk_ch_tr hch (fun a9 h9 k9 => hF.z h9 (by rw [k9]; rfl)) (fun i9 => hF.r hcmds (by rw [kcmds]; rfl))
      subst qy627
      refine W.widen (k := 0) (n := 0) (by decide) (by decide) ?_
      refine vx_ret ?_
      refine q_zret cx hr hlk hB dX7_readCommand_15 (by decide) (by decide) ?_
      exact (Or.inr ⟨rfl, (tk_cd_e (tk_cm_e1 (Eq.trans t326 (by omega)) z629 z630)), g639⟩)
