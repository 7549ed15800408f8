set_option maxHeartbeats 4000000 in
set_option maxRecDepth 100000 in
theorem f_readAllS (l : Launch) (g : q_G) (ad : Nat → Nat) {K : Nat → Nat} {L : List Nat} (hN : L.Nodup) {f : Nat → va_E} (hT : q_Ty g K L f) (hfl : l.stackTraces = false) (B : Nat → Int) (nl9 : List (List Int)) (scr : Nat) (hscr : scr ∈ L) (kscr : K scr = 7) (so : Nat) (hso : so ∈ L) (kso : K so = 8) (now : Nat) (hnow : now ∈ L) (know : K now = 10) (ba : Nat) (hba : ba ∈ L) (kba : K ba = 142) (ndn : Nat) (hndn : ndn ∈ L) (kndn : K ndn = 110) (cmds : Nat) (hcmds : cmds ∈ L) (kcmds : K cmds = 141) (tn : Int) (ltn : 0 ≤ tn) (utn : tn ≤ 600) (hf0 : q_is (q_z f so 1) tn) (hr0 : q_ir (q_r f so 0) ba) (hr1 : q_ir (q_r f now 0) ndn) (hr2 : q_ir (q_r f scr 0) cmds) (htb : tk_tb f ba B tn) (hvn : tk_vn K L 5 f now ndn nl9) (hcj : tk_c3 K L f cmds) : q_Xt l g ad K L yX7_readAll cX7_readAll 5 (some .boolean) 7 151 0 0 [.ref scr, .ref so, .ref now] f [(0, 0, 5), (7, 1, 1), (7, 3, 4), (8, 2, 9)] (q_Pi (fun (z : Int) (f1 : Nat → va_E) => (z = 1 ∧ q_is (q_z f1 so 2) 0 ∧ q_is (q_z f1 so 3) (-1) ∧ (tk_U B tn nl9 (tk_S B tn 0) 0 0 = tk_ok 0)) ∨ (z = 0 ∧ (tk_U B tn nl9 (tk_S B tn 0) 0 0 = tk_er (q_z f1 so 2) (q_z f1 so 3))))) (fun (_ : String) (_ : Nat → va_E) => False) := by
  refine q_xofb (by decide +kernel) hN hT (Nat.le_of_ble_eq_true rfl) ?_
  intro p e s m below meth c ls cx hr hlk htab hX hB hl
  have hl : lv_has ls 5 [(0, .ref scr), (1, .ref so), (2, .ref now)] := hl
  have J21 : ∀ (n : Nat) (f21 : Nat → va_E) (v21_3 : Int) (lv21_3 : 0 ≤ v21_3) (uv21_3 : v21_3 ≤ 600) (w21_so_2 : Int) (lw21_so_2 : 0 ≤ w21_so_2) (uw21_so_2 : w21_so_2 ≤ 0) (w21_so_3 : Int) (lw21_so_3 : (-1) ≤ w21_so_3) (uw21_so_3 : w21_so_3 ≤ (-1)) (w21_scr_1 : Int) (lw21_scr_1 : 0 ≤ w21_scr_1) (uw21_scr_1 : w21_scr_1 ≤ 30) (w21_scr_3 : Int) (lw21_scr_3 : (-1) ≤ w21_scr_3) (uw21_scr_3 : w21_scr_3 ≤ 29) (w21_scr_4 : Int) (lw21_scr_4 : 0 ≤ w21_scr_4) (uw21_scr_4 : w21_scr_4 ≤ 2) (w21_so_8 : Int) (lw21_so_8 : 0 ≤ w21_so_8) (uw21_so_8 : w21_so_8 ≤ 600) (hj_so_1 : q_is (q_z f21 so 1) tn) (hj_so_2 : q_is (q_z f21 so 2) w21_so_2) (hj_so_3 : q_is (q_z f21 so 3) w21_so_3) (hj_scr_1 : q_is (q_z f21 scr 1) w21_scr_1) (hj_scr_3 : q_is (q_z f21 scr 3) w21_scr_3) (hj_scr_4 : q_is (q_z f21 scr 4) w21_scr_4) (hj_so_8 : q_is (q_z f21 so 8) w21_so_8) (hq_so_0 : q_ir (q_r f21 so 0) ba) (hq_now_0 : q_ir (q_r f21 now 0) ndn) (hq_scr_0 : q_ir (q_r f21 scr 0) cmds) (hcj21 : tk_c3 K L f21 cmds) (htb21 : tk_tb f21 ba B tn) (htc21 : tk_tc f21 so B tn) (hvn21 : tk_vn K L 5 f21 now ndn nl9) (hrl21_0 : 0 ≤ 1 * w21_so_8 + -1 * v21_3 + 0) (hrl21_1 : 0 ≤ 1 * tn + -1 * w21_so_8 + 0) (hal : tk_U B tn nl9 (tk_S B tn 0) 0 0 = tk_U B tn nl9 w21_so_8 w21_scr_4 w21_scr_1) (hch : tk_ch K L f21 cmds w21_scr_1 w21_scr_3 w21_scr_4) (hmu : (Int.toNat (2147483647 - v21_3)) < n) (H : Heap) (locs : List Loc) (hB : q_B g K L (fun q => q ∈ L) [(0, 0, 5), (7, 1, 1), (7, 3, 4), (8, 2, 9)] f f21 s H locs) (ls : Array Slot) (hl : lv_has ls 5 [(0, .ref scr), (1, .ref so), (2, .ref now), (3, .int (q_i v21_3))]), W p l e { frames := 7, cells := 0, slots := 0, locals := 151 } s m ([.ref scr, .ref so, .ref now] : List Value).toArray below meth c H locs 0 0 (vx_MQ below (q_Q g K L [(0, 0, 5), (7, 1, 1), (7, 3, 4), (8, 2, 9)] f (q_Pi (fun (z : Int) (f1 : Nat → va_E) => (z = 1 ∧ q_is (q_z f1 so 2) 0 ∧ q_is (q_z f1 so 3) (-1) ∧ (tk_U B tn nl9 (tk_S B tn 0) 0 0 = tk_ok 0)) ∨ (z = 0 ∧ (tk_U B tn nl9 (tk_S B tn 0) 0 0 = tk_er (q_z f1 so 2) (q_z f1 so 3)))))) (q_XC g K L [(0, 0, 5), (7, 1, 1), (7, 3, 4), (8, 2, 9)] f (fun (_ : String) (_ : Nat → va_E) => False)) ([.ref scr, .ref so, .ref now] : List Value).toArray s 0 0 (fun q => q ∈ L)) (F0 m 21 ls []) := by
    intro n
    induction n with
    | zero =>
      intro f21 v21_3 lv21_3 uv21_3 w21_so_2 lw21_so_2 uw21_so_2 w21_so_3 lw21_so_3 uw21_so_3 w21_scr_1 lw21_scr_1 uw21_scr_1 w21_scr_3 lw21_scr_3 uw21_scr_3 w21_scr_4 lw21_scr_4 uw21_scr_4 w21_so_8 lw21_so_8 uw21_so_8 hj_so_1 hj_so_2 hj_so_3 hj_scr_1 hj_scr_3 hj_scr_4 hj_so_8 hq_so_0 hq_now_0 hq_scr_0 hcj21 htb21 htc21 hvn21 hrl21_0 hrl21_1 hal hch hmu
      exact absurd hmu (Nat.not_lt_zero _)
    | succ n ih21 =>
      intro f21 v21_3 lv21_3 uv21_3 w21_so_2 lw21_so_2 uw21_so_2 w21_so_3 lw21_so_3 uw21_so_3 w21_scr_1 lw21_scr_1 uw21_scr_1 w21_scr_3 lw21_scr_3 uw21_scr_3 w21_scr_4 lw21_scr_4 uw21_scr_4 w21_so_8 lw21_so_8 uw21_so_8 hj_so_1 hj_so_2 hj_so_3 hj_scr_1 hj_scr_3 hj_scr_4 hj_so_8 hq_so_0 hq_now_0 hq_scr_0 hcj21 htb21 htc21 hvn21 hrl21_0 hrl21_1 hal hch hmu H locs hB ls hl
      refine q_ild_n cx dX7_readAll_21 rfl (lv_at hl 3 rfl) ?_
      have hci9 := tk_ch_is hch
      refine q_sipush cx dX7_readAll_22 rfl ?_
      refine q_icgt (tgt := 81) cx ⟨by omega, by omega⟩ ⟨by decide, by decide⟩ dX7_readAll_25 (by decide) (fun c4478 => ?_) (fun c4478 => ?_)
      · exact absurd c4478 (by omega)
      · refine q_ald_n cx dX7_readAll_28 rfl (lv_at hl 1 rfl) ?_
        refine q_cVi (As := []) (rest := []) cx hB (fun _ h => h) hN hso kso (by decide) rfl (f_isAtEnd l g hN hB.2.1 B so hso kso ba hba kba tn (by omega) (by omega) w21_so_8 (by omega) (by omega) hj_so_1 hj_so_8 hq_so_0 htc21 htb21) q_cX7_33 q_dX8_isAtEnd (by decide) rfl rfl hl.1 rfl (Nat.le_of_ble_eq_true rfl) dX7_readAll_29 (fun y4480 H locs f4479 ry4480 h4481 hF hB => ?_)
        rcases h4481 with h4482 | h4483
        · obtain ⟨rfl, qy4480, t4484⟩ := h4482
          subst qy4480
          refine q_ifne (tgt := 81) cx ⟨by decide, by decide⟩ dX7_readAll_32 (by decide) (fun c4485 => ?_) (fun c4485 => ?_)
          · refine q_ald_n cx dX7_readAll_81 rfl (lv_at hl 0 rfl) ?_
            refine q_gX7_22 cx hB hscr kscr hj_scr_3 dX7_readAll_82 (fun lb4486 ub4486 => ?_)
            refine q_iconst cx dX7_readAll_85 ?_
            refine q_iceq (tgt := 97) cx ⟨by omega, by omega⟩ ⟨by decide, by decide⟩ dX7_readAll_86 (by decide) (fun c4487 => ?_) (fun c4487 => ?_)
            · refine q_iconst cx dX7_readAll_97 ?_
              refine lv_goto (tgt := 102) cx.1 cx.2.1 dX7_readAll_98 (by decide) ?_
              refine W.widen (k := 0) (n := 0) (by decide) (by decide) ?_
              refine vx_ret ?_
              refine q_zret cx hr hlk hB dX7_readAll_102 (by decide) (by decide) ?_
              exact (Or.inl ⟨rfl, (Eq.trans hj_so_2 (by omega)), (Eq.trans hj_so_3 (by omega)), (hal.trans (tk_U_end t4484 (by omega)))⟩)
            · refine q_ald_n cx dX7_readAll_89 rfl (lv_at hl 1 rfl) ?_
              refine q_iconst cx dX7_readAll_90 ?_
              refine q_cVi (As := [.int (q_i 1)]) (rest := []) cx hB (fun _ h => h) hN hso kso (by decide) rfl (f_fail l g hN hB.2.1 B so hso kso 1 (by decide) (by decide) ba hba kba tn (by omega) (by omega) w21_so_8 (by omega) (by omega) hj_so_1 hj_so_8 hq_so_0 htc21 htb21) q_cX7_49 q_dX8_fail (by decide) rfl rfl hl.1 rfl (Nat.le_of_ble_eq_true rfl) dX7_readAll_91 (fun y4489 H locs f4488 ry4489 h4490 hF hB => ?_)
              obtain ⟨qy4489, z4491, z4492⟩ := h4490
              have z4493 : q_is (q_z f4488 so 1) tn := Eq.trans (hF.z hso (by rw [kso]; rfl)) hj_so_1
              have z4494 : q_is (q_z f4488 scr 1) w21_scr_1 := Eq.trans (hF.z hscr (by rw [kscr]; rfl)) hj_scr_1
              have z4495 : q_is (q_z f4488 scr 3) w21_scr_3 := Eq.trans (hF.z hscr (by rw [kscr]; rfl)) hj_scr_3
              have z4496 : q_is (q_z f4488 scr 4) w21_scr_4 := Eq.trans (hF.z hscr (by rw [kscr]; rfl)) hj_scr_4
              have z4497 : q_is (q_z f4488 so 8) w21_so_8 := Eq.trans (hF.z hso (by rw [kso]; rfl)) hj_so_8
              have z4498 : q_ir (q_r f4488 so 0) ba := Eq.trans (hF.r hso (by rw [kso]; rfl)) hq_so_0
              have z4499 : q_ir (q_r f4488 now 0) ndn := Eq.trans (hF.r hnow (by rw [know]; rfl)) hq_now_0
              have z4500 : q_ir (q_r f4488 scr 0) cmds := Eq.trans (hF.r hscr (by rw [kscr]; rfl)) hq_scr_0
              have g4501 : tk_tb f4488 ba B tn := tk_tb_tr htb21 (fun i9 => hF.z hba (by rw [kba]; rfl))
              have g4502 : tk_vn K L 5 f4488 now ndn nl9 := tk_vn_tr hvn21 (hF.z hnow (by rw [know]; rfl)) (fun a9 h9 k9 => hF.j h9 (by rw [k9]; rfl)) (fun i9 => hF.r hndn (by rw [kndn]; rfl))
              have g4503 : tk_c3 K L f4488 cmds := tk_c3_tr hcj21 (fun i9 => hF.r hcmds (by rw [kcmds]; rfl))
              have g4504 : tk_tc f4488 so B tn := tk_tc_tr htc21 (hF.z hso (by rw [kso]; rfl)) (hF.z hso (by rw [kso]; rfl)) (hF.z hso (by rw [kso]; rfl)) (hF.j hso (by rw [kso]; rfl)) (hF.z hso (by rw [kso]; rfl))
              have g4505 : tk_ch K L f4488 cmds w21_scr_1 w21_scr_3 w21_scr_4 := tk_ch_tr hch (fun a9 h9 k9 => hF.z h9 (by rw [k9]; rfl)) (fun i9 => hF.r hcmds (by rw [kcmds]; rfl))
              subst qy4489
              refine q_ifeq (tgt := 101) cx ⟨by decide, by decide⟩ dX7_readAll_94 (by decide) (fun c4506 => ?_) (fun c4506 => ?_)
              · refine q_iconst cx dX7_readAll_101 ?_
                refine W.widen (k := 0) (n := 0) (by decide) (by decide) ?_
                refine vx_ret ?_
                refine q_zret cx hr hlk hB dX7_readAll_102 (by decide) (by decide) ?_
                exact (Or.inr ⟨rfl, (hal.trans (tk_U_open t4484 (by omega) z4491 z4492))⟩)
              · exact absurd c4506 (by omega)
          · exact absurd c4485 (by omega)
        · obtain ⟨rfl, qy4480, t4507⟩ := h4483
          subst qy4480
          refine q_ifne (tgt := 81) cx ⟨by decide, by decide⟩ dX7_readAll_32 (by decide) (fun c4508 => ?_) (fun c4508 => ?_)
          · exact absurd c4508 (by omega)
          · refine q_ald_n cx dX7_readAll_35 rfl (lv_at hl 0 rfl) ?_
            refine q_gX7_22 cx hB hscr kscr hj_scr_3 dX7_readAll_36 (fun lb4509 ub4509 => ?_)
            refine q_iconst cx dX7_readAll_39 ?_
            refine q_iceq (tgt := 60) cx ⟨by omega, by omega⟩ ⟨by decide, by decide⟩ dX7_readAll_40 (by decide) (fun c4510 => ?_) (fun c4510 => ?_)
            · refine q_ald_n cx dX7_readAll_60 rfl (lv_at hl 0 rfl) ?_
              refine q_ald_n cx dX7_readAll_61 rfl (lv_at hl 1 rfl) ?_
              refine q_ald_n cx dX7_readAll_62 rfl (lv_at hl 2 rfl) ?_
              refine q_cXV (As := [.ref so, .ref now]) (rest := []) cx hX hB (fun _ h => h) (fun _ h _ => h) hN hscr kscr (by decide) rfl (f_readCommand l g ad hN hB.2.1 hfl B nl9 scr hscr kscr so hso kso now hnow know ba hba kba ndn hndn kndn cmds hcmds kcmds tn (by omega) (by omega) w21_so_8 (by omega) (by omega) w21_scr_1 (by omega) (by omega) w21_scr_3 (by omega) (by omega) w21_scr_4 (by omega) (by omega) hj_so_1 hj_so_8 (Eq.trans hj_so_2 (by omega)) (Eq.trans hj_so_3 (by omega)) hj_scr_1 hj_scr_3 hj_scr_4 hq_so_0 hq_now_0 hq_scr_0 htc21 htb21 hvn21 hch) q_cX7_45 q_dX7_readCommand (by decide) rfl rfl hl.1 rfl (Nat.le_of_ble_eq_true rfl) dX7_readAll_63 (fun E9 ce9 q9 H locs f4514 hex hF hB hcell hcv hcl => ?_) (fun v9 H locs f4511 h4513 hF hB => ?_)
              · exact hex.elim
              · obtain ⟨y4512, rfl, ry4512, h4513⟩ := h4513
                refine W.eq (g2 := F0 m 66 ls [.int (q_i y4512)]) rfl ?_
                rcases h4513 with h4515 | h4516
                · obtain ⟨qy4512, z4517, z4518, z4519, lz4520, uz4520, lz4521, uz4521, t4522, t4523, g4524⟩ := h4515
                  have z4525 : q_is (q_z f4511 so 1) tn := Eq.trans (hF.z hso (by rw [kso]; rfl)) hj_so_1
                  have z4526 : q_ir (q_r f4511 so 0) ba := Eq.trans (hF.r hso (by rw [kso]; rfl)) hq_so_0
                  have z4527 : q_ir (q_r f4511 now 0) ndn := Eq.trans (hF.r hnow (by rw [know]; rfl)) hq_now_0
                  have z4528 : q_ir (q_r f4511 scr 0) cmds := Eq.trans (hF.r hscr (by rw [kscr]; rfl)) hq_scr_0
                  have g4529 : tk_tb f4511 ba B tn := tk_tb_tr htb21 (fun i9 => hF.z hba (by rw [kba]; rfl))
                  have g4530 : tk_vn K L 5 f4511 now ndn nl9 := tk_vn_tr hvn21 (hF.z hnow (by rw [know]; rfl)) (fun a9 h9 k9 => hF.j h9 (by rw [k9]; rfl)) (fun i9 => hF.r hndn (by rw [kndn]; rfl))
                  have g4531 : tk_c3 K L f4511 cmds := tk_c3_tr hcj21 (fun i9 => hF.r hcmds (by rw [kcmds]; rfl))
                  obtain ⟨x4532, ex4532⟩ : ∃ zz, q_is (q_z f4511 scr 3) zz := ⟨_, q_isr _⟩
                  obtain ⟨lx4532, ux4532⟩ := q_isb ex4532 ⟨lz4520, uz4520⟩
                  obtain ⟨x4533, ex4533⟩ : ∃ zz, q_is (q_z f4511 scr 4) zz := ⟨_, q_isr _⟩
                  obtain ⟨lx4533, ux4533⟩ := q_isb ex4533 ⟨lz4521, uz4521⟩
                  subst qy4512
                  obtain ⟨x4534, ex4534⟩ : ∃ zz, q_is (q_z f4511 so 8) zz := ⟨_, q_isr _⟩
                  obtain ⟨lx4534, ux4534⟩ := q_isb ex4534 (q_fib hB.2.1 hso kso (by decide) rfl)
                  obtain ⟨-, l0x4534, u0x4534, -, -⟩ := tk_tc_n g4524 ex4534
                  have g4535 : tk_ch K L f4511 cmds (w21_scr_1 + 1) x4532 x4533 := tk_ch_f t4523 z4519 ex4532 ex4533
                  have g4536 : tk_sx B tn nl9 w21_so_8 w21_scr_4 w21_scr_1 = tk_ok (x4534, x4533, (w21_scr_1 + 1)) := (Eq.trans (tk_sx_cd (fun h9 => absurd h9.1 (by omega))) (tk_xof t4522 ex4534 ex4533 z4519))
                  have g4537 := tk_sx_in g4536 (by omega) (by omega)
                  have g4538 : w21_so_8 < x4534 := g4537.1
                  refine lv_istore (lv' := [(4, .int (q_i 1)), (0, .ref scr), (1, .ref so), (2, .ref now), (3, .int (q_i v21_3))]) cx.1 cx.2.1 dX7_readAll_66 hl (by decide) rfl (fun ls hl => ?_)
                  refine lv_iload cx.1 cx.2.1 dX7_readAll_68 (lv_at hl 0 rfl) ?_
                  refine q_ifne (tgt := 75) cx ⟨by decide, by decide⟩ dX7_readAll_70 (by decide) (fun c4539 => ?_) (fun c4539 => ?_)
                  · refine q_iinc (lv' := [(3, .int (q_i (v21_3 + 1))), (4, .int (q_i 1)), (0, .ref scr), (1, .ref so), (2, .ref now)]) cx dX7_readAll_75 hl (k := 4) rfl (by decide) rfl (fun ls hl => ?_)
                    refine lv_goto (tgt := 21) cx.1 cx.2.1 dX7_readAll_78 (by decide) ?_
                    exact ih21 f4511 (v21_3 + 1) (by omega) (by omega) 0 (by decide) (by decide) (-1) (by decide) (by decide) (w21_scr_1 + 1) (by omega) (by omega) x4532 (by omega) (by omega) x4533 (by omega) (by omega) x4534 (by omega) (by omega) z4525 z4517 z4518 z4519 ex4532 ex4533 ex4534 z4526 z4527 z4528 g4531 g4529 g4524 g4530 (by omega) (by omega) (hal.trans (tk_U_ok (by omega) (by omega) t4507 g4536)) g4535 (by omega) H locs hB ls (lv_sub hl [2, 3, 4, 0] rfl)
                  · exact absurd c4539 (by omega)
                · obtain ⟨qy4512, t4540, g4541⟩ := h4516
                  have z4542 : q_is (q_z f4511 so 1) tn := Eq.trans (hF.z hso (by rw [kso]; rfl)) hj_so_1
                  have z4543 : q_ir (q_r f4511 so 0) ba := Eq.trans (hF.r hso (by rw [kso]; rfl)) hq_so_0
                  have z4544 : q_ir (q_r f4511 now 0) ndn := Eq.trans (hF.r hnow (by rw [know]; rfl)) hq_now_0
                  have z4545 : q_ir (q_r f4511 scr 0) cmds := Eq.trans (hF.r hscr (by rw [kscr]; rfl)) hq_scr_0
                  have g4546 : tk_tb f4511 ba B tn := tk_tb_tr htb21 (fun i9 => hF.z hba (by rw [kba]; rfl))
                  have g4547 : tk_vn K L 5 f4511 now ndn nl9 := tk_vn_tr hvn21 (hF.z hnow (by rw [know]; rfl)) (fun a9 h9 k9 => hF.j h9 (by rw [k9]; rfl)) (fun i9 => hF.r hndn (by rw [kndn]; rfl))
                  have g4548 : tk_c3 K L f4511 cmds := tk_c3_tr hcj21 (fun i9 => hF.r hcmds (by rw [kcmds]; rfl))
                  subst qy4512
                  obtain ⟨x4549, ex4549⟩ : ∃ zz, q_is (q_z f4511 so 8) zz := ⟨_, q_isr _⟩
                  obtain ⟨lx4549, ux4549⟩ := q_isb ex4549 (q_fib hB.2.1 hso kso (by decide) rfl)
                  obtain ⟨-, l0x4549, u0x4549, -, -⟩ := tk_tc_n g4541 ex4549
                  refine lv_istore (lv' := [(4, .int (q_i 0)), (0, .ref scr), (1, .ref so), (2, .ref now), (3, .int (q_i v21_3))]) cx.1 cx.2.1 dX7_readAll_66 hl (by decide) rfl (fun ls hl => ?_)
                  refine lv_iload cx.1 cx.2.1 dX7_readAll_68 (lv_at hl 0 rfl) ?_
                  refine q_ifne (tgt := 75) cx ⟨by decide, by decide⟩ dX7_readAll_70 (by decide) (fun c4550 => ?_) (fun c4550 => ?_)
                  · exact absurd c4550 (by omega)
                  · refine q_iconst cx dX7_readAll_73 ?_
                    refine W.widen (k := 0) (n := 0) (by decide) (by decide) ?_
                    refine vx_ret ?_
                    refine q_zret cx hr hlk hB dX7_readAll_74 (by decide) (by decide) ?_
                    exact (Or.inr ⟨rfl, (hal.trans (tk_U_er t4507 (Eq.trans (tk_sx_cd (fun h9 => absurd h9.1 (by omega))) t4540)))⟩)
            · refine q_ald_n cx dX7_readAll_43 rfl (lv_at hl 1 rfl) ?_
              refine q_bipush cx dX7_readAll_44 rfl ?_
              have hkd9 : 1 ≤ w21_scr_4 := by omega
              have hki9 : 0 ≤ w21_scr_3 := by omega
              refine q_cVi (As := [.int (q_i 41)]) (rest := []) cx hB (fun _ h => h) hN hso kso (by decide) rfl (f_isMark l g hN hB.2.1 B so hso kso 41 (by decide) (by decide) ba hba kba tn (by omega) (by omega) w21_so_8 (by omega) (by omega) hj_so_1 hj_so_8 hq_so_0 htc21 htb21) q_cX7_37 q_dX8_isMark (by decide) rfl rfl hl.1 rfl (Nat.le_of_ble_eq_true rfl) dX7_readAll_46 (fun y4552 H locs f4551 ry4552 h4553 hF hB => ?_)
              rcases h4553 with h4554 | h4555
              · obtain ⟨rfl, qy4552, t4556⟩ := h4554
                subst qy4552
                refine q_ifeq (tgt := 60) cx ⟨by decide, by decide⟩ dX7_readAll_49 (by decide) (fun c4557 => ?_) (fun c4557 => ?_)
                · exact absurd c4557 (by omega)
                · refine q_ald_n cx dX7_readAll_52 rfl (lv_at hl 0 rfl) ?_
                  refine q_ald_n cx dX7_readAll_53 rfl (lv_at hl 1 rfl) ?_
                  refine q_cVi (As := [.ref so]) (rest := []) cx hB (fun _ h => h) hN hscr kscr (by decide) rfl (f_closeRepeat l g hN hB.2.1 B scr hscr kscr so hso kso ba hba kba cmds hcmds kcmds tn (by omega) (by omega) w21_so_8 (by omega) (by omega) w21_scr_1 (by omega) (by omega) w21_scr_3 (by omega) (by omega) w21_scr_4 (by omega) (by omega) hj_so_1 hj_so_8 (Eq.trans hj_so_2 (by omega)) (Eq.trans hj_so_3 (by omega)) hj_scr_1 hj_scr_3 hj_scr_4 hq_so_0 hq_scr_0 htc21 htb21 hch) q_cX7_41 q_dX7_closeRepeat (by decide) rfl rfl hl.1 rfl (Nat.le_of_ble_eq_true rfl) dX7_readAll_54 (fun y4559 H locs f4558 ry4559 h4560 hF hB => ?_)
                  rcases h4560 with h4561 | h4562
                  · obtain ⟨qy4559, z4563, z4564, z4565, lz4566, uz4566, z4567, t4568, t4569, g4570⟩ := h4561
                    have z4571 : q_is (q_z f4558 so 1) tn := Eq.trans (hF.z hso (by rw [kso]; rfl)) hj_so_1
                    have z4572 : q_is (q_z f4558 scr 1) w21_scr_1 := Eq.trans (hF.z hscr (by rw [kscr]; rfl)) hj_scr_1
                    have z4573 : q_ir (q_r f4558 so 0) ba := Eq.trans (hF.r hso (by rw [kso]; rfl)) hq_so_0
                    have z4574 : q_ir (q_r f4558 now 0) ndn := Eq.trans (hF.r hnow (by rw [know]; rfl)) hq_now_0
                    have z4575 : q_ir (q_r f4558 scr 0) cmds := Eq.trans (hF.r hscr (by rw [kscr]; rfl)) hq_scr_0
                    have g4576 : tk_tb f4558 ba B tn := tk_tb_tr htb21 (fun i9 => hF.z hba (by rw [kba]; rfl))
                    have g4577 : tk_vn K L 5 f4558 now ndn nl9 := tk_vn_tr hvn21 (hF.z hnow (by rw [know]; rfl)) (fun a9 h9 k9 => hF.j h9 (by rw [k9]; rfl)) (fun i9 => hF.r hndn (by rw [kndn]; rfl))
                    have g4578 : tk_c3 K L f4558 cmds := tk_c3_tr hcj21 (fun i9 => hF.r hcmds (by rw [kcmds]; rfl))
                    have g4579 : tk_ch K L f4558 cmds w21_scr_1 w21_scr_3 w21_scr_4 := tk_ch_tr hch (fun a9 h9 k9 => hF.z h9 (by rw [k9]; rfl)) (fun i9 => hF.r hcmds (by rw [kcmds]; rfl))
                    obtain ⟨x4580, ex4580⟩ : ∃ zz, q_is (q_z f4558 scr 3) zz := ⟨_, q_isr _⟩
                    obtain ⟨lx4580, ux4580⟩ := q_isb ex4580 ⟨lz4566, uz4566⟩
                    subst qy4559
                    obtain ⟨x4581, ex4581⟩ : ∃ zz, q_is (q_z f4558 so 8) zz := ⟨_, q_isr _⟩
                    obtain ⟨lx4581, ux4581⟩ := q_isb ex4581 (q_fib hB.2.1 hso kso (by decide) rfl)
                    obtain ⟨-, l0x4581, u0x4581, -, -⟩ := tk_tc_n g4570 ex4581
                    have g4582 : tk_ch K L f4558 cmds w21_scr_1 x4580 (w21_scr_4 - 1) := tk_ch_f t4569 z4565 ex4580 z4567
                    have g4583 : tk_sx B tn nl9 w21_so_8 w21_scr_4 w21_scr_1 = tk_ok (x4581, (w21_scr_4 - 1), w21_scr_1) := (tk_sx_cl (by omega) t4556 (tk_okx t4568 ex4581) (by omega))
                    have g4584 := tk_sx_in g4583 (by omega) (by omega)
                    have g4585 : w21_so_8 < x4581 := g4584.1
                    refine lv_goto (tgt := 66) cx.1 cx.2.1 dX7_readAll_57 (by decide) ?_
                    refine lv_istore (lv' := [(4, .int (q_i 1)), (0, .ref scr), (1, .ref so), (2, .ref now), (3, .int (q_i v21_3))]) cx.1 cx.2.1 dX7_readAll_66 hl (by decide) rfl (fun ls hl => ?_)
                    refine lv_iload cx.1 cx.2.1 dX7_readAll_68 (lv_at hl 0 rfl) ?_
                    refine q_ifne (tgt := 75) cx ⟨by decide, by decide⟩ dX7_readAll_70 (by decide) (fun c4586 => ?_) (fun c4586 => ?_)
                    · refine q_iinc (lv' := [(3, .int (q_i (v21_3 + 1))), (4, .int (q_i 1)), (0, .ref scr), (1, .ref so), (2, .ref now)]) cx dX7_readAll_75 hl (k := 4) rfl (by decide) rfl (fun ls hl => ?_)
                      refine lv_goto (tgt := 21) cx.1 cx.2.1 dX7_readAll_78 (by decide) ?_
                      exact ih21 f4558 (v21_3 + 1) (by omega) (by omega) 0 (by decide) (by decide) (-1) (by decide) (by decide) w21_scr_1 (by omega) (by omega) x4580 (by omega) (by omega) (w21_scr_4 - 1) (by omega) (by omega) x4581 (by omega) (by omega) z4571 z4563 z4564 z4565 ex4580 z4567 ex4581 z4573 z4574 z4575 g4578 g4576 g4570 g4577 (by omega) (by omega) (hal.trans (tk_U_ok (by omega) (by omega) t4507 g4583)) g4582 (by omega) H locs hB ls (lv_sub hl [2, 3, 4, 0] rfl)
                    · exact absurd c4586 (by omega)
                  · obtain ⟨qy4559, t4587, g4588⟩ := h4562
                    have z4589 : q_is (q_z f4558 so 1) tn := Eq.trans (hF.z hso (by rw [kso]; rfl)) hj_so_1
                    have z4590 : q_is (q_z f4558 scr 1) w21_scr_1 := Eq.trans (hF.z hscr (by rw [kscr]; rfl)) hj_scr_1
                    have z4591 : q_ir (q_r f4558 so 0) ba := Eq.trans (hF.r hso (by rw [kso]; rfl)) hq_so_0
                    have z4592 : q_ir (q_r f4558 now 0) ndn := Eq.trans (hF.r hnow (by rw [know]; rfl)) hq_now_0
                    have z4593 : q_ir (q_r f4558 scr 0) cmds := Eq.trans (hF.r hscr (by rw [kscr]; rfl)) hq_scr_0
                    have g4594 : tk_tb f4558 ba B tn := tk_tb_tr htb21 (fun i9 => hF.z hba (by rw [kba]; rfl))
                    have g4595 : tk_vn K L 5 f4558 now ndn nl9 := tk_vn_tr hvn21 (hF.z hnow (by rw [know]; rfl)) (fun a9 h9 k9 => hF.j h9 (by rw [k9]; rfl)) (fun i9 => hF.r hndn (by rw [kndn]; rfl))
                    have g4596 : tk_c3 K L f4558 cmds := tk_c3_tr hcj21 (fun i9 => hF.r hcmds (by rw [kcmds]; rfl))
                    have g4597 : tk_ch K L f4558 cmds w21_scr_1 w21_scr_3 w21_scr_4 := tk_ch_tr hch (fun a9 h9 k9 => hF.z h9 (by rw [k9]; rfl)) (fun i9 => hF.r hcmds (by rw [kcmds]; rfl))
                    subst qy4559
                    obtain ⟨x4598, ex4598⟩ : ∃ zz, q_is (q_z f4558 so 8) zz := ⟨_, q_isr _⟩
                    obtain ⟨lx4598, ux4598⟩ := q_isb ex4598 (q_fib hB.2.1 hso kso (by decide) rfl)
                    obtain ⟨-, l0x4598, u0x4598, -, -⟩ := tk_tc_n g4588 ex4598
                    refine lv_goto (tgt := 66) cx.1 cx.2.1 dX7_readAll_57 (by decide) ?_
                    refine lv_istore (lv' := [(4, .int (q_i 0)), (0, .ref scr), (1, .ref so), (2, .ref now), (3, .int (q_i v21_3))]) cx.1 cx.2.1 dX7_readAll_66 hl (by decide) rfl (fun ls hl => ?_)
                    refine lv_iload cx.1 cx.2.1 dX7_readAll_68 (lv_at hl 0 rfl) ?_
                    refine q_ifne (tgt := 75) cx ⟨by decide, by decide⟩ dX7_readAll_70 (by decide) (fun c4599 => ?_) (fun c4599 => ?_)
                    · exact absurd c4599 (by omega)
                    · refine q_iconst cx dX7_readAll_73 ?_
                      refine W.widen (k := 0) (n := 0) (by decide) (by decide) ?_
                      refine vx_ret ?_
                      refine q_zret cx hr hlk hB dX7_readAll_74 (by decide) (by decide) ?_
                      exact (Or.inr ⟨rfl, (hal.trans (tk_U_er t4507 (tk_sx_cle (by omega) t4556 t4587)))⟩)
              · obtain ⟨rfl, qy4552, t4600⟩ := h4555
                subst qy4552
                refine q_ifeq (tgt := 60) cx ⟨by decide, by decide⟩ dX7_readAll_49 (by decide) (fun c4601 => ?_) (fun c4601 => ?_)
                · refine q_ald_n cx dX7_readAll_60 rfl (lv_at hl 0 rfl) ?_
                  refine q_ald_n cx dX7_readAll_61 rfl (lv_at hl 1 rfl) ?_
                  refine q_ald_n cx dX7_readAll_62 rfl (lv_at hl 2 rfl) ?_
                  refine q_cXV (As := [.ref so, .ref now]) (rest := []) cx hX hB (fun _ h => h) (fun _ h _ => h) hN hscr kscr (by decide) rfl (f_readCommand l g ad hN hB.2.1 hfl B nl9 scr hscr kscr so hso kso now hnow know ba hba kba ndn hndn kndn cmds hcmds kcmds tn (by omega) (by omega) w21_so_8 (by omega) (by omega) w21_scr_1 (by omega) (by omega) w21_scr_3 (by omega) (by omega) w21_scr_4 (by omega) (by omega) hj_so_1 hj_so_8 (Eq.trans hj_so_2 (by omega)) (Eq.trans hj_so_3 (by omega)) hj_scr_1 hj_scr_3 hj_scr_4 hq_so_0 hq_now_0 hq_scr_0 htc21 htb21 hvn21 hch) q_cX7_45 q_dX7_readCommand (by decide) rfl rfl hl.1 rfl (Nat.le_of_ble_eq_true rfl) dX7_readAll_63 (fun E9 ce9 q9 H locs f4605 hex hF hB hcell hcv hcl => ?_) (fun v9 H locs f4602 h4604 hF hB => ?_)
                  · exact hex.elim
                  · obtain ⟨y4603, rfl, ry4603, h4604⟩ := h4604
                    refine W.eq (g2 := F0 m 66 ls [.int (q_i y4603)]) rfl ?_
                    rcases h4604 with h4606 | h4607
                    · obtain ⟨qy4603, z4608, z4609, z4610, lz4611, uz4611, lz4612, uz4612, t4613, t4614, g4615⟩ := h4606
                      have z4616 : q_is (q_z f4602 so 1) tn := Eq.trans (hF.z hso (by rw [kso]; rfl)) hj_so_1
                      have z4617 : q_ir (q_r f4602 so 0) ba := Eq.trans (hF.r hso (by rw [kso]; rfl)) hq_so_0
                      have z4618 : q_ir (q_r f4602 now 0) ndn := Eq.trans (hF.r hnow (by rw [know]; rfl)) hq_now_0
                      have z4619 : q_ir (q_r f4602 scr 0) cmds := Eq.trans (hF.r hscr (by rw [kscr]; rfl)) hq_scr_0
                      have g4620 : tk_tb f4602 ba B tn := tk_tb_tr htb21 (fun i9 => hF.z hba (by rw [kba]; rfl))
                      have g4621 : tk_vn K L 5 f4602 now ndn nl9 := tk_vn_tr hvn21 (hF.z hnow (by rw [know]; rfl)) (fun a9 h9 k9 => hF.j h9 (by rw [k9]; rfl)) (fun i9 => hF.r hndn (by rw [kndn]; rfl))
                      have g4622 : tk_c3 K L f4602 cmds := tk_c3_tr hcj21 (fun i9 => hF.r hcmds (by rw [kcmds]; rfl))
                      obtain ⟨x4623, ex4623⟩ : ∃ zz, q_is (q_z f4602 scr 3) zz := ⟨_, q_isr _⟩
                      obtain ⟨lx4623, ux4623⟩ := q_isb ex4623 ⟨lz4611, uz4611⟩
                      obtain ⟨x4624, ex4624⟩ : ∃ zz, q_is (q_z f4602 scr 4) zz := ⟨_, q_isr _⟩
                      obtain ⟨lx4624, ux4624⟩ := q_isb ex4624 ⟨lz4612, uz4612⟩
                      subst qy4603
                      obtain ⟨x4625, ex4625⟩ : ∃ zz, q_is (q_z f4602 so 8) zz := ⟨_, q_isr _⟩
                      obtain ⟨lx4625, ux4625⟩ := q_isb ex4625 (q_fib hB.2.1 hso kso (by decide) rfl)
                      obtain ⟨-, l0x4625, u0x4625, -, -⟩ := tk_tc_n g4615 ex4625
                      have g4626 : tk_ch K L f4602 cmds (w21_scr_1 + 1) x4623 x4624 := tk_ch_f t4614 z4610 ex4623 ex4624
                      have g4627 : tk_sx B tn nl9 w21_so_8 w21_scr_4 w21_scr_1 = tk_ok (x4625, x4624, (w21_scr_1 + 1)) := (Eq.trans (tk_sx_cd (fun h9 => absurd h9.2 t4600)) (tk_xof t4613 ex4625 ex4624 z4610))
                      have g4628 := tk_sx_in g4627 (by omega) (by omega)
                      have g4629 : w21_so_8 < x4625 := g4628.1
                      refine lv_istore (lv' := [(4, .int (q_i 1)), (0, .ref scr), (1, .ref so), (2, .ref now), (3, .int (q_i v21_3))]) cx.1 cx.2.1 dX7_readAll_66 hl (by decide) rfl (fun ls hl => ?_)
                      refine lv_iload cx.1 cx.2.1 dX7_readAll_68 (lv_at hl 0 rfl) ?_
                      refine q_ifne (tgt := 75) cx ⟨by decide, by decide⟩ dX7_readAll_70 (by decide) (fun c4630 => ?_) (fun c4630 => ?_)
                      · refine q_iinc (lv' := [(3, .int (q_i (v21_3 + 1))), (4, .int (q_i 1)), (0, .ref scr), (1, .ref so), (2, .ref now)]) cx dX7_readAll_75 hl (k := 4) rfl (by decide) rfl (fun ls hl => ?_)
                        refine lv_goto (tgt := 21) cx.1 cx.2.1 dX7_readAll_78 (by decide) ?_
                        exact ih21 f4602 (v21_3 + 1) (by omega) (by omega) 0 (by decide) (by decide) (-1) (by decide) (by decide) (w21_scr_1 + 1) (by omega) (by omega) x4623 (by omega) (by omega) x4624 (by omega) (by omega) x4625 (by omega) (by omega) z4616 z4608 z4609 z4610 ex4623 ex4624 ex4625 z4617 z4618 z4619 g4622 g4620 g4615 g4621 (by omega) (by omega) (hal.trans (tk_U_ok (by omega) (by omega) t4507 g4627)) g4626 (by omega) H locs hB ls (lv_sub hl [2, 3, 4, 0] rfl)
                      · exact absurd c4630 (by omega)
                    · obtain ⟨qy4603, t4631, g4632⟩ := h4607
                      have z4633 : q_is (q_z f4602 so 1) tn := Eq.trans (hF.z hso (by rw [kso]; rfl)) hj_so_1
                      have z4634 : q_ir (q_r f4602 so 0) ba := Eq.trans (hF.r hso (by rw [kso]; rfl)) hq_so_0
                      have z4635 : q_ir (q_r f4602 now 0) ndn := Eq.trans (hF.r hnow (by rw [know]; rfl)) hq_now_0
                      have z4636 : q_ir (q_r f4602 scr 0) cmds := Eq.trans (hF.r hscr (by rw [kscr]; rfl)) hq_scr_0
                      have g4637 : tk_tb f4602 ba B tn := tk_tb_tr htb21 (fun i9 => hF.z hba (by rw [kba]; rfl))
                      have g4638 : tk_vn K L 5 f4602 now ndn nl9 := tk_vn_tr hvn21 (hF.z hnow (by rw [know]; rfl)) (fun a9 h9 k9 => hF.j h9 (by rw [k9]; rfl)) (fun i9 => hF.r hndn (by rw [kndn]; rfl))
                      have g4639 : tk_c3 K L f4602 cmds := tk_c3_tr hcj21 (fun i9 => hF.r hcmds (by rw [kcmds]; rfl))
                      subst qy4603
                      obtain ⟨x4640, ex4640⟩ : ∃ zz, q_is (q_z f4602 so 8) zz := ⟨_, q_isr _⟩
                      obtain ⟨lx4640, ux4640⟩ := q_isb ex4640 (q_fib hB.2.1 hso kso (by decide) rfl)
                      obtain ⟨-, l0x4640, u0x4640, -, -⟩ := tk_tc_n g4632 ex4640
                      refine lv_istore (lv' := [(4, .int (q_i 0)), (0, .ref scr), (1, .ref so), (2, .ref now), (3, .int (q_i v21_3))]) cx.1 cx.2.1 dX7_readAll_66 hl (by decide) rfl (fun ls hl => ?_)
                      refine lv_iload cx.1 cx.2.1 dX7_readAll_68 (lv_at hl 0 rfl) ?_
                      refine q_ifne (tgt := 75) cx ⟨by decide, by decide⟩ dX7_readAll_70 (by decide) (fun c4641 => ?_) (fun c4641 => ?_)
                      · exact absurd c4641 (by omega)
                      · refine q_iconst cx dX7_readAll_73 ?_
                        refine W.widen (k := 0) (n := 0) (by decide) (by decide) ?_
                        refine vx_ret ?_
                        refine q_zret cx hr hlk hB dX7_readAll_74 (by decide) (by decide) ?_
                        exact (Or.inr ⟨rfl, (hal.trans (tk_U_er t4507 (Eq.trans (tk_sx_cd (fun h9 => absurd h9.2 t4600)) t4631)))⟩)
                · exact absurd c4601 (by omega)
  obtain ⟨H, hH⟩ : ∃ H : Heap, H = s.heap := ⟨_, rfl⟩
  obtain ⟨locs, hlocs⟩ : ∃ z : List Loc, z = [] := ⟨_, rfl⟩
  rw [← hH, ← hlocs] at hB
  rw [← hH, ← hlocs]
  refine q_ald_n cx dX7_readAll_0 rfl (lv_at hl 0 rfl) ?_
  refine q_iconst cx dX7_readAll_1 ?_
  refine q_pX7_18 cx hB hscr kscr ⟨by decide, by decide⟩ (by decide) (by decide) rfl dX7_readAll_2 (fun H locs f4642 ef4642 z4643 hB => ?_)
  have z4644 : q_is (q_z f4642 so 1) tn := by rw [ef4642, q_setz (Or.inl (fun q => by rw [q, kscr] at kso; exact absurd kso (by decide)))]; exact hf0
  have z4645 : q_ir (q_r f4642 so 0) ba := by rw [ef4642, q_setr (Or.inr (by decide))]; exact hr0
  have z4646 : q_ir (q_r f4642 now 0) ndn := by rw [ef4642, q_setr (Or.inr (by decide))]; exact hr1
  have z4647 : q_ir (q_r f4642 scr 0) cmds := by rw [ef4642, q_setr (Or.inr (by decide))]; exact hr2
  have g4648 : tk_tb f4642 ba B tn := tk_tb_tr htb (fun i9 => by rw [ef4642, q_setz (Or.inl (fun q => by rw [q, kscr] at kba; exact absurd kba (by decide)))])
  have g4649 : tk_vn K L 5 f4642 now ndn nl9 := tk_vn_tr hvn (by rw [ef4642, q_setz (Or.inr (by decide))]) (fun a9 h9 k9 => by rw [ef4642, q_setj (Or.inl (fun q => by rw [q, kscr] at k9; exact absurd k9 (by decide)))]) (fun i9 => by rw [ef4642, q_setr (Or.inl (fun q => by rw [q, kscr] at kndn; exact absurd kndn (by decide)))])
  have g4650 : tk_c3 K L f4642 cmds := tk_c3_tr hcj (fun i9 => by rw [ef4642, q_setr (Or.inl (fun q => by rw [q, kscr] at kcmds; exact absurd kcmds (by decide)))])
  refine q_ald_n cx dX7_readAll_5 rfl (lv_at hl 0 rfl) ?_
  refine q_iconst cx dX7_readAll_6 ?_
  refine q_pX7_22 cx hB hscr kscr ⟨by decide, by decide⟩ (by decide) (by decide) rfl dX7_readAll_7 (fun H locs f4651 ef4651 z4652 hB => ?_)
  have z4653 : q_is (q_z f4651 so 1) tn := by rw [ef4651, q_setz (Or.inr (by decide))]; exact z4644
  have z4654 : q_is (q_z f4651 scr 1) 0 := by rw [ef4651, q_setz (Or.inr (by decide))]; exact z4643
  have z4655 : q_ir (q_r f4651 so 0) ba := by rw [ef4651, q_setr (Or.inr (by decide))]; exact z4645
  have z4656 : q_ir (q_r f4651 now 0) ndn := by rw [ef4651, q_setr (Or.inr (by decide))]; exact z4646
  have z4657 : q_ir (q_r f4651 scr 0) cmds := by rw [ef4651, q_setr (Or.inr (by decide))]; exact z4647
  have g4658 : tk_tb f4651 ba B tn := tk_tb_tr g4648 (fun i9 => by rw [ef4651, q_setz (Or.inl (fun q => by rw [q, kscr] at kba; exact absurd kba (by decide)))])
  have g4659 : tk_vn K L 5 f4651 now ndn nl9 := tk_vn_tr g4649 (by rw [ef4651, q_setz (Or.inl (fun q => by rw [q, kscr] at know; exact absurd know (by decide)))]) (fun a9 h9 k9 => by rw [ef4651, q_setj (Or.inl (fun q => by rw [q, kscr] at k9; exact absurd k9 (by decide)))]) (fun i9 => by rw [ef4651, q_setr (Or.inl (fun q => by rw [q, kscr] at kndn; exact absurd kndn (by decide)))])
  have g4660 : tk_c3 K L f4651 cmds := tk_c3_tr g4650 (fun i9 => by rw [ef4651, q_setr (Or.inl (fun q => by rw [q, kscr] at kcmds; exact absurd kcmds (by decide)))])
  refine q_ald_n cx dX7_readAll_10 rfl (lv_at hl 0 rfl) ?_
  refine q_iconst cx dX7_readAll_11 ?_
  refine q_pX7_25 cx hB hscr kscr ⟨by decide, by decide⟩ (by decide) (by decide) rfl dX7_readAll_12 (fun H locs f4661 ef4661 z4662 hB => ?_)
  have z4663 : q_is (q_z f4661 so 1) tn := by rw [ef4661, q_setz (Or.inr (by decide))]; exact z4653
  have z4664 : q_is (q_z f4661 scr 1) 0 := by rw [ef4661, q_setz (Or.inr (by decide))]; exact z4654
  have z4665 : q_is (q_z f4661 scr 3) (-1) := by rw [ef4661, q_setz (Or.inr (by decide))]; exact z4652
  have z4666 : q_ir (q_r f4661 so 0) ba := by rw [ef4661, q_setr (Or.inr (by decide))]; exact z4655
  have z4667 : q_ir (q_r f4661 now 0) ndn := by rw [ef4661, q_setr (Or.inr (by decide))]; exact z4656
  have z4668 : q_ir (q_r f4661 scr 0) cmds := by rw [ef4661, q_setr (Or.inr (by decide))]; exact z4657
  have g4669 : tk_tb f4661 ba B tn := tk_tb_tr g4658 (fun i9 => by rw [ef4661, q_setz (Or.inl (fun q => by rw [q, kscr] at kba; exact absurd kba (by decide)))])
  have g4670 : tk_vn K L 5 f4661 now ndn nl9 := tk_vn_tr g4659 (by rw [ef4661, q_setz (Or.inr (by decide))]) (fun a9 h9 k9 => by rw [ef4661, q_setj (Or.inl (fun q => by rw [q, kscr] at k9; exact absurd k9 (by decide)))]) (fun i9 => by rw [ef4661, q_setr (Or.inl (fun q => by rw [q, kscr] at kndn; exact absurd kndn (by decide)))])
  have g4671 : tk_c3 K L f4661 cmds := tk_c3_tr g4660 (fun i9 => by rw [ef4661, q_setr (Or.inl (fun q => by rw [q, kscr] at kcmds; exact absurd kcmds (by decide)))])
  refine q_ald_n cx dX7_readAll_15 rfl (lv_at hl 1 rfl) ?_
  refine q_cVv (As := []) (rest := []) cx hB (fun _ h => h) hN hso kso (by decide) rfl (f_begin l g hN hB.2.1 B so hso kso ba hba kba tn (by omega) (by omega) z4663 z4666 g4669) q_cX7_28 q_dX8_begin (by decide) rfl rfl hl.1 rfl (Nat.le_of_ble_eq_true rfl) dX7_readAll_16 (fun H locs f4672 h4674 hF hB => ?_)
  obtain ⟨z4675, z4676, t4677, g4678⟩ := h4674
  have z4679 : q_is (q_z f4672 so 1) tn := Eq.trans (hF.z hso (by rw [kso]; rfl)) z4663
  have z4680 : q_is (q_z f4672 scr 1) 0 := Eq.trans (hF.z hscr (by rw [kscr]; rfl)) z4664
  have z4681 : q_is (q_z f4672 scr 3) (-1) := Eq.trans (hF.z hscr (by rw [kscr]; rfl)) z4665
  have z4682 : q_is (q_z f4672 scr 4) 0 := Eq.trans (hF.z hscr (by rw [kscr]; rfl)) z4662
  have z4683 : q_ir (q_r f4672 so 0) ba := Eq.trans (hF.r hso (by rw [kso]; rfl)) z4666
  have z4684 : q_ir (q_r f4672 now 0) ndn := Eq.trans (hF.r hnow (by rw [know]; rfl)) z4667
  have z4685 : q_ir (q_r f4672 scr 0) cmds := Eq.trans (hF.r hscr (by rw [kscr]; rfl)) z4668
  have g4686 : tk_tb f4672 ba B tn := tk_tb_tr g4669 (fun i9 => hF.z hba (by rw [kba]; rfl))
  have g4687 : tk_vn K L 5 f4672 now ndn nl9 := tk_vn_tr g4670 (hF.z hnow (by rw [know]; rfl)) (fun a9 h9 k9 => hF.j h9 (by rw [k9]; rfl)) (fun i9 => hF.r hndn (by rw [kndn]; rfl))
  have g4688 : tk_c3 K L f4672 cmds := tk_c3_tr g4671 (fun i9 => hF.r hcmds (by rw [kcmds]; rfl))
  obtain ⟨x4689, ex4689⟩ : ∃ zz, q_is (q_z f4672 so 8) zz := ⟨_, q_isr _⟩
  obtain ⟨lx4689, ux4689⟩ := q_isb ex4689 (q_fib hB.2.1 hso kso (by decide) rfl)
  obtain ⟨-, l0x4689, u0x4689, -, -⟩ := tk_tc_n g4678 ex4689
  have g4690 : tk_ch K L f4672 cmds 0 (-1) 0 := tk_ch_0 g4688 rfl rfl rfl
  refine q_iconst cx dX7_readAll_19 ?_
  refine lv_istore_n (lv' := [(3, .int (q_i 0)), (0, .ref scr), (1, .ref so), (2, .ref now)]) cx.1 cx.2.1 dX7_readAll_20 rfl hl (by decide) rfl (fun ls hl => ?_)
  exact J21 ((Int.toNat (2147483647 - 0)) + 1) f4672 0 (by decide) (by decide) 0 (by decide) (by decide) (-1) (by decide) (by decide) 0 (by decide) (by decide) (-1) (by decide) (by decide) 0 (by decide) (by decide) x4689 (by omega) (by omega) z4679 z4675 z4676 z4680 z4681 z4682 ex4689 z4683 z4684 z4685 g4688 g4686 g4678 g4687 (by omega) (by omega) (congrArg (fun q9 => tk_U B tn nl9 q9 0 0) (Eq.symm (Eq.trans (Eq.symm ex4689) t4677))) g4690 (Nat.lt_succ_self _) H locs hB ls (lv_sub hl [1, 2, 3, 0] rfl)
set_option maxHeartbeats 4000000 in
set_option maxRecDepth 100000 in
theorem f_x6runScript (l : Launch) (g : q_G) (ad : Nat → Nat) {K : Nat → Nat} {L : List Nat} (hN : L.Nodup) {f : Nat → va_E} (hT : q_Ty g K L f) (hfl : l.stackTraces = false) (B : Nat → Int) (nl9 : List (List Int)) (x : Nat) (hx : x ∈ L) (kx : K x = 11) (so : Nat) (hso : so ∈ L) (kso : K so = 8) (rd : Nat) (hrd : rd ∈ L) (krd : K rd = 9) (scr : Nat) (hscr : scr ∈ L) (kscr : K scr = 7) (fc : Nat) (hfc : fc ∈ L) (kfc : K fc = 1) (hist : Nat) (hhist : hist ∈ L) (khist : K hist = 2) (rep : Nat) (hrep : rep ∈ L) (krep : K rep = 6) (now : Nat) (hnow : now ∈ L) (know : K now = 10) (dr : Nat) (hdr : dr ∈ L) (kdr : K dr = 13) (sv : Nat) (hsv : sv ∈ L) (ksv : K sv = 14) (tr : Nat) (htr : tr ∈ L) (ktr : K tr = 15) (ba : Nat) (hba : ba ∈ L) (kba : K ba = 142) (nds : Nat) (hnds : nds ∈ L) (knds : K nds = 111) (ka : Nat) (hka : ka ∈ L) (kka : K ka = 140) (ndn : Nat) (hndn : ndn ∈ L) (kndn : K ndn = 110) (nsv : Nat) (hnsv : nsv ∈ L) (knsv : K nsv = 112) (cmds : Nat) (hcmds : cmds ∈ L) (kcmds : K cmds = 141) (tn : Int) (ltn : 0 ≤ tn) (utn : tn ≤ 600) (hf0 : q_is (q_z f so 1) tn) (hr0 : q_ir (q_r f x 0) so) (hr1 : q_ir (q_r f x 1) rd) (hr2 : q_ir (q_r f x 2) scr) (hr3 : q_ir (q_r f x 3) fc) (hr4 : q_ir (q_r f x 4) hist) (hr5 : q_ir (q_r f x 5) rep) (hr6 : q_ir (q_r f x 6) now) (hr7 : q_ir (q_r f x 7) dr) (hr8 : q_ir (q_r f x 8) sv) (hr9 : q_ir (q_r f fc 0) tr) (hr10 : q_ir (q_r f so 0) ba) (hr11 : q_ir (q_r f dr 0) nds) (hr12 : q_ir (q_r f hist 0) ka) (hr13 : q_ir (q_r f now 0) ndn) (hr14 : q_ir (q_r f sv 0) nsv) (hr15 : q_ir (q_r f scr 0) cmds) (htb : tk_tb f ba B tn) (hvn : tk_vn K L 5 f now ndn nl9) (hvk : tk_vk K L f hist ka now ndn) (hcj : tk_c3 K L f cmds) : q_Xt l g ad K L yX11_runScript cX11_runScript 2 (some .int) 8 175 1 6 [.ref x] f [(0, 0, 6), (2, 1, 2), (3, 2, 4), (4, 0, 7), (5, 1, 1), (5, 3, 4), (5, 6, 9), (7, 1, 4), (8, 1, 9), (10, 5, 5), (10, 11, 15), (16, 3, 12), (20, 0, 8), (24, 0, 4), (28, 0, 7)] (q_Pi (fun (z : Int) (f1 : Nat → va_E) => q_is (q_z f1 so 1) 0 ∧ q_is (q_z f1 so 2) 0 ∧ q_is (q_z f1 so 3) (-1) ∧ (tk_U B tn nl9 (tk_S B tn 0) 0 0 = tk_ok 0) ∧ (tk_vk K L f1 hist ka now ndn))) (fun (E : String) (f1 : Nat → va_E) => E = "java/lang/IllegalArgumentException" ∧ tk_U B tn nl9 (tk_S B tn 0) 0 0 = tk_er (q_z f1 so 2) (q_z f1 so 3) ∧ q_is (q_z f1 so 1) 0 ∧ (tk_vk K L f1 hist ka now ndn)) := by
  refine q_xofb (by decide +kernel) hN hT (Nat.le_of_ble_eq_true rfl) ?_
  intro p e s m below meth c ls cx hr hlk htab hX hB hl
  have hl : lv_has ls 2 [(0, .ref x)] := hl
  obtain ⟨H, hH⟩ : ∃ H : Heap, H = s.heap := ⟨_, rfl⟩
  obtain ⟨locs, hlocs⟩ : ∃ z : List Loc, z = [] := ⟨_, rfl⟩
  rw [← hH, ← hlocs] at hB
  rw [← hH, ← hlocs]
  refine q_ald_n cx dX11_runScript_0 rfl (lv_at hl 0 rfl) ?_
  refine q_gX11_26 cx hB hx kx hr2 dX11_runScript_1 (fun hb166 kb166 => ?_)
  refine q_ald_n cx dX11_runScript_4 rfl (lv_at hl 0 rfl) ?_
  refine q_gX11_10 cx hB hx kx hr0 dX11_runScript_5 (fun hb167 kb167 => ?_)
  refine q_ald_n cx dX11_runScript_8 rfl (lv_at hl 0 rfl) ?_
  refine q_gX11_54 cx hB hx kx hr6 dX11_runScript_9 (fun hb168 kb168 => ?_)
  refine q_cXV (As := [.ref so, .ref now]) (rest := []) cx hX hB (fun _ h => h) (fun _ h _ => h) hN hscr kscr (by decide) rfl (f_readAllS l g ad hN hB.2.1 hfl B nl9 scr hscr kscr so hso kso now hnow know ba hba kba ndn hndn kndn cmds hcmds kcmds tn (by omega) (by omega) hf0 hr10 hr13 hr15 htb hvn hcj) q_cX11_104 q_dX7_readAll (by decide) rfl rfl hl.1 rfl (Nat.le_of_ble_eq_true rfl) dX11_runScript_12 (fun E9 ce9 q9 H locs f172 hex hF hB hcell hcv hcl => ?_) (fun v9 H locs f169 h171 hF hB => ?_)
  · exact hex.elim
  · obtain ⟨y170, rfl, ry170, h171⟩ := h171
    refine W.eq (g2 := F0 m 15 ls [.int (q_i y170)]) rfl ?_
    rcases h171 with h173 | h174
    · obtain ⟨qy170, z175, z176, t177⟩ := h173
      have z178 : q_is (q_z f169 so 1) tn := Eq.trans (hF.z hso (by rw [kso]; rfl)) hf0
      have z179 : q_ir (q_r f169 x 0) so := Eq.trans (hF.r hx (by rw [kx]; rfl)) hr0
      have z180 : q_ir (q_r f169 x 1) rd := Eq.trans (hF.r hx (by rw [kx]; rfl)) hr1
      have z181 : q_ir (q_r f169 x 2) scr := Eq.trans (hF.r hx (by rw [kx]; rfl)) hr2
      have z182 : q_ir (q_r f169 x 3) fc := Eq.trans (hF.r hx (by rw [kx]; rfl)) hr3
      have z183 : q_ir (q_r f169 x 4) hist := Eq.trans (hF.r hx (by rw [kx]; rfl)) hr4
      have z184 : q_ir (q_r f169 x 5) rep := Eq.trans (hF.r hx (by rw [kx]; rfl)) hr5
      have z185 : q_ir (q_r f169 x 6) now := Eq.trans (hF.r hx (by rw [kx]; rfl)) hr6
      have z186 : q_ir (q_r f169 x 7) dr := Eq.trans (hF.r hx (by rw [kx]; rfl)) hr7
      have z187 : q_ir (q_r f169 x 8) sv := Eq.trans (hF.r hx (by rw [kx]; rfl)) hr8
      have z188 : q_ir (q_r f169 fc 0) tr := Eq.trans (hF.r hfc (by rw [kfc]; rfl)) hr9
      have z189 : q_ir (q_r f169 so 0) ba := Eq.trans (hF.r hso (by rw [kso]; rfl)) hr10
      have z190 : q_ir (q_r f169 dr 0) nds := Eq.trans (hF.r hdr (by rw [kdr]; rfl)) hr11
      have z191 : q_ir (q_r f169 hist 0) ka := Eq.trans (hF.r hhist (by rw [khist]; rfl)) hr12
      have z192 : q_ir (q_r f169 now 0) ndn := Eq.trans (hF.r hnow (by rw [know]; rfl)) hr13
      have z193 : q_ir (q_r f169 sv 0) nsv := Eq.trans (hF.r hsv (by rw [ksv]; rfl)) hr14
      have z194 : q_ir (q_r f169 scr 0) cmds := Eq.trans (hF.r hscr (by rw [kscr]; rfl)) hr15
      have g195 : tk_tb f169 ba B tn := tk_tb_tr htb (fun i9 => hF.z hba (by rw [kba]; rfl))
      have g196 : tk_vn K L 5 f169 now ndn nl9 := tk_vn_tr hvn (hF.z hnow (by rw [know]; rfl)) (fun a9 h9 k9 => hF.j h9 (by rw [k9]; rfl)) (fun i9 => hF.r hndn (by rw [kndn]; rfl))
      have g197 : tk_vk K L f169 hist ka now ndn := tk_vk_tr hvk (hF.z hhist (by rw [khist]; rfl)) (hF.z hhist (by rw [khist]; rfl)) (hF.z hnow (by rw [know]; rfl)) (fun a9 h9 k9 => hF.j h9 (by rw [k9]; rfl)) (fun i9 => hF.r hndn (by rw [kndn]; rfl)) (fun a9 h9 k9 => hF.z h9 (by rw [k9]; rfl)) (fun a9 h9 k9 => hF.j h9 (by rw [k9]; rfl)) (fun i9 => hF.r hka (by rw [kka]; rfl)) (fun a9 h9 k9 => hF.r h9 (by rw [k9]; rfl)) (fun a9 h9 k9 i9 => hF.r h9 (by rw [k9]; rfl))
      have g198 : tk_c3 K L f169 cmds := tk_c3_tr hcj (fun i9 => hF.r hcmds (by rw [kcmds]; rfl))
      subst qy170
      refine lv_istore_n (lv' := [(1, .int (q_i 1)), (0, .ref x)]) cx.1 cx.2.1 dX11_runScript_15 rfl hl (by decide) rfl (fun ls hl => ?_)
      refine q_ald_n cx dX11_runScript_16 rfl (lv_at hl 1 rfl) ?_
      refine q_gX11_10 cx hB hx kx z179 dX11_runScript_17 (fun hb199 kb199 => ?_)
      refine q_iconst cx dX11_runScript_20 ?_
      refine q_pX11_79 cx hB hso kso ⟨by decide, by decide⟩ (by decide) (by decide) rfl dX11_runScript_21 (fun H locs f200 ef200 z201 hB => ?_)
      have z202 : q_is (q_z f200 so 2) 0 := by rw [ef200, q_setz (Or.inr (by decide))]; exact z175
      have z203 : q_is (q_z f200 so 3) (-1) := by rw [ef200, q_setz (Or.inr (by decide))]; exact z176
      have z204 : q_ir (q_r f200 x 0) so := by rw [ef200, q_setr (Or.inr (by decide))]; exact z179
      have z205 : q_ir (q_r f200 x 1) rd := by rw [ef200, q_setr (Or.inl (fun q => by rw [q, kso] at kx; exact absurd kx (by decide)))]; exact z180
      have z206 : q_ir (q_r f200 x 2) scr := by rw [ef200, q_setr (Or.inr (by decide))]; exact z181
      have z207 : q_ir (q_r f200 x 3) fc := by rw [ef200, q_setr (Or.inr (by decide))]; exact z182
      have z208 : q_ir (q_r f200 x 4) hist := by rw [ef200, q_setr (Or.inr (by decide))]; exact z183
      have z209 : q_ir (q_r f200 x 5) rep := by rw [ef200, q_setr (Or.inr (by decide))]; exact z184
      have z210 : q_ir (q_r f200 x 6) now := by rw [ef200, q_setr (Or.inr (by decide))]; exact z185
      have z211 : q_ir (q_r f200 x 7) dr := by rw [ef200, q_setr (Or.inr (by decide))]; exact z186
      have z212 : q_ir (q_r f200 x 8) sv := by rw [ef200, q_setr (Or.inr (by decide))]; exact z187
      have z213 : q_ir (q_r f200 fc 0) tr := by rw [ef200, q_setr (Or.inr (by decide))]; exact z188
      have z214 : q_ir (q_r f200 so 0) ba := by rw [ef200, q_setr (Or.inr (by decide))]; exact z189
      have z215 : q_ir (q_r f200 dr 0) nds := by rw [ef200, q_setr (Or.inr (by decide))]; exact z190
      have z216 : q_ir (q_r f200 hist 0) ka := by rw [ef200, q_setr (Or.inr (by decide))]; exact z191
      have z217 : q_ir (q_r f200 now 0) ndn := by rw [ef200, q_setr (Or.inr (by decide))]; exact z192
      have z218 : q_ir (q_r f200 sv 0) nsv := by rw [ef200, q_setr (Or.inr (by decide))]; exact z193
      have z219 : q_ir (q_r f200 scr 0) cmds := by rw [ef200, q_setr (Or.inr (by decide))]; exact z194
      have g220 : tk_tb f200 ba B tn := tk_tb_tr g195 (fun i9 => by rw [ef200, q_setz (Or.inl (fun q => by rw [q, kso] at kba; exact absurd kba (by decide)))])
      have g221 : tk_vn K L 5 f200 now ndn nl9 := tk_vn_tr g196 (by rw [ef200, q_setz (Or.inr (by decide))]) (fun a9 h9 k9 => by rw [ef200, q_setj (Or.inl (fun q => by rw [q, kso] at k9; exact absurd k9 (by decide)))]) (fun i9 => by rw [ef200, q_setr (Or.inl (fun q => by rw [q, kso] at kndn; exact absurd kndn (by decide)))])
      have g222 : tk_vk K L f200 hist ka now ndn := tk_vk_tr g197 (by rw [ef200, q_setz (Or.inl (fun q => by rw [q, kso] at khist; exact absurd khist (by decide)))]) (by rw [ef200, q_setz (Or.inr (by decide))]) (by rw [ef200, q_setz (Or.inr (by decide))]) (fun a9 h9 k9 => by rw [ef200, q_setj (Or.inl (fun q => by rw [q, kso] at k9; exact absurd k9 (by decide)))]) (fun i9 => by rw [ef200, q_setr (Or.inl (fun q => by rw [q, kso] at kndn; exact absurd kndn (by decide)))]) (fun a9 h9 k9 => by rw [ef200, q_setz (Or.inl (fun q => by rw [q, kso] at k9; exact absurd k9 (by decide)))]) (fun a9 h9 k9 => by rw [ef200, q_setj (Or.inl (fun q => by rw [q, kso] at k9; exact absurd k9 (by decide)))]) (fun i9 => by rw [ef200, q_setr (Or.inl (fun q => by rw [q, kso] at kka; exact absurd kka (by decide)))]) (fun a9 h9 k9 => by rw [ef200, q_setr (Or.inl (fun q => by rw [q, kso] at k9; exact absurd k9 (by decide)))]) (fun a9 h9 k9 i9 => by rw [ef200, q_setr (Or.inl (fun q => by rw [q, kso] at k9; exact absurd k9 (by decide)))])
      have g223 : tk_c3 K L f200 cmds := tk_c3_tr g198 (fun i9 => by rw [ef200, q_setr (Or.inl (fun q => by rw [q, kso] at kcmds; exact absurd kcmds (by decide)))])
      refine q_ild_n cx dX11_runScript_24 rfl (lv_at hl 0 rfl) ?_
      refine q_ifne (tgt := 38) cx ⟨by decide, by decide⟩ dX11_runScript_25 (by decide) (fun c224 => ?_) (fun c224 => ?_)
      · refine q_ald_n cx dX11_runScript_38 rfl (lv_at hl 1 rfl) ?_
        refine q_gX11_40 cx hB hx kx z208 dX11_runScript_39 (fun hb225 kb225 => ?_)
        refine q_ald_n cx dX11_runScript_42 rfl (lv_at hl 1 rfl) ?_
        refine q_gX11_54 cx hB hx kx z210 dX11_runScript_43 (fun hb226 kb226 => ?_)
        refine q_cVv (As := [.ref now]) (rest := []) cx hB (fun _ h => h) hN hhist khist (by decide) rfl (f_keep l g hN hB.2.1 nl9 hist hhist khist now hnow know ka hka kka ndn hndn kndn z216 z217 g221 g222) q_cX11_107 q_dX2_keep (by decide) rfl rfl hl.1 rfl (Nat.le_of_ble_eq_true rfl) dX11_runScript_46 (fun H locs f227 h229 hF hB => ?_)
        have t230 := h229
        have z231 : q_is (q_z f227 so 2) 0 := Eq.trans (hF.z hso (by rw [kso]; rfl)) z202
        have z232 : q_is (q_z f227 so 3) (-1) := Eq.trans (hF.z hso (by rw [kso]; rfl)) z203
        have z233 : q_is (q_z f227 so 1) 0 := Eq.trans (hF.z hso (by rw [kso]; rfl)) z201
        have z234 : q_ir (q_r f227 x 0) so := Eq.trans (hF.r hx (by rw [kx]; rfl)) z204
        have z235 : q_ir (q_r f227 x 1) rd := Eq.trans (hF.r hx (by rw [kx]; rfl)) z205
        have z236 : q_ir (q_r f227 x 2) scr := Eq.trans (hF.r hx (by rw [kx]; rfl)) z206
        have z237 : q_ir (q_r f227 x 3) fc := Eq.trans (hF.r hx (by rw [kx]; rfl)) z207
        have z238 : q_ir (q_r f227 x 4) hist := Eq.trans (hF.r hx (by rw [kx]; rfl)) z208
        have z239 : q_ir (q_r f227 x 5) rep := Eq.trans (hF.r hx (by rw [kx]; rfl)) z209
        have z240 : q_ir (q_r f227 x 6) now := Eq.trans (hF.r hx (by rw [kx]; rfl)) z210
        have z241 : q_ir (q_r f227 x 7) dr := Eq.trans (hF.r hx (by rw [kx]; rfl)) z211
        have z242 : q_ir (q_r f227 x 8) sv := Eq.trans (hF.r hx (by rw [kx]; rfl)) z212
        have z243 : q_ir (q_r f227 fc 0) tr := Eq.trans (hF.r hfc (by rw [kfc]; rfl)) z213
        have z244 : q_ir (q_r f227 so 0) ba := Eq.trans (hF.r hso (by rw [kso]; rfl)) z214
        have z245 : q_ir (q_r f227 dr 0) nds := Eq.trans (hF.r hdr (by rw [kdr]; rfl)) z215
        have z246 : q_ir (q_r f227 hist 0) ka := Eq.trans (hF.r hhist (by rw [khist]; rfl)) z216
        have z247 : q_ir (q_r f227 now 0) ndn := Eq.trans (hF.r hnow (by rw [know]; rfl)) z217
        have z248 : q_ir (q_r f227 sv 0) nsv := Eq.trans (hF.r hsv (by rw [ksv]; rfl)) z218
        have z249 : q_ir (q_r f227 scr 0) cmds := Eq.trans (hF.r hscr (by rw [kscr]; rfl)) z219
        have g250 : tk_tb f227 ba B tn := tk_tb_tr g220 (fun i9 => hF.z hba (by rw [kba]; rfl))
        have g251 : tk_vn K L 5 f227 now ndn nl9 := tk_vn_tr g221 (hF.z hnow (by rw [know]; rfl)) (fun a9 h9 k9 => hF.j h9 (by rw [k9]; rfl)) (fun i9 => hF.r hndn (by rw [kndn]; rfl))
        have g252 : tk_c3 K L f227 cmds := tk_c3_tr g223 (fun i9 => hF.r hcmds (by rw [kcmds]; rfl))
        refine q_ald_n cx dX11_runScript_49 rfl (lv_at hl 1 rfl) ?_
        refine q_gX11_26 cx hB hx kx z236 dX11_runScript_50 (fun hb253 kb253 => ?_)
        refine q_ald_n cx dX11_runScript_53 rfl (lv_at hl 1 rfl) ?_
        refine q_gX11_54 cx hB hx kx z240 dX11_runScript_54 (fun hb254 kb254 => ?_)
        refine q_cVi (As := [.ref now]) (rest := []) cx hB (fun _ h => h) hN hscr kscr (by decide) rfl (g_X7_runOn l g hN hB.2.1 scr hscr kscr now hnow know) q_cX11_110 q_dX7_runOn (by decide) rfl rfl hl.1 rfl (Nat.le_of_ble_eq_true rfl) dX11_runScript_57 (fun y256 H locs f255 ry256 h257 hF hB => ?_)
        have z258 : q_is (q_z f255 so 2) 0 := Eq.trans (hF.z hso (by rw [kso]; rfl)) z231
        have z259 : q_is (q_z f255 so 3) (-1) := Eq.trans (hF.z hso (by rw [kso]; rfl)) z232
        have z260 : q_is (q_z f255 so 1) 0 := Eq.trans (hF.z hso (by rw [kso]; rfl)) z233
        have z261 : q_ir (q_r f255 x 0) so := Eq.trans (hF.r hx (by rw [kx]; rfl)) z234
        have z262 : q_ir (q_r f255 x 1) rd := Eq.trans (hF.r hx (by rw [kx]; rfl)) z235
        have z263 : q_ir (q_r f255 x 2) scr := Eq.trans (hF.r hx (by rw [kx]; rfl)) z236
        have z264 : q_ir (q_r f255 x 3) fc := Eq.trans (hF.r hx (by rw [kx]; rfl)) z237
        have z265 : q_ir (q_r f255 x 4) hist := Eq.trans (hF.r hx (by rw [kx]; rfl)) z238
        have z266 : q_ir (q_r f255 x 5) rep := Eq.trans (hF.r hx (by rw [kx]; rfl)) z239
        have z267 : q_ir (q_r f255 x 6) now := Eq.trans (hF.r hx (by rw [kx]; rfl)) z240
        have z268 : q_ir (q_r f255 x 7) dr := Eq.trans (hF.r hx (by rw [kx]; rfl)) z241
        have z269 : q_ir (q_r f255 x 8) sv := Eq.trans (hF.r hx (by rw [kx]; rfl)) z242
        have z270 : q_ir (q_r f255 fc 0) tr := Eq.trans (hF.r hfc (by rw [kfc]; rfl)) z243
        have z271 : q_ir (q_r f255 so 0) ba := Eq.trans (hF.r hso (by rw [kso]; rfl)) z244
        have z272 : q_ir (q_r f255 dr 0) nds := Eq.trans (hF.r hdr (by rw [kdr]; rfl)) z245
        have z273 : q_ir (q_r f255 hist 0) ka := Eq.trans (hF.r hhist (by rw [khist]; rfl)) z246
        have z274 : q_ir (q_r f255 now 0) ndn := Eq.trans (hF.r hnow (by rw [know]; rfl)) z247
        have z275 : q_ir (q_r f255 sv 0) nsv := Eq.trans (hF.r hsv (by rw [ksv]; rfl)) z248
        have z276 : q_ir (q_r f255 scr 0) cmds := Eq.trans (hF.r hscr (by rw [kscr]; rfl)) z249
        have g277 : tk_tb f255 ba B tn := tk_tb_tr g250 (fun i9 => hF.z hba (by rw [kba]; rfl))
        have g278 : tk_vn K L 5 f255 now ndn nl9 := tk_vn_tr g251 (hF.z hnow (by rw [know]; rfl)) (fun a9 h9 k9 => hF.j h9 (by rw [k9]; rfl)) (fun i9 => hF.r hndn (by rw [kndn]; rfl))
        have g279 : tk_c3 K L f255 cmds := tk_c3_tr g252 (fun i9 => hF.r hcmds (by rw [kcmds]; rfl))
        have g280 : tk_vk K L f255 hist ka now ndn := tk_vk_tr t230 (hF.z hhist (by rw [khist]; rfl)) (hF.z hhist (by rw [khist]; rfl)) (hF.z hnow (by rw [know]; rfl)) (fun a9 h9 k9 => hF.j h9 (by rw [k9]; rfl)) (fun i9 => hF.r hndn (by rw [kndn]; rfl)) (fun a9 h9 k9 => hF.z h9 (by rw [k9]; rfl)) (fun a9 h9 k9 => hF.j h9 (by rw [k9]; rfl)) (fun i9 => hF.r hka (by rw [kka]; rfl)) (fun a9 h9 k9 => hF.r h9 (by rw [k9]; rfl)) (fun a9 h9 k9 i9 => hF.r h9 (by rw [k9]; rfl))
        refine W.widen (k := 1) (n := 6) (by decide) (by decide) ?_
        refine vx_ret ?_
        refine q_iret cx hr hlk hB dX11_runScript_60 ⟨by omega, by omega⟩ ?_
        exact ⟨z260, z258, z259, t177, g280⟩
      · exact absurd c224 (by omega)
    · obtain ⟨qy170, t281⟩ := h174
      have z282 : q_is (q_z f169 so 1) tn := Eq.trans (hF.z hso (by rw [kso]; rfl)) hf0
      have z283 : q_ir (q_r f169 x 0) so := Eq.trans (hF.r hx (by rw [kx]; rfl)) hr0
      have z284 : q_ir (q_r f169 x 1) rd := Eq.trans (hF.r hx (by rw [kx]; rfl)) hr1
      have z285 : q_ir (q_r f169 x 2) scr := Eq.trans (hF.r hx (by rw [kx]; rfl)) hr2
      have z286 : q_ir (q_r f169 x 3) fc := Eq.trans (hF.r hx (by rw [kx]; rfl)) hr3
      have z287 : q_ir (q_r f169 x 4) hist := Eq.trans (hF.r hx (by rw [kx]; rfl)) hr4
      have z288 : q_ir (q_r f169 x 5) rep := Eq.trans (hF.r hx (by rw [kx]; rfl)) hr5
      have z289 : q_ir (q_r f169 x 6) now := Eq.trans (hF.r hx (by rw [kx]; rfl)) hr6
      have z290 : q_ir (q_r f169 x 7) dr := Eq.trans (hF.r hx (by rw [kx]; rfl)) hr7
      have z291 : q_ir (q_r f169 x 8) sv := Eq.trans (hF.r hx (by rw [kx]; rfl)) hr8
      have z292 : q_ir (q_r f169 fc 0) tr := Eq.trans (hF.r hfc (by rw [kfc]; rfl)) hr9
      have z293 : q_ir (q_r f169 so 0) ba := Eq.trans (hF.r hso (by rw [kso]; rfl)) hr10
      have z294 : q_ir (q_r f169 dr 0) nds := Eq.trans (hF.r hdr (by rw [kdr]; rfl)) hr11
      have z295 : q_ir (q_r f169 hist 0) ka := Eq.trans (hF.r hhist (by rw [khist]; rfl)) hr12
      have z296 : q_ir (q_r f169 now 0) ndn := Eq.trans (hF.r hnow (by rw [know]; rfl)) hr13
      have z297 : q_ir (q_r f169 sv 0) nsv := Eq.trans (hF.r hsv (by rw [ksv]; rfl)) hr14
      have z298 : q_ir (q_r f169 scr 0) cmds := Eq.trans (hF.r hscr (by rw [kscr]; rfl)) hr15
      have g299 : tk_tb f169 ba B tn := tk_tb_tr htb (fun i9 => hF.z hba (by rw [kba]; rfl))
      have g300 : tk_vn K L 5 f169 now ndn nl9 := tk_vn_tr hvn (hF.z hnow (by rw [know]; rfl)) (fun a9 h9 k9 => hF.j h9 (by rw [k9]; rfl)) (fun i9 => hF.r hndn (by rw [kndn]; rfl))
      have g301 : tk_vk K L f169 hist ka now ndn := tk_vk_tr hvk (hF.z hhist (by rw [khist]; rfl)) (hF.z hhist (by rw [khist]; rfl)) (hF.z hnow (by rw [know]; rfl)) (fun a9 h9 k9 => hF.j h9 (by rw [k9]; rfl)) (fun i9 => hF.r hndn (by rw [kndn]; rfl)) (fun a9 h9 k9 => hF.z h9 (by rw [k9]; rfl)) (fun a9 h9 k9 => hF.j h9 (by rw [k9]; rfl)) (fun i9 => hF.r hka (by rw [kka]; rfl)) (fun a9 h9 k9 => hF.r h9 (by rw [k9]; rfl)) (fun a9 h9 k9 i9 => hF.r h9 (by rw [k9]; rfl))
      have g302 : tk_c3 K L f169 cmds := tk_c3_tr hcj (fun i9 => hF.r hcmds (by rw [kcmds]; rfl))
      subst qy170
      obtain ⟨x303, ex303⟩ : ∃ zz, q_is (q_z f169 so 2) zz := ⟨_, q_isr _⟩
      obtain ⟨lx303, ux303⟩ := q_isb ex303 (q_fib hB.2.1 hso kso (by decide) rfl)
      obtain ⟨x304, ex304⟩ : ∃ zz, q_is (q_z f169 so 3) zz := ⟨_, q_isr _⟩
      obtain ⟨lx304, ux304⟩ := q_isb ex304 (q_fib hB.2.1 hso kso (by decide) rfl)
      refine lv_istore_n (lv' := [(1, .int (q_i 0)), (0, .ref x)]) cx.1 cx.2.1 dX11_runScript_15 rfl hl (by decide) rfl (fun ls hl => ?_)
      refine q_ald_n cx dX11_runScript_16 rfl (lv_at hl 1 rfl) ?_
      refine q_gX11_10 cx hB hx kx z283 dX11_runScript_17 (fun hb305 kb305 => ?_)
      refine q_iconst cx dX11_runScript_20 ?_
      refine q_pX11_79 cx hB hso kso ⟨by decide, by decide⟩ (by decide) (by decide) rfl dX11_runScript_21 (fun H locs f306 ef306 z307 hB => ?_)
      have z308 : q_is (q_z f306 so 2) x303 := by rw [ef306, q_setz (Or.inr (by decide))]; exact ex303
      have z309 : q_is (q_z f306 so 3) x304 := by rw [ef306, q_setz (Or.inr (by decide))]; exact ex304
      have z310 : q_ir (q_r f306 x 0) so := by rw [ef306, q_setr (Or.inr (by decide))]; exact z283
      have z311 : q_ir (q_r f306 x 1) rd := by rw [ef306, q_setr (Or.inl (fun q => by rw [q, kso] at kx; exact absurd kx (by decide)))]; exact z284
      have z312 : q_ir (q_r f306 x 2) scr := by rw [ef306, q_setr (Or.inr (by decide))]; exact z285
      have z313 : q_ir (q_r f306 x 3) fc := by rw [ef306, q_setr (Or.inr (by decide))]; exact z286
      have z314 : q_ir (q_r f306 x 4) hist := by rw [ef306, q_setr (Or.inr (by decide))]; exact z287
      have z315 : q_ir (q_r f306 x 5) rep := by rw [ef306, q_setr (Or.inr (by decide))]; exact z288
      have z316 : q_ir (q_r f306 x 6) now := by rw [ef306, q_setr (Or.inr (by decide))]; exact z289
      have z317 : q_ir (q_r f306 x 7) dr := by rw [ef306, q_setr (Or.inr (by decide))]; exact z290
      have z318 : q_ir (q_r f306 x 8) sv := by rw [ef306, q_setr (Or.inr (by decide))]; exact z291
      have z319 : q_ir (q_r f306 fc 0) tr := by rw [ef306, q_setr (Or.inr (by decide))]; exact z292
      have z320 : q_ir (q_r f306 so 0) ba := by rw [ef306, q_setr (Or.inr (by decide))]; exact z293
      have z321 : q_ir (q_r f306 dr 0) nds := by rw [ef306, q_setr (Or.inr (by decide))]; exact z294
      have z322 : q_ir (q_r f306 hist 0) ka := by rw [ef306, q_setr (Or.inr (by decide))]; exact z295
      have z323 : q_ir (q_r f306 now 0) ndn := by rw [ef306, q_setr (Or.inr (by decide))]; exact z296
      have z324 : q_ir (q_r f306 sv 0) nsv := by rw [ef306, q_setr (Or.inr (by decide))]; exact z297
      have z325 : q_ir (q_r f306 scr 0) cmds := by rw [ef306, q_setr (Or.inr (by decide))]; exact z298
      have g326 : tk_tb f306 ba B tn := tk_tb_tr g299 (fun i9 => by rw [ef306, q_setz (Or.inl (fun q => by rw [q, kso] at kba; exact absurd kba (by decide)))])
      have g327 : tk_vn K L 5 f306 now ndn nl9 := tk_vn_tr g300 (by rw [ef306, q_setz (Or.inr (by decide))]) (fun a9 h9 k9 => by rw [ef306, q_setj (Or.inl (fun q => by rw [q, kso] at k9; exact absurd k9 (by decide)))]) (fun i9 => by rw [ef306, q_setr (Or.inl (fun q => by rw [q, kso] at kndn; exact absurd kndn (by decide)))])
      have g328 : tk_vk K L f306 hist ka now ndn := tk_vk_tr g301 (by rw [ef306, q_setz (Or.inl (fun q => by rw [q, kso] at khist; exact absurd khist (by decide)))]) (by rw [ef306, q_setz (Or.inr (by decide))]) (by rw [ef306, q_setz (Or.inr (by decide))]) (fun a9 h9 k9 => by rw [ef306, q_setj (Or.inl (fun q => by rw [q, kso] at k9; exact absurd k9 (by decide)))]) (fun i9 => by rw [ef306, q_setr (Or.inl (fun q => by rw [q, kso] at kndn; exact absurd kndn (by decide)))]) (fun a9 h9 k9 => by rw [ef306, q_setz (Or.inl (fun q => by rw [q, kso] at k9; exact absurd k9 (by decide)))]) (fun a9 h9 k9 => by rw [ef306, q_setj (Or.inl (fun q => by rw [q, kso] at k9; exact absurd k9 (by decide)))]) (fun i9 => by rw [ef306, q_setr (Or.inl (fun q => by rw [q, kso] at kka; exact absurd kka (by decide)))]) (fun a9 h9 k9 => by rw [ef306, q_setr (Or.inl (fun q => by rw [q, kso] at k9; exact absurd k9 (by decide)))]) (fun a9 h9 k9 i9 => by rw [ef306, q_setr (Or.inl (fun q => by rw [q, kso] at k9; exact absurd k9 (by decide)))])
      have g329 : tk_c3 K L f306 cmds := tk_c3_tr g302 (fun i9 => by rw [ef306, q_setr (Or.inl (fun q => by rw [q, kso] at kcmds; exact absurd kcmds (by decide)))])
      refine q_ild_n cx dX11_runScript_24 rfl (lv_at hl 0 rfl) ?_
      refine q_ifne (tgt := 38) cx ⟨by decide, by decide⟩ dX11_runScript_25 (by decide) (fun c330 => ?_) (fun c330 => ?_)
      · exact absurd c330 (by omega)
      · exact q_throw (text := "the script has an error") hfl cx hlk htab hX hB hl.1 (by decide +kernel) q_h880 q_h152 (by decide +kernel) q_xl87a q_xl87b q_xl87c dX11_runScript_28 dX11_runScript_31 (Or.inl ⟨dX11_runScript_32, dX11_runScript_34, dX11_runScript_37⟩) (by decide) (by decide) ⟨rfl, (tk_erp (tk_erx t281 ex303 ex304) z308 z309), z307, g328⟩
set_option maxHeartbeats 4000000 in
set_option maxRecDepth 100000 in
theorem f_xerrorCode (l : Launch) (g : q_G) {K : Nat → Nat} {L : List Nat} (hN : L.Nodup) {f : Nat → va_E} (hT : q_Ty g K L f) (x : Nat) (hx : x ∈ L) (kx : K x = 11) (so : Nat) (hso : so ∈ L) (kso : K so = 8) (rd : Nat) (hrd : rd ∈ L) (krd : K rd = 9) (scr : Nat) (hscr : scr ∈ L) (kscr : K scr = 7) (fc : Nat) (hfc : fc ∈ L) (kfc : K fc = 1) (hist : Nat) (hhist : hist ∈ L) (khist : K hist = 2) (rep : Nat) (hrep : rep ∈ L) (krep : K rep = 6) (now : Nat) (hnow : now ∈ L) (know : K now = 10) (dr : Nat) (hdr : dr ∈ L) (kdr : K dr = 13) (sv : Nat) (hsv : sv ∈ L) (ksv : K sv = 14) (tr : Nat) (htr : tr ∈ L) (ktr : K tr = 15) (ba : Nat) (hba : ba ∈ L) (kba : K ba = 142) (nds : Nat) (hnds : nds ∈ L) (knds : K nds = 111) (ka : Nat) (hka : ka ∈ L) (kka : K ka = 140) (ndn : Nat) (hndn : ndn ∈ L) (kndn : K ndn = 110) (nsv : Nat) (hnsv : nsv ∈ L) (knsv : K nsv = 112) (cmds : Nat) (hcmds : cmds ∈ L) (kcmds : K cmds = 141) (ek : Int) (lek : (-2147483648) ≤ ek) (uek : ek ≤ 2147483647) (hf0 : q_is (q_z f so 2) ek) (hr0 : q_ir (q_r f x 0) so) (hr1 : q_ir (q_r f x 1) rd) (hr2 : q_ir (q_r f x 2) scr) (hr3 : q_ir (q_r f x 3) fc) (hr4 : q_ir (q_r f x 4) hist) (hr5 : q_ir (q_r f x 5) rep) (hr6 : q_ir (q_r f x 6) now) (hr7 : q_ir (q_r f x 7) dr) (hr8 : q_ir (q_r f x 8) sv) (hr9 : q_ir (q_r f fc 0) tr) (hr10 : q_ir (q_r f so 0) ba) (hr11 : q_ir (q_r f dr 0) nds) (hr12 : q_ir (q_r f hist 0) ka) (hr13 : q_ir (q_r f now 0) ndn) (hr14 : q_ir (q_r f sv 0) nsv) (hr15 : q_ir (q_r f scr 0) cmds) : q_Ct l g K L yX11_errorCode cX11_errorCode 1 (some .int) 0 0 [.ref x] f [] (q_Pi (fun (z : Int) (f1 : Nat → va_E) => f = f1 ∧ z = ek)) := by
  refine q_ofb (by decide +kernel) hN hT (Nat.le_of_ble_eq_true rfl) ?_
  intro p e s m below meth c ls cx hr hlk hB hl
  have hl : lv_has ls 1 [(0, .ref x)] := hl
  obtain ⟨H, hH⟩ : ∃ H : Heap, H = s.heap := ⟨_, rfl⟩
  obtain ⟨locs, hlocs⟩ : ∃ z : List Loc, z = [] := ⟨_, rfl⟩
  rw [← hH, ← hlocs] at hB
  rw [← hH, ← hlocs]
  refine q_ald_n cx dX11_errorCode_0 rfl (lv_at hl 0 rfl) ?_
  refine q_gX11_10 cx hB hx kx hr0 dX11_errorCode_1 (fun hb3 kb3 => ?_)
  refine q_gX11_114 cx hB hso kso hf0 dX11_errorCode_4 (fun lb4 ub4 => ?_)
  refine q_iret cx hr hlk hB dX11_errorCode_7 ⟨by omega, by omega⟩ ?_
  exact ⟨rfl, rfl⟩
set_option maxHeartbeats 4000000 in
set_option maxRecDepth 100000 in
theorem f_xerrorPosition (l : Launch) (g : q_G) {K : Nat → Nat} {L : List Nat} (hN : L.Nodup) {f : Nat → va_E} (hT : q_Ty g K L f) (x : Nat) (hx : x ∈ L) (kx : K x = 11) (so : Nat) (hso : so ∈ L) (kso : K so = 8) (rd : Nat) (hrd : rd ∈ L) (krd : K rd = 9) (scr : Nat) (hscr : scr ∈ L) (kscr : K scr = 7) (fc : Nat) (hfc : fc ∈ L) (kfc : K fc = 1) (hist : Nat) (hhist : hist ∈ L) (khist : K hist = 2) (rep : Nat) (hrep : rep ∈ L) (krep : K rep = 6) (now : Nat) (hnow : now ∈ L) (know : K now = 10) (dr : Nat) (hdr : dr ∈ L) (kdr : K dr = 13) (sv : Nat) (hsv : sv ∈ L) (ksv : K sv = 14) (tr : Nat) (htr : tr ∈ L) (ktr : K tr = 15) (ba : Nat) (hba : ba ∈ L) (kba : K ba = 142) (nds : Nat) (hnds : nds ∈ L) (knds : K nds = 111) (ka : Nat) (hka : ka ∈ L) (kka : K ka = 140) (ndn : Nat) (hndn : ndn ∈ L) (kndn : K ndn = 110) (nsv : Nat) (hnsv : nsv ∈ L) (knsv : K nsv = 112) (cmds : Nat) (hcmds : cmds ∈ L) (kcmds : K cmds = 141) (ek : Int) (lek : (-2147483648) ≤ ek) (uek : ek ≤ 2147483647) (hf0 : q_is (q_z f so 3) ek) (hr0 : q_ir (q_r f x 0) so) (hr1 : q_ir (q_r f x 1) rd) (hr2 : q_ir (q_r f x 2) scr) (hr3 : q_ir (q_r f x 3) fc) (hr4 : q_ir (q_r f x 4) hist) (hr5 : q_ir (q_r f x 5) rep) (hr6 : q_ir (q_r f x 6) now) (hr7 : q_ir (q_r f x 7) dr) (hr8 : q_ir (q_r f x 8) sv) (hr9 : q_ir (q_r f fc 0) tr) (hr10 : q_ir (q_r f so 0) ba) (hr11 : q_ir (q_r f dr 0) nds) (hr12 : q_ir (q_r f hist 0) ka) (hr13 : q_ir (q_r f now 0) ndn) (hr14 : q_ir (q_r f sv 0) nsv) (hr15 : q_ir (q_r f scr 0) cmds) : q_Ct l g K L yX11_errorPosition cX11_errorPosition 1 (some .int) 0 0 [.ref x] f [] (q_Pi (fun (z : Int) (f1 : Nat → va_E) => f = f1 ∧ z = ek)) := by
  refine q_ofb (by decide +kernel) hN hT (Nat.le_of_ble_eq_true rfl) ?_
  intro p e s m below meth c ls cx hr hlk hB hl
  have hl : lv_has ls 1 [(0, .ref x)] := hl
  obtain ⟨H, hH⟩ : ∃ H : Heap, H = s.heap := ⟨_, rfl⟩
  obtain ⟨locs, hlocs⟩ : ∃ z : List Loc, z = [] := ⟨_, rfl⟩
  rw [← hH, ← hlocs] at hB
  rw [← hH, ← hlocs]
  refine q_ald_n cx dX11_errorPosition_0 rfl (lv_at hl 0 rfl) ?_
  refine q_gX11_10 cx hB hx kx hr0 dX11_errorPosition_1 (fun hb3 kb3 => ?_)
  refine q_gX11_117 cx hB hso kso hf0 dX11_errorPosition_4 (fun lb4 ub4 => ?_)
  refine q_iret cx hr hlk hB dX11_errorPosition_7 ⟨by omega, by omega⟩ ?_
  exact ⟨rfl, rfl⟩
set_option maxHeartbeats 4000000 in
set_option maxRecDepth 100000 in
theorem f_w6runScript (l : Launch) (g : q_G) (ad : Nat → Nat) {K : Nat → Nat} {L : List Nat} (hN : L.Nodup) {f : Nat → va_E} (hT : q_Ty g K L f) (hfl : l.stackTraces = false) (B : Nat → Int) (nl9 : List (List Int)) (x : Nat) (hx : x ∈ L) (kx : K x = 11) (out : Nat) (hout : out ∈ L) (kout : K out = 168) (so : Nat) (hso : so ∈ L) (kso : K so = 8) (rd : Nat) (hrd : rd ∈ L) (krd : K rd = 9) (scr : Nat) (hscr : scr ∈ L) (kscr : K scr = 7) (fc : Nat) (hfc : fc ∈ L) (kfc : K fc = 1) (hist : Nat) (hhist : hist ∈ L) (khist : K hist = 2) (rep : Nat) (hrep : rep ∈ L) (krep : K rep = 6) (now : Nat) (hnow : now ∈ L) (know : K now = 10) (dr : Nat) (hdr : dr ∈ L) (kdr : K dr = 13) (sv : Nat) (hsv : sv ∈ L) (ksv : K sv = 14) (tr : Nat) (htr : tr ∈ L) (ktr : K tr = 15) (ba : Nat) (hba : ba ∈ L) (kba : K ba = 142) (nds : Nat) (hnds : nds ∈ L) (knds : K nds = 111) (ka : Nat) (hka : ka ∈ L) (kka : K ka = 140) (ndn : Nat) (hndn : ndn ∈ L) (kndn : K ndn = 110) (nsv : Nat) (hnsv : nsv ∈ L) (knsv : K nsv = 112) (cmds : Nat) (hcmds : cmds ∈ L) (kcmds : K cmds = 141) (tn : Int) (ltn : 0 ≤ tn) (utn : tn ≤ 600) (hf0 : q_is (q_z f so 1) tn) (hr0 : q_ir (q_r f x 0) so) (hr1 : q_ir (q_r f x 1) rd) (hr2 : q_ir (q_r f x 2) scr) (hr3 : q_ir (q_r f x 3) fc) (hr4 : q_ir (q_r f x 4) hist) (hr5 : q_ir (q_r f x 5) rep) (hr6 : q_ir (q_r f x 6) now) (hr7 : q_ir (q_r f x 7) dr) (hr8 : q_ir (q_r f x 8) sv) (hr9 : q_ir (q_r f fc 0) tr) (hr10 : q_ir (q_r f so 0) ba) (hr11 : q_ir (q_r f dr 0) nds) (hr12 : q_ir (q_r f hist 0) ka) (hr13 : q_ir (q_r f now 0) ndn) (hr14 : q_ir (q_r f sv 0) nsv) (hr15 : q_ir (q_r f scr 0) cmds) (htb : tk_tb f ba B tn) (hvn : tk_vn K L 5 f now ndn nl9) (hvk : tk_vk K L f hist ka now ndn) (hcj : tk_c3 K L f cmds) : q_Wt l g ad K L yL_runScript cL_runScript 3 (some .int) [(0, 8, 11, 19)] 9 196 1 6 [.ref x, .ref out] f [(0, 0, 6), (2, 1, 2), (3, 2, 4), (4, 0, 7), (5, 1, 1), (5, 3, 4), (5, 6, 9), (7, 1, 4), (8, 1, 9), (10, 5, 5), (10, 11, 15), (16, 3, 12), (20, 0, 8), (24, 0, 4), (28, 0, 7), (168, 0, 0)] (q_Pi (fun (z : Int) (f1 : Nat → va_E) => (z = 0 ∧ q_is (q_z f1 so 1) 0 ∧ q_is (q_z f1 so 2) 0 ∧ q_is (q_z f1 so 3) (-1) ∧ (tk_U B tn nl9 (tk_S B tn 0) 0 0 = tk_ok 0) ∧ (tk_vk K L f1 hist ka now ndn)) ∨ (z = 1 ∧ q_is (q_z f1 so 1) 0 ∧ (tk_U B tn nl9 (tk_S B tn 0) 0 0 = tk_er (q_z f1 so 2) (q_z f1 so 3)) ∧ (tk_vk K L f1 hist ka now ndn)))) := by
  refine q_wofb (by decide +kernel) hN hT (Nat.le_of_ble_eq_true rfl) ?_
  intro p e s m below meth c ls cx hr hlk htab hX hB hl
  have hl : lv_has ls 3 [(0, .ref x), (1, .ref out)] := hl
  obtain ⟨H, hH⟩ : ∃ H : Heap, H = s.heap := ⟨_, rfl⟩
  obtain ⟨locs, hlocs⟩ : ∃ z : List Loc, z = [] := ⟨_, rfl⟩
  rw [← hH, ← hlocs] at hB
  rw [← hH, ← hlocs]
  refine q_ald_n cx dL_runScript_0 rfl (lv_at hl 1 rfl) ?_
  refine q_iconst cx dL_runScript_1 ?_
  refine q_ald_n cx dL_runScript_2 rfl (lv_at hl 0 rfl) ?_
  refine q_cXV (As := []) (rest := [.int (q_i 0), .ref out]) cx hX hB (fun _ h => h) (fun _ h _ => h) hN hx kx (by decide) rfl (f_x6runScript l g ad hN hB.2.1 hfl B nl9 x hx kx so hso kso rd hrd krd scr hscr kscr fc hfc kfc hist hhist khist rep hrep krep now hnow know dr hdr kdr sv hsv ksv tr htr ktr ba hba kba nds hnds knds ka hka kka ndn hndn kndn nsv hnsv knsv cmds hcmds kcmds tn (by omega) (by omega) hf0 hr0 hr1 hr2 hr3 hr4 hr5 hr6 hr7 hr8 hr9 hr10 hr11 hr12 hr13 hr14 hr15 htb hvn hvk hcj) q_cL_25 q_dX11_runScript (by decide) rfl rfl hl.1 rfl (Nat.le_of_ble_eq_true rfl) dL_runScript_3 (fun E9 ce9 q9 H locs f79 hex hF hB hcell hcv hcl => ?_) (fun v9 H locs f76 h78 hF hB => ?_)
  · rcases hex with ⟨rfl, t80, z81, g82⟩
    · have z83 : q_ir (q_r f79 x 0) so := Eq.trans (hF.r hx (by rw [kx]; rfl)) hr0
      have z84 : q_ir (q_r f79 x 1) rd := Eq.trans (hF.r hx (by rw [kx]; rfl)) hr1
      have z85 : q_ir (q_r f79 x 2) scr := Eq.trans (hF.r hx (by rw [kx]; rfl)) hr2
      have z86 : q_ir (q_r f79 x 3) fc := Eq.trans (hF.r hx (by rw [kx]; rfl)) hr3
      have z87 : q_ir (q_r f79 x 4) hist := Eq.trans (hF.r hx (by rw [kx]; rfl)) hr4
      have z88 : q_ir (q_r f79 x 5) rep := Eq.trans (hF.r hx (by rw [kx]; rfl)) hr5
      have z89 : q_ir (q_r f79 x 6) now := Eq.trans (hF.r hx (by rw [kx]; rfl)) hr6
      have z90 : q_ir (q_r f79 x 7) dr := Eq.trans (hF.r hx (by rw [kx]; rfl)) hr7
      have z91 : q_ir (q_r f79 x 8) sv := Eq.trans (hF.r hx (by rw [kx]; rfl)) hr8
      have z92 : q_ir (q_r f79 fc 0) tr := Eq.trans (hF.r hfc (by rw [kfc]; rfl)) hr9
      have z93 : q_ir (q_r f79 so 0) ba := Eq.trans (hF.r hso (by rw [kso]; rfl)) hr10
      have z94 : q_ir (q_r f79 dr 0) nds := Eq.trans (hF.r hdr (by rw [kdr]; rfl)) hr11
      have z95 : q_ir (q_r f79 hist 0) ka := Eq.trans (hF.r hhist (by rw [khist]; rfl)) hr12
      have z96 : q_ir (q_r f79 now 0) ndn := Eq.trans (hF.r hnow (by rw [know]; rfl)) hr13
      have z97 : q_ir (q_r f79 sv 0) nsv := Eq.trans (hF.r hsv (by rw [ksv]; rfl)) hr14
      have z98 : q_ir (q_r f79 scr 0) cmds := Eq.trans (hF.r hscr (by rw [kscr]; rfl)) hr15
      have g99 : tk_tb f79 ba B tn := tk_tb_tr htb (fun i9 => hF.z hba (by rw [kba]; rfl))
      have g100 : tk_vn K L 5 f79 now ndn nl9 := tk_vn_tr hvn (hF.z hnow (by rw [know]; rfl)) (fun a9 h9 k9 => hF.j h9 (by rw [k9]; rfl)) (fun i9 => hF.r hndn (by rw [kndn]; rfl))
      have g101 : tk_c3 K L f79 cmds := tk_c3_tr hcj (fun i9 => hF.r hcmds (by rw [kcmds]; rfl))
      refine vx_catch (E := "java/lang/IllegalArgumentException") (name := "java/lang/IllegalArgumentException") cx.2.2.2.1 [] ⟨0, 8, 11, 19⟩ [] (htab.trans rfl) (q_pnil) (by decide) (by decide) (cx.2.2.2.2 _ q_h875) (va_Nw.use rfl (hX.2.2.2.1 (.castable "java/lang/IllegalArgumentException" "java/lang/IllegalArgumentException") (by decide +kernel))) hcell hcv hcl ?_
      refine lv_astore_n (lv' := [(2, .ref q9), (0, .ref x), (1, .ref out)]) cx.1 cx.2.1 dL_runScript_11 rfl hl (by decide) rfl (fun ls hl => ?_)
      refine q_iconst cx dL_runScript_12 ?_
      refine W.widen (k := 1) (n := 6) (by decide) (by decide) ?_
      refine q_iret cx hr hlk hB dL_runScript_13 ⟨by decide, by decide⟩ ?_
      exact (Or.inr ⟨rfl, z81, t80, g82⟩)
  · obtain ⟨y77, rfl, ry77, h78⟩ := h78
    refine W.eq (g2 := F0 m 6 ls [.int (q_i y77), .int (q_i 0), .ref out]) rfl ?_
    obtain ⟨z102, z103, z104, t105, g106⟩ := h78
    have z107 : q_ir (q_r f76 x 0) so := Eq.trans (hF.r hx (by rw [kx]; rfl)) hr0
    have z108 : q_ir (q_r f76 x 1) rd := Eq.trans (hF.r hx (by rw [kx]; rfl)) hr1
    have z109 : q_ir (q_r f76 x 2) scr := Eq.trans (hF.r hx (by rw [kx]; rfl)) hr2
    have z110 : q_ir (q_r f76 x 3) fc := Eq.trans (hF.r hx (by rw [kx]; rfl)) hr3
    have z111 : q_ir (q_r f76 x 4) hist := Eq.trans (hF.r hx (by rw [kx]; rfl)) hr4
    have z112 : q_ir (q_r f76 x 5) rep := Eq.trans (hF.r hx (by rw [kx]; rfl)) hr5
    have z113 : q_ir (q_r f76 x 6) now := Eq.trans (hF.r hx (by rw [kx]; rfl)) hr6
    have z114 : q_ir (q_r f76 x 7) dr := Eq.trans (hF.r hx (by rw [kx]; rfl)) hr7
    have z115 : q_ir (q_r f76 x 8) sv := Eq.trans (hF.r hx (by rw [kx]; rfl)) hr8
    have z116 : q_ir (q_r f76 fc 0) tr := Eq.trans (hF.r hfc (by rw [kfc]; rfl)) hr9
    have z117 : q_ir (q_r f76 so 0) ba := Eq.trans (hF.r hso (by rw [kso]; rfl)) hr10
    have z118 : q_ir (q_r f76 dr 0) nds := Eq.trans (hF.r hdr (by rw [kdr]; rfl)) hr11
    have z119 : q_ir (q_r f76 hist 0) ka := Eq.trans (hF.r hhist (by rw [khist]; rfl)) hr12
    have z120 : q_ir (q_r f76 now 0) ndn := Eq.trans (hF.r hnow (by rw [know]; rfl)) hr13
    have z121 : q_ir (q_r f76 sv 0) nsv := Eq.trans (hF.r hsv (by rw [ksv]; rfl)) hr14
    have z122 : q_ir (q_r f76 scr 0) cmds := Eq.trans (hF.r hscr (by rw [kscr]; rfl)) hr15
    have g123 : tk_tb f76 ba B tn := tk_tb_tr htb (fun i9 => hF.z hba (by rw [kba]; rfl))
    have g124 : tk_vn K L 5 f76 now ndn nl9 := tk_vn_tr hvn (hF.z hnow (by rw [know]; rfl)) (fun a9 h9 k9 => hF.j h9 (by rw [k9]; rfl)) (fun i9 => hF.r hndn (by rw [kndn]; rfl))
    have g125 : tk_c3 K L f76 cmds := tk_c3_tr hcj (fun i9 => hF.r hcmds (by rw [kcmds]; rfl))
    refine q_i2l cx ⟨by omega, by omega⟩ dL_runScript_6 ?_
    refine q_last (n := 1) cx hB hout kout (by decide) rfl rfl (by decide) (by decide) (by decide) rfl rfl dL_runScript_7 (fun H locs f126 ef126 z127 hB => ?_)
    have z128 : q_is (q_z f126 so 1) 0 := by rw [ef126, q_setz (Or.inr (by decide))]; exact z102
    have z129 : q_is (q_z f126 so 2) 0 := by rw [ef126, q_setz (Or.inr (by decide))]; exact z103
    have z130 : q_is (q_z f126 so 3) (-1) := by rw [ef126, q_setz (Or.inr (by decide))]; exact z104
    have z131 : q_ir (q_r f126 x 0) so := by rw [ef126, q_setr (Or.inl (fun q => by rw [q, kout] at kx; exact absurd kx (by decide)))]; exact z107
    have z132 : q_ir (q_r f126 x 1) rd := by rw [ef126, q_setr (Or.inr (by decide))]; exact z108
    have z133 : q_ir (q_r f126 x 2) scr := by rw [ef126, q_setr (Or.inr (by decide))]; exact z109
    have z134 : q_ir (q_r f126 x 3) fc := by rw [ef126, q_setr (Or.inr (by decide))]; exact z110
    have z135 : q_ir (q_r f126 x 4) hist := by rw [ef126, q_setr (Or.inr (by decide))]; exact z111
    have z136 : q_ir (q_r f126 x 5) rep := by rw [ef126, q_setr (Or.inr (by decide))]; exact z112
    have z137 : q_ir (q_r f126 x 6) now := by rw [ef126, q_setr (Or.inr (by decide))]; exact z113
    have z138 : q_ir (q_r f126 x 7) dr := by rw [ef126, q_setr (Or.inr (by decide))]; exact z114
    have z139 : q_ir (q_r f126 x 8) sv := by rw [ef126, q_setr (Or.inr (by decide))]; exact z115
    have z140 : q_ir (q_r f126 fc 0) tr := by rw [ef126, q_setr (Or.inl (fun q => by rw [q, kout] at kfc; exact absurd kfc (by decide)))]; exact z116
    have z141 : q_ir (q_r f126 so 0) ba := by rw [ef126, q_setr (Or.inl (fun q => by rw [q, kout] at kso; exact absurd kso (by decide)))]; exact z117
    have z142 : q_ir (q_r f126 dr 0) nds := by rw [ef126, q_setr (Or.inl (fun q => by rw [q, kout] at kdr; exact absurd kdr (by decide)))]; exact z118
    have z143 : q_ir (q_r f126 hist 0) ka := by rw [ef126, q_setr (Or.inl (fun q => by rw [q, kout] at khist; exact absurd khist (by decide)))]; exact z119
    have z144 : q_ir (q_r f126 now 0) ndn := by rw [ef126, q_setr (Or.inl (fun q => by rw [q, kout] at know; exact absurd know (by decide)))]; exact z120
    have z145 : q_ir (q_r f126 sv 0) nsv := by rw [ef126, q_setr (Or.inl (fun q => by rw [q, kout] at ksv; exact absurd ksv (by decide)))]; exact z121
    have z146 : q_ir (q_r f126 scr 0) cmds := by rw [ef126, q_setr (Or.inl (fun q => by rw [q, kout] at kscr; exact absurd kscr (by decide)))]; exact z122
    have g147 : tk_tb f126 ba B tn := tk_tb_tr g123 (fun i9 => by rw [ef126, q_setz (Or.inl (fun q => by rw [q, kout] at kba; exact absurd kba (by decide)))])
    have g148 : tk_vn K L 5 f126 now ndn nl9 := tk_vn_tr g124 (by rw [ef126, q_setz (Or.inr (by decide))]) (fun a9 h9 k9 => by rw [ef126, q_setj (Or.inl (fun q => by rw [q, kout] at k9; exact absurd k9 (by decide)))]) (fun i9 => by rw [ef126, q_setr (Or.inl (fun q => by rw [q, kout] at kndn; exact absurd kndn (by decide)))])
    have g149 : tk_c3 K L f126 cmds := tk_c3_tr g125 (fun i9 => by rw [ef126, q_setr (Or.inl (fun q => by rw [q, kout] at kcmds; exact absurd kcmds (by decide)))])
    have g150 : tk_vk K L f126 hist ka now ndn := tk_vk_tr g106 (by rw [ef126, q_setz (Or.inr (by decide))]) (by rw [ef126, q_setz (Or.inr (by decide))]) (by rw [ef126, q_setz (Or.inr (by decide))]) (fun a9 h9 k9 => by rw [ef126, q_setj (Or.inl (fun q => by rw [q, kout] at k9; exact absurd k9 (by decide)))]) (fun i9 => by rw [ef126, q_setr (Or.inl (fun q => by rw [q, kout] at kndn; exact absurd kndn (by decide)))]) (fun a9 h9 k9 => by rw [ef126, q_setz (Or.inl (fun q => by rw [q, kout] at k9; exact absurd k9 (by decide)))]) (fun a9 h9 k9 => by rw [ef126, q_setj (Or.inl (fun q => by rw [q, kout] at k9; exact absurd k9 (by decide)))]) (fun i9 => by rw [ef126, q_setr (Or.inl (fun q => by rw [q, kout] at kka; exact absurd kka (by decide)))]) (fun a9 h9 k9 => by rw [ef126, q_setr (Or.inl (fun q => by rw [q, kout] at k9; exact absurd k9 (by decide)))]) (fun a9 h9 k9 i9 => by rw [ef126, q_setr (Or.inl (fun q => by rw [q, kout] at k9; exact absurd k9 (by decide)))])
    refine lv_goto (tgt := 14) cx.1 cx.2.1 dL_runScript_8 (by decide) ?_
    refine q_iconst cx dL_runScript_14 ?_
    refine W.widen (k := 1) (n := 6) (by decide) (by decide) ?_
    refine q_iret cx hr hlk hB dL_runScript_15 ⟨by decide, by decide⟩ ?_
    exact (Or.inl ⟨rfl, z128, z129, z130, t105, g150⟩)
