set_option maxHeartbeats 4000000 in
set_option maxRecDepth 100000 in
theorem f_readAllS (l : Launch) (g : q_G) (ad : Nat → Nat) {K : Nat → Nat} {L : List Nat} (hN : L.Nodup) {f : Nat → va_E} (hT : q_Ty g K L f) (hfl : l.stackTraces = false) (B : Nat → Int) (nl9 : List (List Int)) (scr : Nat) (hscr : scr ∈ L) (kscr : K scr = 7) (so : Nat) (hso : so ∈ L) (kso : K so = 8) (now : Nat) (hnow : now ∈ L) (know : K now = 10) (ba : Nat) (hba : ba ∈ L) (kba : K ba = 142) (ndn : Nat) (hndn : ndn ∈ L) (kndn : K ndn = 110) (cmds : Nat) (hcmds : cmds ∈ L) (kcmds : K cmds = 141) (tn : Int) (ltn : 0 ≤ tn) (utn : tn ≤ 600) (hf0 : q_is (q_z f so 1) tn) (hr0 : q_ir (q_r f so 0) ba) (hr1 : q_ir (q_r f now 0) ndn) (hr2 : q_ir (q_r f scr 0) cmds) (htb : tk_tb f ba B tn) (hvn : tk_vn K L 5 f now ndn nl9) (hcj : tk_c3 K L f cmds) : q_Xt l g ad K L yX7_readAll cX7_readAll 5 (some .boolean) 7 151 0 0 [.ref scr, .ref so, .ref now] f [(0, 0, 5), (7, 1, 1), (7, 3, 4), (8, 2, 9)] (q_Pi (fun (z : Int) (f1 : Nat → va_E) => (z = 1 ∧ q_is (q_z f1 so 2) 0 ∧ q_is (q_z f1 so 3) (-1) ∧ (tk_U B tn nl9 (tk_S B tn 0) 0 0 = tk_ok 0)) ∨ (z = 0 ∧ (tk_U B tn nl9 (tk_S B tn 0) 0 0 = tk_er (q_z f1 so 2) (q_z f1 so 3))))) (fun (_ : String) (_ : Nat → va_E) => False) := by
  refine q_xofb (by decide +kernel) hN hT (Nat.le_of_ble_eq_true rfl) ?_
  intro p e s m below meth c ls cx hr hlk htab hX hB hl
  have hl : lv_has ls 5 [(0, .ref scr), (1, .ref so), (2, .ref now)] := hl
  have J21 : ∀ (n : Nat) (f21 : Nat → va_E) (v21_3 : Int) (lv21_3 : 0 ≤ v21_3) (uv21_3 : v21_3 ≤ 600) (w21_so_2 : Int) (lw21_so_2 : 0 ≤ w21_so_2) (uw21_so_2 : w21_so_2 ≤ 0) (w21_so_3 : Int) (lw21_so_3 : (-1) ≤ w21_so_3) (uw21_so_3 : w21_so_3 ≤ (-1)) (w21_scr_1 : Int) (lw21_scr_1 : 0 ≤ w21_scr_1) (uw21_scr_1 : w21_scr_1 ≤ 30) (w21_scr_3 : Int) (lw21_scr_3 : (-1) ≤ w21_scr_3) (uw21_scr_3 : w21_scr_3 ≤ 29) (w21_scr_4 : Int) (lw21_scr_4 : 0 ≤ w21_scr_4) (uw21_scr_4 : w21_scr_4 ≤ 2) (w21_so_8 : Int) (lw21_so_8 : 0 ≤ w21_so_8) (uw21_so_8 : w21_so_8 ≤ 600) (hj_so_1 : q_is (q_z f21 so 1) tn) (hj_so_2 : q_is (q_z f21 so 2) w21_so_2) (hj_so_3 : q_is (q_z f21 so 3) w21_so_3) (hj_scr_1 : q_is (q_z f21 scr 1) w21_scr_1) (hj_scr_3 : q_is (q_z f21 scr 3) w21_scr_3) (hj_scr_4 : q_is (q_z f21 scr 4) w21_scr_4) (hj_so_8 : q_is (q_z f21 so 8) w21_so_8) (hq_so_0 : q_ir (q_r f21 so 0) ba) (hq_now_0 : q_ir (q_r f21 now 0) ndn) (hq_scr_0 : q_ir (q_r f21 scr 0) cmds) (hcj21 : tk_c3 K L f21 cmds) (htb21 : tk_tb f21 ba B tn) (htc21 : tk_tc f21 so B tn) (hvn21 : tk_vn K L 5 f21 now ndn nl9) (hrl21_0 : 0 ≤ 1 * w21_so_8 + -1 * v21_3 + 0) (hrl21_1 : 0 ≤ 1 * tn + -1 * w21_so_8 + 0) (hal : tk_U B tn nl9 (tk_S B tn 0) 0 0 = tk_U B tn nl9 w21_so_8 w21_scr_4 w21_scr_1) (hch : tk_ch K L f21 cmds w21_scr_1 w21_scr_3 w21_scr_4) (hmu : (Int.toNat (2147483647 - v21_3)) < n) (H : Heap) (locs : List Loc) (hB : q_B g K L (fun q => q ∈ L) [(0, 0, 5), (7, 1, 1), (7, 3, 4), (8, 2, 9)] f f21 s H locs) (ls : Array Slot) (hl : lv_has ls 5 [(0, .ref scr), (1, .ref so), (2, .ref now), (3, .int (q_i v21_3))]), W p l e { frames := 7, cells := 0, slots := 0, locals := 151 } s m ([.ref scr, .ref so, .ref now] : List Value).toArray below meth c H locs 0 0 (vx_MQ below (q_Q g K L [(0, 0, 5), (7, 1, 1), (7, 3, 4), (8, 2, 9)] f (q_Pi (fun (z : Int) (f1 : Nat → va_E) => (z = 1 ∧ q_is (q_z f1 so 2) 0 ∧ q_is (q_z f1 so 3) (-1) ∧ (tk_U B tn nl9 (tk_S B tn 0) 0 0 = tk_ok 0)) ∨ (z = 0 ∧ (tk_U B tn nl9 (tk_S B tn 0) 0 0 = tk_er (q_z f1 so 2) (q_z f1 so 3)))))) (q_XC g K L [(0, 0, 5), (7, 1, 1), (7, 3, 4), (8, 2, 9)] f (fun (_ : String) (_ : Nat → va_E) => False)) ([.ref scr, .ref so, .ref now] : List Value).toArray s 0 0 (fun q => q ∈ L)) (F0 m 21 ls []) := by
    intro n
    induction n with
    | zero =>
      intro f21 v21_3 lv21_3 uv21_3 w21_so_2 lw21_so_2 uw21_so_2 w21_so_3 lw21_so_3 uw21_so_3 w21_scr_1 lw21_scr_1 uw21_scr_1 w21_scr_3 lw21_scr_3 uw21_scr_3 w21_scr_4 lw21_scr_4 uw21_scr_4 w21_so_8 lw21_so_8 uw21_so_8 hj_so_1 hj_so_2 hj_so_3 hj_scr_1 hj_scr_3 hj_scr_4 hj_so_8 hq_so_0 hq_now_0 hq_scr_0 hcj21 htb21 htc21 hvn21 hrl21_0 hrl21_1 hal hch hmu
      exact absurd hmu (Nat.not_lt_zero _)
    | succ n ih21 =>
      intro f21 v21_3 lv21_3 uv21_3 w21_so_2 lw21_so_2 uw21_so_2 w21_so_3 lw21_so_3 uw21_so_3 w21_scr_1 lw21_scr_1 uw21_scr_1 w21_scr_3 lw21_scr_3 uw21_scr_3 w21_scr_4 lw21_scr_4 uw21_scr_4 w21_so_8 lw21_so_8 uw21_so_8 hj_so_1 hj_so_2 hj_so_3 hj_scr_1 hj_scr_3 hj_scr_4 hj_so_8 hq_so_0 hq_now_0 hq_scr_0 hcj21 htb21 htc21 hvn21 hrl21_0 hrl21_1 hal hch hmu H locs hB ls hl
      refine q_ild_n cx dX7_readAll_21 rfl (lv_at hl 3 rfl) ?_
      have hci9 := tk_ch_is hch
      refine q_sipush cx dX7_readAll_22 rfl ?_
      refine q_icgt (tgt := 81) cx ⟨by omega, by omega⟩ ⟨by decide, by decide⟩ dX7_readAll_25 (by decide) (fun c4532 => ?_) (fun c4532 => ?_)
      · exact absurd c4532 (by omega)
      · refine q_ald_n cx dX7_readAll_28 rfl (lv_at hl 1 rfl) ?_
        refine q_cVi (As := []) (rest := []) cx hB (fun _ h => h) hN hso kso (by decide) rfl (f_isAtEnd l g hN hB.2.1 B so hso kso ba hba kba tn (by omega) (by omega) w21_so_8 (by omega) (by omega) hj_so_1 hj_so_8 hq_so_0 htc21 htb21) q_cX7_33 q_dX8_isAtEnd (by decide) rfl rfl hl.1 rfl (Nat.le_of_ble_eq_true rfl) dX7_readAll_29 (fun y4534 H locs f4533 ry4534 h4535 hF hB => ?_)
        rcases h4535 with h4536 | h4537
        · obtain ⟨rfl, qy4534, t4538⟩ := h4536
          subst qy4534
          refine q_ifne (tgt := 81) cx ⟨by decide, by decide⟩ dX7_readAll_32 (by decide) (fun c4539 => ?_) (fun c4539 => ?_)
          · refine q_ald_n cx dX7_readAll_81 rfl (lv_at hl 0 rfl) ?_
            refine q_gX7_22 cx hB hscr kscr hj_scr_3 dX7_readAll_82 (fun lb4540 ub4540 => ?_)
            refine q_iconst cx dX7_readAll_85 ?_
            refine q_iceq (tgt := 97) cx ⟨by omega, by omega⟩ ⟨by decide, by decide⟩ dX7_readAll_86 (by decide) (fun c4541 => ?_) (fun c4541 => ?_)
            · refine q_iconst cx dX7_readAll_97 ?_
              refine lv_goto (tgt := 102) cx.1 cx.2.1 dX7_readAll_98 (by decide) ?_
              refine W.widen (k := 0) (n := 0) (by decide) (by decide) ?_
              refine vx_ret ?_
              refine q_zret cx hr hlk hB dX7_readAll_102 (by decide) (by decide) ?_
              exact (Or.inl ⟨rfl, (Eq.trans hj_so_2 (by omega)), (Eq.trans hj_so_3 (by omega)), (hal.trans (tk_U_end t4538 (by omega)))⟩)
            · refine q_ald_n cx dX7_readAll_89 rfl (lv_at hl 1 rfl) ?_
              refine q_iconst cx dX7_readAll_90 ?_
              refine q_cVi (As := [.int (q_i 1)]) (rest := []) cx hB (fun _ h => h) hN hso kso (by decide) rfl (f_fail l g hN hB.2.1 B so hso kso 1 (by decide) (by decide) ba hba kba tn (by omega) (by omega) w21_so_8 (by omega) (by omega) hj_so_1 hj_so_8 hq_so_0 htc21 htb21) q_cX7_49 q_dX8_fail (by decide) rfl rfl hl.1 rfl (Nat.le_of_ble_eq_true rfl) dX7_readAll_91 (fun y4543 H locs f4542 ry4543 h4544 hF hB => ?_)
              obtain ⟨qy4543, z4545, z4546⟩ := h4544
              have z4547 : q_is (q_z f4542 so 1) tn := Eq.trans (hF.z hso (by rw [kso]; rfl)) hj_so_1
              have z4548 : q_is (q_z f4542 scr 1) w21_scr_1 := Eq.trans (hF.z hscr (by rw [kscr]; rfl)) hj_scr_1
              have z4549 : q_is (q_z f4542 scr 3) w21_scr_3 := Eq.trans (hF.z hscr (by rw [kscr]; rfl)) hj_scr_3
              have z4550 : q_is (q_z f4542 scr 4) w21_scr_4 := Eq.trans (hF.z hscr (by rw [kscr]; rfl)) hj_scr_4
              have z4551 : q_is (q_z f4542 so 8) w21_so_8 := Eq.trans (hF.z hso (by rw [kso]; rfl)) hj_so_8
              have z4552 : q_ir (q_r f4542 so 0) ba := Eq.trans (hF.r hso (by rw [kso]; rfl)) hq_so_0
              have z4553 : q_ir (q_r f4542 now 0) ndn := Eq.trans (hF.r hnow (by rw [know]; rfl)) hq_now_0
              have z4554 : q_ir (q_r f4542 scr 0) cmds := Eq.trans (hF.r hscr (by rw [kscr]; rfl)) hq_scr_0
              have g4555 : tk_tb f4542 ba B tn := tk_tb_tr htb21 (fun i9 => hF.z hba (by rw [kba]; rfl))
              have g4556 : tk_vn K L 5 f4542 now ndn nl9 := tk_vn_tr hvn21 (hF.z hnow (by rw [know]; rfl)) (fun a9 h9 k9 => hF.j h9 (by rw [k9]; rfl)) (fun i9 => hF.r hndn (by rw [kndn]; rfl))
              have g4557 : tk_c3 K L f4542 cmds := tk_c3_tr hcj21 (fun i9 => hF.r hcmds (by rw [kcmds]; rfl))
              have g4558 : tk_tc f4542 so B tn := tk_tc_tr htc21 (hF.z hso (by rw [kso]; rfl)) (hF.z hso (by rw [kso]; rfl)) (hF.z hso (by rw [kso]; rfl)) (hF.j hso (by rw [kso]; rfl)) (hF.z hso (by rw [kso]; rfl))
              have g4559 : tk_ch K L f4542 cmds w21_scr_1 w21_scr_3 w21_scr_4 := tk_ch_tr hch (fun a9 h9 k9 => hF.z h9 (by rw [k9]; rfl)) (fun i9 => hF.r hcmds (by rw [kcmds]; rfl))
              subst qy4543
              refine q_ifeq (tgt := 101) cx ⟨by decide, by decide⟩ dX7_readAll_94 (by decide) (fun c4560 => ?_) (fun c4560 => ?_)
              · refine q_iconst cx dX7_readAll_101 ?_
                refine W.widen (k := 0) (n := 0) (by decide) (by decide) ?_
                refine vx_ret ?_
                refine q_zret cx hr hlk hB dX7_readAll_102 (by decide) (by decide) ?_
                exact (Or.inr ⟨rfl, (hal.trans (tk_U_open t4538 (by omega) z4545 z4546))⟩)
              · exact absurd c4560 (by omega)
          · exact absurd c4539 (by omega)
        · obtain ⟨rfl, qy4534, t4561⟩ := h4537
          subst qy4534
          refine q_ifne (tgt := 81) cx ⟨by decide, by decide⟩ dX7_readAll_32 (by decide) (fun c4562 => ?_) (fun c4562 => ?_)
          · exact absurd c4562 (by omega)
          · refine q_ald_n cx dX7_readAll_35 rfl (lv_at hl 0 rfl) ?_
            refine q_gX7_22 cx hB hscr kscr hj_scr_3 dX7_readAll_36 (fun lb4563 ub4563 => ?_)
            refine q_iconst cx dX7_readAll_39 ?_
            refine q_iceq (tgt := 60) cx ⟨by omega, by omega⟩ ⟨by decide, by decide⟩ dX7_readAll_40 (by decide) (fun c4564 => ?_) (fun c4564 => ?_)
            · refine q_ald_n cx dX7_readAll_60 rfl (lv_at hl 0 rfl) ?_
              refine q_ald_n cx dX7_readAll_61 rfl (lv_at hl 1 rfl) ?_
              refine q_ald_n cx dX7_readAll_62 rfl (lv_at hl 2 rfl) ?_
              refine q_cXV (As := [.ref so, .ref now]) (rest := []) cx hX hB (fun _ h => h) (fun _ h _ => h) hN hscr kscr (by decide) rfl (f_readCommand l g ad hN hB.2.1 hfl B nl9 scr hscr kscr so hso kso now hnow know ba hba kba ndn hndn kndn cmds hcmds kcmds tn (by omega) (by omega) w21_so_8 (by omega) (by omega) w21_scr_1 (by omega) (by omega) w21_scr_3 (by omega) (by omega) w21_scr_4 (by omega) (by omega) hj_so_1 hj_so_8 (Eq.trans hj_so_2 (by omega)) (Eq.trans hj_so_3 (by omega)) hj_scr_1 hj_scr_3 hj_scr_4 hq_so_0 hq_now_0 hq_scr_0 htc21 htb21 hvn21 hch) q_cX7_45 q_dX7_readCommand (by decide) rfl rfl hl.1 rfl (Nat.le_of_ble_eq_true rfl) dX7_readAll_63 (fun E9 ce9 q9 H locs f4568 hex hF hB hcell hcv hcl => ?_) (fun v9 H locs f4565 h4567 hF hB => ?_)
              · exact hex.elim
              · obtain ⟨y4566, rfl, ry4566, h4567⟩ := h4567
                refine W.eq (g2 := F0 m 66 ls [.int (q_i y4566)]) rfl ?_
                rcases h4567 with h4569 | h4570
                · obtain ⟨qy4566, z4571, z4572, z4573, lz4574, uz4574, lz4575, uz4575, t4576, t4577, t4578, g4579⟩ := h4569
                  have z4580 : q_is (q_z f4565 so 1) tn := Eq.trans (hF.z hso (by rw [kso]; rfl)) hj_so_1
                  have z4581 : q_ir (q_r f4565 so 0) ba := Eq.trans (hF.r hso (by rw [kso]; rfl)) hq_so_0
                  have z4582 : q_ir (q_r f4565 now 0) ndn := Eq.trans (hF.r hnow (by rw [know]; rfl)) hq_now_0
                  have z4583 : q_ir (q_r f4565 scr 0) cmds := Eq.trans (hF.r hscr (by rw [kscr]; rfl)) hq_scr_0
                  have g4584 : tk_tb f4565 ba B tn := tk_tb_tr htb21 (fun i9 => hF.z hba (by rw [kba]; rfl))
                  have g4585 : tk_vn K L 5 f4565 now ndn nl9 := tk_vn_tr hvn21 (hF.z hnow (by rw [know]; rfl)) (fun a9 h9 k9 => hF.j h9 (by rw [k9]; rfl)) (fun i9 => hF.r hndn (by rw [kndn]; rfl))
                  have g4586 : tk_c3 K L f4565 cmds := tk_c3_tr hcj21 (fun i9 => hF.r hcmds (by rw [kcmds]; rfl))
                  obtain ⟨x4587, ex4587⟩ : ∃ zz, q_is (q_z f4565 scr 3) zz := ⟨_, q_isr _⟩
                  obtain ⟨lx4587, ux4587⟩ := q_isb ex4587 ⟨lz4574, uz4574⟩
                  obtain ⟨x4588, ex4588⟩ : ∃ zz, q_is (q_z f4565 scr 4) zz := ⟨_, q_isr _⟩
                  obtain ⟨lx4588, ux4588⟩ := q_isb ex4588 ⟨lz4575, uz4575⟩
                  subst qy4566
                  obtain ⟨x4589, ex4589⟩ : ∃ zz, q_is (q_z f4565 so 8) zz := ⟨_, q_isr _⟩
                  obtain ⟨lx4589, ux4589⟩ := q_isb ex4589 (q_fib hB.2.1 hso kso (by decide) rfl)
                  obtain ⟨-, l0x4589, u0x4589, -, -⟩ := tk_tc_n g4579 ex4589
                  have g4590 : tk_ch K L f4565 cmds (w21_scr_1 + 1) x4587 x4588 := tk_ch_f t4577 z4573 ex4587 ex4588
                  have g4591 : tk_sx B tn nl9 w21_so_8 w21_scr_4 w21_scr_1 = tk_ok (x4589, x4588, (w21_scr_1 + 1)) := (Eq.trans (tk_sx_cd (fun h9 => absurd h9.1 (by omega))) (tk_xof t4576 ex4589 ex4588 z4573))
                  have g4592 := tk_sx_in g4591 (by omega) (by omega)
                  have g4593 : w21_so_8 < x4589 := g4592.1
                  refine lv_istore (lv' := [(4, .int (q_i 1)), (0, .ref scr), (1, .ref so), (2, .ref now), (3, .int (q_i v21_3))]) cx.1 cx.2.1 dX7_readAll_66 hl (by decide) rfl (fun ls hl => ?_)
                  refine lv_iload cx.1 cx.2.1 dX7_readAll_68 (lv_at hl 0 rfl) ?_
                  refine q_ifne (tgt := 75) cx ⟨by decide, by decide⟩ dX7_readAll_70 (by decide) (fun c4594 => ?_) (fun c4594 => ?_)
                  · refine q_iinc (lv' := [(3, .int (q_i (v21_3 + 1))), (4, .int (q_i 1)), (0, .ref scr), (1, .ref so), (2, .ref now)]) cx dX7_readAll_75 hl (k := 4) rfl (by decide) rfl (fun ls hl => ?_)
                    refine lv_goto (tgt := 21) cx.1 cx.2.1 dX7_readAll_78 (by decide) ?_
                    exact ih21 f4565 (v21_3 + 1) (by omega) (by omega) 0 (by decide) (by decide) (-1) (by decide) (by decide) (w21_scr_1 + 1) (by omega) (by omega) x4587 (by omega) (by omega) x4588 (by omega) (by omega) x4589 (by omega) (by omega) z4580 z4571 z4572 z4573 ex4587 ex4588 ex4589 z4581 z4582 z4583 g4586 g4584 g4579 g4585 (by omega) (by omega) (hal.trans (tk_U_ok (by omega) (by omega) t4561 g4591)) g4590 (by omega) H locs hB ls (lv_sub hl [2, 3, 4, 0] rfl)
                  · exact absurd c4594 (by omega)
                · obtain ⟨qy4566, t4595, g4596⟩ := h4570
                  have z4597 : q_is (q_z f4565 so 1) tn := Eq.trans (hF.z hso (by rw [kso]; rfl)) hj_so_1
                  have z4598 : q_ir (q_r f4565 so 0) ba := Eq.trans (hF.r hso (by rw [kso]; rfl)) hq_so_0
                  have z4599 : q_ir (q_r f4565 now 0) ndn := Eq.trans (hF.r hnow (by rw [know]; rfl)) hq_now_0
                  have z4600 : q_ir (q_r f4565 scr 0) cmds := Eq.trans (hF.r hscr (by rw [kscr]; rfl)) hq_scr_0
                  have g4601 : tk_tb f4565 ba B tn := tk_tb_tr htb21 (fun i9 => hF.z hba (by rw [kba]; rfl))
                  have g4602 : tk_vn K L 5 f4565 now ndn nl9 := tk_vn_tr hvn21 (hF.z hnow (by rw [know]; rfl)) (fun a9 h9 k9 => hF.j h9 (by rw [k9]; rfl)) (fun i9 => hF.r hndn (by rw [kndn]; rfl))
                  have g4603 : tk_c3 K L f4565 cmds := tk_c3_tr hcj21 (fun i9 => hF.r hcmds (by rw [kcmds]; rfl))
                  subst qy4566
                  obtain ⟨x4604, ex4604⟩ : ∃ zz, q_is (q_z f4565 so 8) zz := ⟨_, q_isr _⟩
                  obtain ⟨lx4604, ux4604⟩ := q_isb ex4604 (q_fib hB.2.1 hso kso (by decide) rfl)
                  obtain ⟨-, l0x4604, u0x4604, -, -⟩ := tk_tc_n g4596 ex4604
                  refine lv_istore (lv' := [(4, .int (q_i 0)), (0, .ref scr), (1, .ref so), (2, .ref now), (3, .int (q_i v21_3))]) cx.1 cx.2.1 dX7_readAll_66 hl (by decide) rfl (fun ls hl => ?_)
                  refine lv_iload cx.1 cx.2.1 dX7_readAll_68 (lv_at hl 0 rfl) ?_
                  refine q_ifne (tgt := 75) cx ⟨by decide, by decide⟩ dX7_readAll_70 (by decide) (fun c4605 => ?_) (fun c4605 => ?_)
                  · exact absurd c4605 (by omega)
                  · refine q_iconst cx dX7_readAll_73 ?_
                    refine W.widen (k := 0) (n := 0) (by decide) (by decide) ?_
                    refine vx_ret ?_
                    refine q_zret cx hr hlk hB dX7_readAll_74 (by decide) (by decide) ?_
                    exact (Or.inr ⟨rfl, (hal.trans (tk_U_er t4561 (Eq.trans (tk_sx_cd (fun h9 => absurd h9.1 (by omega))) t4595)))⟩)
            · refine q_ald_n cx dX7_readAll_43 rfl (lv_at hl 1 rfl) ?_
              refine q_bipush cx dX7_readAll_44 rfl ?_
              have hkd9 : 1 ≤ w21_scr_4 := by omega
              have hki9 : 0 ≤ w21_scr_3 := by omega
              refine q_cVi (As := [.int (q_i 41)]) (rest := []) cx hB (fun _ h => h) hN hso kso (by decide) rfl (f_isMark l g hN hB.2.1 B so hso kso 41 (by decide) (by decide) ba hba kba tn (by omega) (by omega) w21_so_8 (by omega) (by omega) hj_so_1 hj_so_8 hq_so_0 htc21 htb21) q_cX7_37 q_dX8_isMark (by decide) rfl rfl hl.1 rfl (Nat.le_of_ble_eq_true rfl) dX7_readAll_46 (fun y4607 H locs f4606 ry4607 h4608 hF hB => ?_)
              rcases h4608 with h4609 | h4610
              · obtain ⟨rfl, qy4607, t4611⟩ := h4609
                subst qy4607
                refine q_ifeq (tgt := 60) cx ⟨by decide, by decide⟩ dX7_readAll_49 (by decide) (fun c4612 => ?_) (fun c4612 => ?_)
                · exact absurd c4612 (by omega)
                · refine q_ald_n cx dX7_readAll_52 rfl (lv_at hl 0 rfl) ?_
                  refine q_ald_n cx dX7_readAll_53 rfl (lv_at hl 1 rfl) ?_
                  refine q_cVi (As := [.ref so]) (rest := []) cx hB (fun _ h => h) hN hscr kscr (by decide) rfl (f_closeRepeat l g hN hB.2.1 B scr hscr kscr so hso kso ba hba kba cmds hcmds kcmds tn (by omega) (by omega) w21_so_8 (by omega) (by omega) w21_scr_1 (by omega) (by omega) w21_scr_3 (by omega) (by omega) w21_scr_4 (by omega) (by omega) hj_so_1 hj_so_8 (Eq.trans hj_so_2 (by omega)) (Eq.trans hj_so_3 (by omega)) hj_scr_1 hj_scr_3 hj_scr_4 hq_so_0 hq_scr_0 htc21 htb21 hch) q_cX7_41 q_dX7_closeRepeat (by decide) rfl rfl hl.1 rfl (Nat.le_of_ble_eq_true rfl) dX7_readAll_54 (fun y4614 H locs f4613 ry4614 h4615 hF hB => ?_)
                  rcases h4615 with h4616 | h4617
                  · obtain ⟨qy4614, z4618, z4619, z4620, lz4621, uz4621, z4622, t4623, t4624, g4625⟩ := h4616
                    have z4626 : q_is (q_z f4613 so 1) tn := Eq.trans (hF.z hso (by rw [kso]; rfl)) hj_so_1
                    have z4627 : q_is (q_z f4613 scr 1) w21_scr_1 := Eq.trans (hF.z hscr (by rw [kscr]; rfl)) hj_scr_1
                    have z4628 : q_ir (q_r f4613 so 0) ba := Eq.trans (hF.r hso (by rw [kso]; rfl)) hq_so_0
                    have z4629 : q_ir (q_r f4613 now 0) ndn := Eq.trans (hF.r hnow (by rw [know]; rfl)) hq_now_0
                    have z4630 : q_ir (q_r f4613 scr 0) cmds := Eq.trans (hF.r hscr (by rw [kscr]; rfl)) hq_scr_0
                    have g4631 : tk_tb f4613 ba B tn := tk_tb_tr htb21 (fun i9 => hF.z hba (by rw [kba]; rfl))
                    have g4632 : tk_vn K L 5 f4613 now ndn nl9 := tk_vn_tr hvn21 (hF.z hnow (by rw [know]; rfl)) (fun a9 h9 k9 => hF.j h9 (by rw [k9]; rfl)) (fun i9 => hF.r hndn (by rw [kndn]; rfl))
                    have g4633 : tk_c3 K L f4613 cmds := tk_c3_tr hcj21 (fun i9 => hF.r hcmds (by rw [kcmds]; rfl))
                    have g4634 : tk_ch K L f4613 cmds w21_scr_1 w21_scr_3 w21_scr_4 := tk_ch_tr hch (fun a9 h9 k9 => hF.z h9 (by rw [k9]; rfl)) (fun i9 => hF.r hcmds (by rw [kcmds]; rfl))
                    obtain ⟨x4635, ex4635⟩ : ∃ zz, q_is (q_z f4613 scr 3) zz := ⟨_, q_isr _⟩
                    obtain ⟨lx4635, ux4635⟩ := q_isb ex4635 ⟨lz4621, uz4621⟩
                    subst qy4614
                    obtain ⟨x4636, ex4636⟩ : ∃ zz, q_is (q_z f4613 so 8) zz := ⟨_, q_isr _⟩
                    obtain ⟨lx4636, ux4636⟩ := q_isb ex4636 (q_fib hB.2.1 hso kso (by decide) rfl)
                    obtain ⟨-, l0x4636, u0x4636, -, -⟩ := tk_tc_n g4625 ex4636
                    have g4637 : tk_ch K L f4613 cmds w21_scr_1 x4635 (w21_scr_4 - 1) := tk_ch_f t4624 z4620 ex4635 z4622
                    have g4638 : tk_sx B tn nl9 w21_so_8 w21_scr_4 w21_scr_1 = tk_ok (x4636, (w21_scr_4 - 1), w21_scr_1) := (tk_sx_cl (by omega) t4611 (tk_okx t4623 ex4636) (by omega))
                    have g4639 := tk_sx_in g4638 (by omega) (by omega)
                    have g4640 : w21_so_8 < x4636 := g4639.1
                    refine lv_goto (tgt := 66) cx.1 cx.2.1 dX7_readAll_57 (by decide) ?_
                    refine lv_istore (lv' := [(4, .int (q_i 1)), (0, .ref scr), (1, .ref so), (2, .ref now), (3, .int (q_i v21_3))]) cx.1 cx.2.1 dX7_readAll_66 hl (by decide) rfl (fun ls hl => ?_)
                    refine lv_iload cx.1 cx.2.1 dX7_readAll_68 (lv_at hl 0 rfl) ?_
                    refine q_ifne (tgt := 75) cx ⟨by decide, by decide⟩ dX7_readAll_70 (by decide) (fun c4641 => ?_) (fun c4641 => ?_)
                    · refine q_iinc (lv' := [(3, .int (q_i (v21_3 + 1))), (4, .int (q_i 1)), (0, .ref scr), (1, .ref so), (2, .ref now)]) cx dX7_readAll_75 hl (k := 4) rfl (by decide) rfl (fun ls hl => ?_)
                      refine lv_goto (tgt := 21) cx.1 cx.2.1 dX7_readAll_78 (by decide) ?_
                      exact ih21 f4613 (v21_3 + 1) (by omega) (by omega) 0 (by decide) (by decide) (-1) (by decide) (by decide) w21_scr_1 (by omega) (by omega) x4635 (by omega) (by omega) (w21_scr_4 - 1) (by omega) (by omega) x4636 (by omega) (by omega) z4626 z4618 z4619 z4620 ex4635 z4622 ex4636 z4628 z4629 z4630 g4633 g4631 g4625 g4632 (by omega) (by omega) (hal.trans (tk_U_ok (by omega) (by omega) t4561 g4638)) g4637 (by omega) H locs hB ls (lv_sub hl [2, 3, 4, 0] rfl)
                    · exact absurd c4641 (by omega)
                  · obtain ⟨qy4614, t4642, g4643⟩ := h4617
                    have z4644 : q_is (q_z f4613 so 1) tn := Eq.trans (hF.z hso (by rw [kso]; rfl)) hj_so_1
                    have z4645 : q_is (q_z f4613 scr 1) w21_scr_1 := Eq.trans (hF.z hscr (by rw [kscr]; rfl)) hj_scr_1
                    have z4646 : q_ir (q_r f4613 so 0) ba := Eq.trans (hF.r hso (by rw [kso]; rfl)) hq_so_0
                    have z4647 : q_ir (q_r f4613 now 0) ndn := Eq.trans (hF.r hnow (by rw [know]; rfl)) hq_now_0
                    have z4648 : q_ir (q_r f4613 scr 0) cmds := Eq.trans (hF.r hscr (by rw [kscr]; rfl)) hq_scr_0
                    have g4649 : tk_tb f4613 ba B tn := tk_tb_tr htb21 (fun i9 => hF.z hba (by rw [kba]; rfl))
                    have g4650 : tk_vn K L 5 f4613 now ndn nl9 := tk_vn_tr hvn21 (hF.z hnow (by rw [know]; rfl)) (fun a9 h9 k9 => hF.j h9 (by rw [k9]; rfl)) (fun i9 => hF.r hndn (by rw [kndn]; rfl))
                    have g4651 : tk_c3 K L f4613 cmds := tk_c3_tr hcj21 (fun i9 => hF.r hcmds (by rw [kcmds]; rfl))
                    have g4652 : tk_ch K L f4613 cmds w21_scr_1 w21_scr_3 w21_scr_4 := tk_ch_tr hch (fun a9 h9 k9 => hF.z h9 (by rw [k9]; rfl)) (fun i9 => hF.r hcmds (by rw [kcmds]; rfl))
                    subst qy4614
                    obtain ⟨x4653, ex4653⟩ : ∃ zz, q_is (q_z f4613 so 8) zz := ⟨_, q_isr _⟩
                    obtain ⟨lx4653, ux4653⟩ := q_isb ex4653 (q_fib hB.2.1 hso kso (by decide) rfl)
                    obtain ⟨-, l0x4653, u0x4653, -, -⟩ := tk_tc_n g4643 ex4653
                    refine lv_goto (tgt := 66) cx.1 cx.2.1 dX7_readAll_57 (by decide) ?_
                    refine lv_istore (lv' := [(4, .int (q_i 0)), (0, .ref scr), (1, .ref so), (2, .ref now), (3, .int (q_i v21_3))]) cx.1 cx.2.1 dX7_readAll_66 hl (by decide) rfl (fun ls hl => ?_)
                    refine lv_iload cx.1 cx.2.1 dX7_readAll_68 (lv_at hl 0 rfl) ?_
                    refine q_ifne (tgt := 75) cx ⟨by decide, by decide⟩ dX7_readAll_70 (by decide) (fun c4654 => ?_) (fun c4654 => ?_)
                    · exact absurd c4654 (by omega)
                    · refine q_iconst cx dX7_readAll_73 ?_
                      refine W.widen (k := 0) (n := 0) (by decide) (by decide) ?_
                      refine vx_ret ?_
                      refine q_zret cx hr hlk hB dX7_readAll_74 (by decide) (by decide) ?_
                      exact (Or.inr ⟨rfl, (hal.trans (tk_U_er t4561 (tk_sx_cle (by omega) t4611 t4642)))⟩)
              · obtain ⟨rfl, qy4607, t4655⟩ := h4610
                subst qy4607
                refine q_ifeq (tgt := 60) cx ⟨by decide, by decide⟩ dX7_readAll_49 (by decide) (fun c4656 => ?_) (fun c4656 => ?_)
                · refine q_ald_n cx dX7_readAll_60 rfl (lv_at hl 0 rfl) ?_
                  refine q_ald_n cx dX7_readAll_61 rfl (lv_at hl 1 rfl) ?_
                  refine q_ald_n cx dX7_readAll_62 rfl (lv_at hl 2 rfl) ?_
                  refine q_cXV (As := [.ref so, .ref now]) (rest := []) cx hX hB (fun _ h => h) (fun _ h _ => h) hN hscr kscr (by decide) rfl (f_readCommand l g ad hN hB.2.1 hfl B nl9 scr hscr kscr so hso kso now hnow know ba hba kba ndn hndn kndn cmds hcmds kcmds tn (by omega) (by omega) w21_so_8 (by omega) (by omega) w21_scr_1 (by omega) (by omega) w21_scr_3 (by omega) (by omega) w21_scr_4 (by omega) (by omega) hj_so_1 hj_so_8 (Eq.trans hj_so_2 (by omega)) (Eq.trans hj_so_3 (by omega)) hj_scr_1 hj_scr_3 hj_scr_4 hq_so_0 hq_now_0 hq_scr_0 htc21 htb21 hvn21 hch) q_cX7_45 q_dX7_readCommand (by decide) rfl rfl hl.1 rfl (Nat.le_of_ble_eq_true rfl) dX7_readAll_63 (fun E9 ce9 q9 H locs f4660 hex hF hB hcell hcv hcl => ?_) (fun v9 H locs f4657 h4659 hF hB => ?_)
                  · exact hex.elim
                  · obtain ⟨y4658, rfl, ry4658, h4659⟩ := h4659
                    refine W.eq (g2 := F0 m 66 ls [.int (q_i y4658)]) rfl ?_
                    rcases h4659 with h4661 | h4662
                    · obtain ⟨qy4658, z4663, z4664, z4665, lz4666, uz4666, lz4667, uz4667, t4668, t4669, t4670, g4671⟩ := h4661
                      have z4672 : q_is (q_z f4657 so 1) tn := Eq.trans (hF.z hso (by rw [kso]; rfl)) hj_so_1
                      have z4673 : q_ir (q_r f4657 so 0) ba := Eq.trans (hF.r hso (by rw [kso]; rfl)) hq_so_0
                      have z4674 : q_ir (q_r f4657 now 0) ndn := Eq.trans (hF.r hnow (by rw [know]; rfl)) hq_now_0
                      have z4675 : q_ir (q_r f4657 scr 0) cmds := Eq.trans (hF.r hscr (by rw [kscr]; rfl)) hq_scr_0
                      have g4676 : tk_tb f4657 ba B tn := tk_tb_tr htb21 (fun i9 => hF.z hba (by rw [kba]; rfl))
                      have g4677 : tk_vn K L 5 f4657 now ndn nl9 := tk_vn_tr hvn21 (hF.z hnow (by rw [know]; rfl)) (fun a9 h9 k9 => hF.j h9 (by rw [k9]; rfl)) (fun i9 => hF.r hndn (by rw [kndn]; rfl))
                      have g4678 : tk_c3 K L f4657 cmds := tk_c3_tr hcj21 (fun i9 => hF.r hcmds (by rw [kcmds]; rfl))
                      obtain ⟨x4679, ex4679⟩ : ∃ zz, q_is (q_z f4657 scr 3) zz := ⟨_, q_isr _⟩
                      obtain ⟨lx4679, ux4679⟩ := q_isb ex4679 ⟨lz4666, uz4666⟩
                      obtain ⟨x4680, ex4680⟩ : ∃ zz, q_is (q_z f4657 scr 4) zz := ⟨_, q_isr _⟩
                      obtain ⟨lx4680, ux4680⟩ := q_isb ex4680 ⟨lz4667, uz4667⟩
                      subst qy4658
                      obtain ⟨x4681, ex4681⟩ : ∃ zz, q_is (q_z f4657 so 8) zz := ⟨_, q_isr _⟩
                      obtain ⟨lx4681, ux4681⟩ := q_isb ex4681 (q_fib hB.2.1 hso kso (by decide) rfl)
                      obtain ⟨-, l0x4681, u0x4681, -, -⟩ := tk_tc_n g4671 ex4681
                      have g4682 : tk_ch K L f4657 cmds (w21_scr_1 + 1) x4679 x4680 := tk_ch_f t4669 z4665 ex4679 ex4680
                      have g4683 : tk_sx B tn nl9 w21_so_8 w21_scr_4 w21_scr_1 = tk_ok (x4681, x4680, (w21_scr_1 + 1)) := (Eq.trans (tk_sx_cd (fun h9 => absurd h9.2 t4655)) (tk_xof t4668 ex4681 ex4680 z4665))
                      have g4684 := tk_sx_in g4683 (by omega) (by omega)
                      have g4685 : w21_so_8 < x4681 := g4684.1
                      refine lv_istore (lv' := [(4, .int (q_i 1)), (0, .ref scr), (1, .ref so), (2, .ref now), (3, .int (q_i v21_3))]) cx.1 cx.2.1 dX7_readAll_66 hl (by decide) rfl (fun ls hl => ?_)
                      refine lv_iload cx.1 cx.2.1 dX7_readAll_68 (lv_at hl 0 rfl) ?_
                      refine q_ifne (tgt := 75) cx ⟨by decide, by decide⟩ dX7_readAll_70 (by decide) (fun c4686 => ?_) (fun c4686 => ?_)
                      · refine q_iinc (lv' := [(3, .int (q_i (v21_3 + 1))), (4, .int (q_i 1)), (0, .ref scr), (1, .ref so), (2, .ref now)]) cx dX7_readAll_75 hl (k := 4) rfl (by decide) rfl (fun ls hl => ?_)
                        refine lv_goto (tgt := 21) cx.1 cx.2.1 dX7_readAll_78 (by decide) ?_
                        exact ih21 f4657 (v21_3 + 1) (by omega) (by omega) 0 (by decide) (by decide) (-1) (by decide) (by decide) (w21_scr_1 + 1) (by omega) (by omega) x4679 (by omega) (by omega) x4680 (by omega) (by omega) x4681 (by omega) (by omega) z4672 z4663 z4664 z4665 ex4679 ex4680 ex4681 z4673 z4674 z4675 g4678 g4676 g4671 g4677 (by omega) (by omega) (hal.trans (tk_U_ok (by omega) (by omega) t4561 g4683)) g4682 (by omega) H locs hB ls (lv_sub hl [2, 3, 4, 0] rfl)
                      · exact absurd c4686 (by omega)
                    · obtain ⟨qy4658, t4687, g4688⟩ := h4662
                      have z4689 : q_is (q_z f4657 so 1) tn := Eq.trans (hF.z hso (by rw [kso]; rfl)) hj_so_1
                      have z4690 : q_ir (q_r f4657 so 0) ba := Eq.trans (hF.r hso (by rw [kso]; rfl)) hq_so_0
                      have z4691 : q_ir (q_r f4657 now 0) ndn := Eq.trans (hF.r hnow (by rw [know]; rfl)) hq_now_0
                      have z4692 : q_ir (q_r f4657 scr 0) cmds := Eq.trans (hF.r hscr (by rw [kscr]; rfl)) hq_scr_0
                      have g4693 : tk_tb f4657 ba B tn := tk_tb_tr htb21 (fun i9 => hF.z hba (by rw [kba]; rfl))
                      have g4694 : tk_vn K L 5 f4657 now ndn nl9 := tk_vn_tr hvn21 (hF.z hnow (by rw [know]; rfl)) (fun a9 h9 k9 => hF.j h9 (by rw [k9]; rfl)) (fun i9 => hF.r hndn (by rw [kndn]; rfl))
                      have g4695 : tk_c3 K L f4657 cmds := tk_c3_tr hcj21 (fun i9 => hF.r hcmds (by rw [kcmds]; rfl))
                      subst qy4658
                      obtain ⟨x4696, ex4696⟩ : ∃ zz, q_is (q_z f4657 so 8) zz := ⟨_, q_isr _⟩
                      obtain ⟨lx4696, ux4696⟩ := q_isb ex4696 (q_fib hB.2.1 hso kso (by decide) rfl)
                      obtain ⟨-, l0x4696, u0x4696, -, -⟩ := tk_tc_n g4688 ex4696
                      refine lv_istore (lv' := [(4, .int (q_i 0)), (0, .ref scr), (1, .ref so), (2, .ref now), (3, .int (q_i v21_3))]) cx.1 cx.2.1 dX7_readAll_66 hl (by decide) rfl (fun ls hl => ?_)
                      refine lv_iload cx.1 cx.2.1 dX7_readAll_68 (lv_at hl 0 rfl) ?_
                      refine q_ifne (tgt := 75) cx ⟨by decide, by decide⟩ dX7_readAll_70 (by decide) (fun c4697 => ?_) (fun c4697 => ?_)
                      · exact absurd c4697 (by omega)
                      · refine q_iconst cx dX7_readAll_73 ?_
                        refine W.widen (k := 0) (n := 0) (by decide) (by decide) ?_
                        refine vx_ret ?_
                        refine q_zret cx hr hlk hB dX7_readAll_74 (by decide) (by decide) ?_
                        exact (Or.inr ⟨rfl, (hal.trans (tk_U_er t4561 (Eq.trans (tk_sx_cd (fun h9 => absurd h9.2 t4655)) t4687)))⟩)
                · exact absurd c4656 (by omega)
  obtain ⟨H, hH⟩ : ∃ H : Heap, H = s.heap := ⟨_, rfl⟩
  obtain ⟨locs, hlocs⟩ : ∃ z : List Loc, z = [] := ⟨_, rfl⟩
  rw [← hH, ← hlocs] at hB
  rw [← hH, ← hlocs]
  refine q_ald_n cx dX7_readAll_0 rfl (lv_at hl 0 rfl) ?_
  refine q_iconst cx dX7_readAll_1 ?_
  refine q_pX7_18 cx hB hscr kscr ⟨by decide, by decide⟩ (by decide) (by decide) rfl dX7_readAll_2 (fun H locs f4698 ef4698 z4699 hB => ?_)
  have z4700 : q_is (q_z f4698 so 1) tn := by rw [ef4698, q_setz (Or.inl (fun q => by rw [q, kscr] at kso; exact absurd kso (by decide)))]; exact hf0
  have z4701 : q_ir (q_r f4698 so 0) ba := by rw [ef4698, q_setr (Or.inr (by decide))]; exact hr0
  have z4702 : q_ir (q_r f4698 now 0) ndn := by rw [ef4698, q_setr (Or.inr (by decide))]; exact hr1
  have z4703 : q_ir (q_r f4698 scr 0) cmds := by rw [ef4698, q_setr (Or.inr (by decide))]; exact hr2
  have g4704 : tk_tb f4698 ba B tn := tk_tb_tr htb (fun i9 => by rw [ef4698, q_setz (Or.inl (fun q => by rw [q, kscr] at kba; exact absurd kba (by decide)))])
  have g4705 : tk_vn K L 5 f4698 now ndn nl9 := tk_vn_tr hvn (by rw [ef4698, q_setz (Or.inr (by decide))]) (fun a9 h9 k9 => by rw [ef4698, q_setj (Or.inl (fun q => by rw [q, kscr] at k9; exact absurd k9 (by decide)))]) (fun i9 => by rw [ef4698, q_setr (Or.inl (fun q => by rw [q, kscr] at kndn; exact absurd kndn (by decide)))])
  have g4706 : tk_c3 K L f4698 cmds := tk_c3_tr hcj (fun i9 => by rw [ef4698, q_setr (Or.inl (fun q => by rw [q, kscr] at kcmds; exact absurd kcmds (by decide)))])
  refine q_ald_n cx dX7_readAll_5 rfl (lv_at hl 0 rfl) ?_
  refine q_iconst cx dX7_readAll_6 ?_
  refine q_pX7_22 cx hB hscr kscr ⟨by decide, by decide⟩ (by decide) (by decide) rfl dX7_readAll_7 (fun H locs f4707 ef4707 z4708 hB => ?_)
  have z4709 : q_is (q_z f4707 so 1) tn := by rw [ef4707, q_setz (Or.inr (by decide))]; exact z4700
  have z4710 : q_is (q_z f4707 scr 1) 0 := by rw [ef4707, q_setz (Or.inr (by decide))]; exact z4699
  have z4711 : q_ir (q_r f4707 so 0) ba := by rw [ef4707, q_setr (Or.inr (by decide))]; exact z4701
  have z4712 : q_ir (q_r f4707 now 0) ndn := by rw [ef4707, q_setr (Or.inr (by decide))]; exact z4702
  have z4713 : q_ir (q_r f4707 scr 0) cmds := by rw [ef4707, q_setr (Or.inr (by decide))]; exact z4703
  have g4714 : tk_tb f4707 ba B tn := tk_tb_tr g4704 (fun i9 => by rw [ef4707, q_setz (Or.inl (fun q => by rw [q, kscr] at kba; exact absurd kba (by decide)))])
  have g4715 : tk_vn K L 5 f4707 now ndn nl9 := tk_vn_tr g4705 (by rw [ef4707, q_setz (Or.inl (fun q => by rw [q, kscr] at know; exact absurd know (by decide)))]) (fun a9 h9 k9 => by rw [ef4707, q_setj (Or.inl (fun q => by rw [q, kscr] at k9; exact absurd k9 (by decide)))]) (fun i9 => by rw [ef4707, q_setr (Or.inl (fun q => by rw [q, kscr] at kndn; exact absurd kndn (by decide)))])
  have g4716 : tk_c3 K L f4707 cmds := tk_c3_tr g4706 (fun i9 => by rw [ef4707, q_setr (Or.inl (fun q => by rw [q, kscr] at kcmds; exact absurd kcmds (by decide)))])
  refine q_ald_n cx dX7_readAll_10 rfl (lv_at hl 0 rfl) ?_
  refine q_iconst cx dX7_readAll_11 ?_
  refine q_pX7_25 cx hB hscr kscr ⟨by decide, by decide⟩ (by decide) (by decide) rfl dX7_readAll_12 (fun H locs f4717 ef4717 z4718 hB => ?_)
  have z4719 : q_is (q_z f4717 so 1) tn := by rw [ef4717, q_setz (Or.inr (by decide))]; exact z4709
  have z4720 : q_is (q_z f4717 scr 1) 0 := by rw [ef4717, q_setz (Or.inr (by decide))]; exact z4710
  have z4721 : q_is (q_z f4717 scr 3) (-1) := by rw [ef4717, q_setz (Or.inr (by decide))]; exact z4708
  have z4722 : q_ir (q_r f4717 so 0) ba := by rw [ef4717, q_setr (Or.inr (by decide))]; exact z4711
  have z4723 : q_ir (q_r f4717 now 0) ndn := by rw [ef4717, q_setr (Or.inr (by decide))]; exact z4712
  have z4724 : q_ir (q_r f4717 scr 0) cmds := by rw [ef4717, q_setr (Or.inr (by decide))]; exact z4713
  have g4725 : tk_tb f4717 ba B tn := tk_tb_tr g4714 (fun i9 => by rw [ef4717, q_setz (Or.inl (fun q => by rw [q, kscr] at kba; exact absurd kba (by decide)))])
  have g4726 : tk_vn K L 5 f4717 now ndn nl9 := tk_vn_tr g4715 (by rw [ef4717, q_setz (Or.inr (by decide))]) (fun a9 h9 k9 => by rw [ef4717, q_setj (Or.inl (fun q => by rw [q, kscr] at k9; exact absurd k9 (by decide)))]) (fun i9 => by rw [ef4717, q_setr (Or.inl (fun q => by rw [q, kscr] at kndn; exact absurd kndn (by decide)))])
  have g4727 : tk_c3 K L f4717 cmds := tk_c3_tr g4716 (fun i9 => by rw [ef4717, q_setr (Or.inl (fun q => by rw [q, kscr] at kcmds; exact absurd kcmds (by decide)))])
  refine q_ald_n cx dX7_readAll_15 rfl (lv_at hl 1 rfl) ?_
  refine q_cVv (As := []) (rest := []) cx hB (fun _ h => h) hN hso kso (by decide) rfl (f_begin l g hN hB.2.1 B so hso kso ba hba kba tn (by omega) (by omega) z4719 z4722 g4725) q_cX7_28 q_dX8_begin (by decide) rfl rfl hl.1 rfl (Nat.le_of_ble_eq_true rfl) dX7_readAll_16 (fun H locs f4728 h4730 hF hB => ?_)
  obtain ⟨z4731, z4732, t4733, g4734⟩ := h4730
  have z4735 : q_is (q_z f4728 so 1) tn := Eq.trans (hF.z hso (by rw [kso]; rfl)) z4719
  have z4736 : q_is (q_z f4728 scr 1) 0 := Eq.trans (hF.z hscr (by rw [kscr]; rfl)) z4720
  have z4737 : q_is (q_z f4728 scr 3) (-1) := Eq.trans (hF.z hscr (by rw [kscr]; rfl)) z4721
  have z4738 : q_is (q_z f4728 scr 4) 0 := Eq.trans (hF.z hscr (by rw [kscr]; rfl)) z4718
  have z4739 : q_ir (q_r f4728 so 0) ba := Eq.trans (hF.r hso (by rw [kso]; rfl)) z4722
  have z4740 : q_ir (q_r f4728 now 0) ndn := Eq.trans (hF.r hnow (by rw [know]; rfl)) z4723
  have z4741 : q_ir (q_r f4728 scr 0) cmds := Eq.trans (hF.r hscr (by rw [kscr]; rfl)) z4724
  have g4742 : tk_tb f4728 ba B tn := tk_tb_tr g4725 (fun i9 => hF.z hba (by rw [kba]; rfl))
  have g4743 : tk_vn K L 5 f4728 now ndn nl9 := tk_vn_tr g4726 (hF.z hnow (by rw [know]; rfl)) (fun a9 h9 k9 => hF.j h9 (by rw [k9]; rfl)) (fun i9 => hF.r hndn (by rw [kndn]; rfl))
  have g4744 : tk_c3 K L f4728 cmds := tk_c3_tr g4727 (fun i9 => hF.r hcmds (by rw [kcmds]; rfl))
  obtain ⟨x4745, ex4745⟩ : ∃ zz, q_is (q_z f4728 so 8) zz := ⟨_, q_isr _⟩
  obtain ⟨lx4745, ux4745⟩ := q_isb ex4745 (q_fib hB.2.1 hso kso (by decide) rfl)
  obtain ⟨-, l0x4745, u0x4745, -, -⟩ := tk_tc_n g4734 ex4745
  have g4746 : tk_ch K L f4728 cmds 0 (-1) 0 := tk_ch_0 g4744 rfl rfl rfl
  refine q_iconst cx dX7_readAll_19 ?_
  refine lv_istore_n (lv' := [(3, .int (q_i 0)), (0, .ref scr), (1, .ref so), (2, .ref now)]) cx.1 cx.2.1 dX7_readAll_20 rfl hl (by decide) rfl (fun ls hl => ?_)
  exact J21 ((Int.toNat (2147483647 - 0)) + 1) f4728 0 (by decide) (by decide) 0 (by decide) (by decide) (-1) (by decide) (by decide) 0 (by decide) (by decide) (-1) (by decide) (by decide) 0 (by decide) (by decide) x4745 (by omega) (by omega) z4735 z4731 z4732 z4736 z4737 z4738 ex4745 z4739 z4740 z4741 g4744 g4742 g4734 g4743 (by omega) (by omega) (congrArg (fun q9 => tk_U B tn nl9 q9 0 0) (Eq.symm (Eq.trans (Eq.symm ex4745) t4733))) g4746 (Nat.lt_succ_self _) H locs hB ls (lv_sub hl [1, 2, 3, 0] rfl)
set_option maxHeartbeats 4000000 in
set_option maxRecDepth 100000 in
theorem f_x6runScript (l : Launch) (g : q_G) (ad : Nat → Nat) {K : Nat → Nat} {L : List Nat} (hN : L.Nodup) {f : Nat → va_E} (hT : q_Ty g K L f) (hfl : l.stackTraces = false) (B : Nat → Int) (nl9 : List (List Int)) (x : Nat) (hx : x ∈ L) (kx : K x = 11) (so : Nat) (hso : so ∈ L) (kso : K so = 8) (rd : Nat) (hrd : rd ∈ L) (krd : K rd = 9) (scr : Nat) (hscr : scr ∈ L) (kscr : K scr = 7) (fc : Nat) (hfc : fc ∈ L) (kfc : K fc = 1) (hist : Nat) (hhist : hist ∈ L) (khist : K hist = 2) (rep : Nat) (hrep : rep ∈ L) (krep : K rep = 6) (now : Nat) (hnow : now ∈ L) (know : K now = 10) (dr : Nat) (hdr : dr ∈ L) (kdr : K dr = 13) (sv : Nat) (hsv : sv ∈ L) (ksv : K sv = 14) (tr : Nat) (htr : tr ∈ L) (ktr : K tr = 15) (ba : Nat) (hba : ba ∈ L) (kba : K ba = 142) (nds : Nat) (hnds : nds ∈ L) (knds : K nds = 111) (ka : Nat) (hka : ka ∈ L) (kka : K ka = 140) (ndn : Nat) (hndn : ndn ∈ L) (kndn : K ndn = 110) (nsv : Nat) (hnsv : nsv ∈ L) (knsv : K nsv = 112) (cmds : Nat) (hcmds : cmds ∈ L) (kcmds : K cmds = 141) (tn : Int) (ltn : 0 ≤ tn) (utn : tn ≤ 600) (hf0 : q_is (q_z f so 1) tn) (hr0 : q_ir (q_r f x 0) so) (hr1 : q_ir (q_r f x 1) rd) (hr2 : q_ir (q_r f x 2) scr) (hr3 : q_ir (q_r f x 3) fc) (hr4 : q_ir (q_r f x 4) hist) (hr5 : q_ir (q_r f x 5) rep) (hr6 : q_ir (q_r f x 6) now) (hr7 : q_ir (q_r f x 7) dr) (hr8 : q_ir (q_r f x 8) sv) (hr9 : q_ir (q_r f fc 0) tr) (hr10 : q_ir (q_r f so 0) ba) (hr11 : q_ir (q_r f dr 0) nds) (hr12 : q_ir (q_r f hist 0) ka) (hr13 : q_ir (q_r f now 0) ndn) (hr14 : q_ir (q_r f sv 0) nsv) (hr15 : q_ir (q_r f scr 0) cmds) (htb : tk_tb f ba B tn) (hvn : tk_vn K L 5 f now ndn nl9) (hvk : tk_vk K L f hist ka now ndn) (hcj : tk_c3 K L f cmds) : q_Xt l g ad K L yX11_runScript cX11_runScript 2 (some .int) 8 175 1 6 [.ref x] f [(0, 0, 6), (2, 1, 2), (3, 2, 4), (4, 0, 7), (5, 1, 1), (5, 3, 4), (5, 6, 9), (7, 1, 4), (8, 1, 9), (10, 5, 5), (10, 11, 15), (16, 3, 12), (20, 0, 8), (24, 0, 4), (28, 0, 7)] (q_Pi (fun (z : Int) (f1 : Nat → va_E) => q_is (q_z f1 so 1) 0 ∧ q_is (q_z f1 so 2) 0 ∧ q_is (q_z f1 so 3) (-1) ∧ (tk_U B tn nl9 (tk_S B tn 0) 0 0 = tk_ok 0) ∧ (tk_vk K L f1 hist ka now ndn))) (fun (E : String) (f1 : Nat → va_E) => E = "java/lang/IllegalArgumentException" ∧ tk_U B tn nl9 (tk_S B tn 0) 0 0 = tk_er (q_z f1 so 2) (q_z f1 so 3) ∧ q_is (q_z f1 so 1) 0 ∧ (tk_vk K L f1 hist ka now ndn)) := by
  refine q_xofb (by decide +kernel) hN hT (Nat.le_of_ble_eq_true rfl) ?_
  intro p e s m below meth c ls cx hr hlk htab hX hB hl
  have hl : lv_has ls 2 [(0, .ref x)] := hl
  obtain ⟨H, hH⟩ : ∃ H : Heap, H = s.heap := ⟨_, rfl⟩
  obtain ⟨locs, hlocs⟩ : ∃ z : List Loc, z = [] := ⟨_, rfl⟩
  rw [← hH, ← hlocs] at hB
  rw [← hH, ← hlocs]
  refine q_ald_n cx dX11_runScript_0 rfl (lv_at hl 0 rfl) ?_
  refine q_gX11_26 cx hB hx kx hr2 dX11_runScript_1 (fun hb166 kb166 => ?_)
  refine q_ald_n cx dX11_runScript_4 rfl (lv_at hl 0 rfl) ?_
  refine q_gX11_10 cx hB hx kx hr0 dX11_runScript_5 (fun hb167 kb167 => ?_)
  refine q_ald_n cx dX11_runScript_8 rfl (lv_at hl 0 rfl) ?_
  refine q_gX11_54 cx hB hx kx hr6 dX11_runScript_9 (fun hb168 kb168 => ?_)
  refine q_cXV (As := [.ref so, .ref now]) (rest := []) cx hX hB (fun _ h => h) (fun _ h _ => h) hN hscr kscr (by decide) rfl (f_readAllS l g ad hN hB.2.1 hfl B nl9 scr hscr kscr so hso kso now hnow know ba hba kba ndn hndn kndn cmds hcmds kcmds tn (by omega) (by omega) hf0 hr10 hr13 hr15 htb hvn hcj) q_cX11_104 q_dX7_readAll (by decide) rfl rfl hl.1 rfl (Nat.le_of_ble_eq_true rfl) dX11_runScript_12 (fun E9 ce9 q9 H locs f172 hex hF hB hcell hcv hcl => ?_) (fun v9 H locs f169 h171 hF hB => ?_)
  · exact hex.elim
  · obtain ⟨y170, rfl, ry170, h171⟩ := h171
    refine W.eq (g2 := F0 m 15 ls [.int (q_i y170)]) rfl ?_
    rcases h171 with h173 | h174
    · obtain ⟨qy170, z175, z176, t177⟩ := h173
      have z178 : q_is (q_z f169 so 1) tn := Eq.trans (hF.z hso (by rw [kso]; rfl)) hf0
      have z179 : q_ir (q_r f169 x 0) so := Eq.trans (hF.r hx (by rw [kx]; rfl)) hr0
      have z180 : q_ir (q_r f169 x 1) rd := Eq.trans (hF.r hx (by rw [kx]; rfl)) hr1
      have z181 : q_ir (q_r f169 x 2) scr := Eq.trans (hF.r hx (by rw [kx]; rfl)) hr2
      have z182 : q_ir (q_r f169 x 3) fc := Eq.trans (hF.r hx (by rw [kx]; rfl)) hr3
      have z183 : q_ir (q_r f169 x 4) hist := Eq.trans (hF.r hx (by rw [kx]; rfl)) hr4
      have z184 : q_ir (q_r f169 x 5) rep := Eq.trans (hF.r hx (by rw [kx]; rfl)) hr5
      have z185 : q_ir (q_r f169 x 6) now := Eq.trans (hF.r hx (by rw [kx]; rfl)) hr6
      have z186 : q_ir (q_r f169 x 7) dr := Eq.trans (hF.r hx (by rw [kx]; rfl)) hr7
      have z187 : q_ir (q_r f169 x 8) sv := Eq.trans (hF.r hx (by rw [kx]; rfl)) hr8
      have z188 : q_ir (q_r f169 fc 0) tr := Eq.trans (hF.r hfc (by rw [kfc]; rfl)) hr9
      have z189 : q_ir (q_r f169 so 0) ba := Eq.trans (hF.r hso (by rw [kso]; rfl)) hr10
      have z190 : q_ir (q_r f169 dr 0) nds := Eq.trans (hF.r hdr (by rw [kdr]; rfl)) hr11
      have z191 : q_ir (q_r f169 hist 0) ka := Eq.trans (hF.r hhist (by rw [khist]; rfl)) hr12
      have z192 : q_ir (q_r f169 now 0) ndn := Eq.trans (hF.r hnow (by rw [know]; rfl)) hr13
      have z193 : q_ir (q_r f169 sv 0) nsv := Eq.trans (hF.r hsv (by rw [ksv]; rfl)) hr14
      have z194 : q_ir (q_r f169 scr 0) cmds := Eq.trans (hF.r hscr (by rw [kscr]; rfl)) hr15
      have g195 : tk_tb f169 ba B tn := tk_tb_tr htb (fun i9 => hF.z hba (by rw [kba]; rfl))
      have g196 : tk_vn K L 5 f169 now ndn nl9 := tk_vn_tr hvn (hF.z hnow (by rw [know]; rfl)) (fun a9 h9 k9 => hF.j h9 (by rw [k9]; rfl)) (fun i9 => hF.r hndn (by rw [kndn]; rfl))
      have g197 : tk_vk K L f169 hist ka now ndn := tk_vk_tr hvk (hF.z hhist (by rw [khist]; rfl)) (hF.z hhist (by rw [khist]; rfl)) (hF.z hnow (by rw [know]; rfl)) (fun a9 h9 k9 => hF.j h9 (by rw [k9]; rfl)) (fun i9 => hF.r hndn (by rw [kndn]; rfl)) (fun a9 h9 k9 => hF.z h9 (by rw [k9]; rfl)) (fun a9 h9 k9 => hF.j h9 (by rw [k9]; rfl)) (fun i9 => hF.r hka (by rw [kka]; rfl)) (fun a9 h9 k9 => hF.r h9 (by rw [k9]; rfl)) (fun a9 h9 k9 i9 => hF.r h9 (by rw [k9]; rfl))
      have g198 : tk_c3 K L f169 cmds := tk_c3_tr hcj (fun i9 => hF.r hcmds (by rw [kcmds]; rfl))
      subst qy170
      refine lv_istore_n (lv' := [(1, .int (q_i 1)), (0, .ref x)]) cx.1 cx.2.1 dX11_runScript_15 rfl hl (by decide) rfl (fun ls hl => ?_)
      refine q_ald_n cx dX11_runScript_16 rfl (lv_at hl 1 rfl) ?_
      refine q_gX11_10 cx hB hx kx z179 dX11_runScript_17 (fun hb199 kb199 => ?_)
      refine q_iconst cx dX11_runScript_20 ?_
      refine q_pX11_79 cx hB hso kso ⟨by decide, by decide⟩ (by decide) (by decide) rfl dX11_runScript_21 (fun H locs f200 ef200 z201 hB => ?_)
      have z202 : q_is (q_z f200 so 2) 0 := by rw [ef200, q_setz (Or.inr (by decide))]; exact z175
      have z203 : q_is (q_z f200 so 3) (-1) := by rw [ef200, q_setz (Or.inr (by decide))]; exact z176
      have z204 : q_ir (q_r f200 x 0) so := by rw [ef200, q_setr (Or.inr (by decide))]; exact z179
      have z205 : q_ir (q_r f200 x 1) rd := by rw [ef200, q_setr (Or.inl (fun q => by rw [q, kso] at kx; exact absurd kx (by decide)))]; exact z180
      have z206 : q_ir (q_r f200 x 2) scr := by rw [ef200, q_setr (Or.inr (by decide))]; exact z181
      have z207 : q_ir (q_r f200 x 3) fc := by rw [ef200, q_setr (Or.inr (by decide))]; exact z182
      have z208 : q_ir (q_r f200 x 4) hist := by rw [ef200, q_setr (Or.inr (by decide))]; exact z183
      have z209 : q_ir (q_r f200 x 5) rep := by rw [ef200, q_setr (Or.inr (by decide))]; exact z184
      have z210 : q_ir (q_r f200 x 6) now := by rw [ef200, q_setr (Or.inr (by decide))]; exact z185
      have z211 : q_ir (q_r f200 x 7) dr := by rw [ef200, q_setr (Or.inr (by decide))]; exact z186
      have z212 : q_ir (q_r f200 x 8) sv := by rw [ef200, q_setr (Or.inr (by decide))]; exact z187
      have z213 : q_ir (q_r f200 fc 0) tr := by rw [ef200, q_setr (Or.inr (by decide))]; exact z188
      have z214 : q_ir (q_r f200 so 0) ba := by rw [ef200, q_setr (Or.inr (by decide))]; exact z189
      have z215 : q_ir (q_r f200 dr 0) nds := by rw [ef200, q_setr (Or.inr (by decide))]; exact z190
      have z216 : q_ir (q_r f200 hist 0) ka := by rw [ef200, q_setr (Or.inr (by decide))]; exact z191
      have z217 : q_ir (q_r f200 now 0) ndn := by rw [ef200, q_setr (Or.inr (by decide))]; exact z192
      have z218 : q_ir (q_r f200 sv 0) nsv := by rw [ef200, q_setr (Or.inr (by decide))]; exact z193
      have z219 : q_ir (q_r f200 scr 0) cmds := by rw [ef200, q_setr (Or.inr (by decide))]; exact z194
      have g220 : tk_tb f200 ba B tn := tk_tb_tr g195 (fun i9 => by rw [ef200, q_setz (Or.inl (fun q => by rw [q, kso] at kba; exact absurd kba (by decide)))])
      have g221 : tk_vn K L 5 f200 now ndn nl9 := tk_vn_tr g196 (by rw [ef200, q_setz (Or.inr (by decide))]) (fun a9 h9 k9 => by rw [ef200, q_setj (Or.inl (fun q => by rw [q, kso] at k9; exact absurd k9 (by decide)))]) (fun i9 => by rw [ef200, q_setr (Or.inl (fun q => by rw [q, kso] at kndn; exact absurd kndn (by decide)))])
      have g222 : tk_vk K L f200 hist ka now ndn := tk_vk_tr g197 (by rw [ef200, q_setz (Or.inl (fun q => by rw [q, kso] at khist; exact absurd khist (by decide)))]) (by rw [ef200, q_setz (Or.inr (by decide))]) (by rw [ef200, q_setz (Or.inr (by decide))]) (fun a9 h9 k9 => by rw [ef200, q_setj (Or.inl (fun q => by rw [q, kso] at k9; exact absurd k9 (by decide)))]) (fun i9 => by rw [ef200, q_setr (Or.inl (fun q => by rw [q, kso] at kndn; exact absurd kndn (by decide)))]) (fun a9 h9 k9 => by rw [ef200, q_setz (Or.inl (fun q => by rw [q, kso] at k9; exact absurd k9 (by decide)))]) (fun a9 h9 k9 => by rw [ef200, q_setj (Or.inl (fun q => by rw [q, kso] at k9; exact absurd k9 (by decide)))]) (fun i9 => by rw [ef200, q_setr (Or.inl (fun q => by rw [q, kso] at kka; exact absurd kka (by decide)))]) (fun a9 h9 k9 => by rw [ef200, q_setr (Or.inl (fun q => by rw [q, kso] at k9; exact absurd k9 (by decide)))]) (fun a9 h9 k9 i9 => by rw [ef200, q_setr (Or.inl (fun q => by rw [q, kso] at k9; exact absurd k9 (by decide)))])
      have g223 : tk_c3 K L f200 cmds := tk_c3_tr g198 (fun i9 => by rw [ef200, q_setr (Or.inl (fun q => by rw [q, kso] at kcmds; exact absurd kcmds (by decide)))])
      refine q_ild_n cx dX11_runScript_24 rfl (lv_at hl 0 rfl) ?_
      refine q_ifne (tgt := 38) cx ⟨by decide, by decide⟩ dX11_runScript_25 (by decide) (fun c224 => ?_) (fun c224 => ?_)
      · refine q_ald_n cx dX11_runScript_38 rfl (lv_at hl 1 rfl) ?_
        refine q_gX11_40 cx hB hx kx z208 dX11_runScript_39 (fun hb225 kb225 => ?_)
        refine q_ald_n cx dX11_runScript_42 rfl (lv_at hl 1 rfl) ?_
        refine q_gX11_54 cx hB hx kx z210 dX11_runScript_43 (fun hb226 kb226 => ?_)
        refine q_cVv (As := [.ref now]) (rest := []) cx hB (fun _ h => h) hN hhist khist (by decide) rfl (f_keep l g hN hB.2.1 nl9 hist hhist khist now hnow know ka hka kka ndn hndn kndn z216 z217 g221 g222) q_cX11_107 q_dX2_keep (by decide) rfl rfl hl.1 rfl (Nat.le_of_ble_eq_true rfl) dX11_runScript_46 (fun H locs f227 h229 hF hB => ?_)
        have t230 := h229
        have z231 : q_is (q_z f227 so 2) 0 := Eq.trans (hF.z hso (by rw [kso]; rfl)) z202
        have z232 : q_is (q_z f227 so 3) (-1) := Eq.trans (hF.z hso (by rw [kso]; rfl)) z203
        have z233 : q_is (q_z f227 so 1) 0 := Eq.trans (hF.z hso (by rw [kso]; rfl)) z201
        have z234 : q_ir (q_r f227 x 0) so := Eq.trans (hF.r hx (by rw [kx]; rfl)) z204
        have z235 : q_ir (q_r f227 x 1) rd := Eq.trans (hF.r hx (by rw [kx]; rfl)) z205
        have z236 : q_ir (q_r f227 x 2) scr := Eq.trans (hF.r hx (by rw [kx]; rfl)) z206
        have z237 : q_ir (q_r f227 x 3) fc := Eq.trans (hF.r hx (by rw [kx]; rfl)) z207
        have z238 : q_ir (q_r f227 x 4) hist := Eq.trans (hF.r hx (by rw [kx]; rfl)) z208
        have z239 : q_ir (q_r f227 x 5) rep := Eq.trans (hF.r hx (by rw [kx]; rfl)) z209
        have z240 : q_ir (q_r f227 x 6) now := Eq.trans (hF.r hx (by rw [kx]; rfl)) z210
        have z241 : q_ir (q_r f227 x 7) dr := Eq.trans (hF.r hx (by rw [kx]; rfl)) z211
        have z242 : q_ir (q_r f227 x 8) sv := Eq.trans (hF.r hx (by rw [kx]; rfl)) z212
        have z243 : q_ir (q_r f227 fc 0) tr := Eq.trans (hF.r hfc (by rw [kfc]; rfl)) z213
        have z244 : q_ir (q_r f227 so 0) ba := Eq.trans (hF.r hso (by rw [kso]; rfl)) z214
        have z245 : q_ir (q_r f227 dr 0) nds := Eq.trans (hF.r hdr (by rw [kdr]; rfl)) z215
        have z246 : q_ir (q_r f227 hist 0) ka := Eq.trans (hF.r hhist (by rw [khist]; rfl)) z216
        have z247 : q_ir (q_r f227 now 0) ndn := Eq.trans (hF.r hnow (by rw [know]; rfl)) z217
        have z248 : q_ir (q_r f227 sv 0) nsv := Eq.trans (hF.r hsv (by rw [ksv]; rfl)) z218
        have z249 : q_ir (q_r f227 scr 0) cmds := Eq.trans (hF.r hscr (by rw [kscr]; rfl)) z219
        have g250 : tk_tb f227 ba B tn := tk_tb_tr g220 (fun i9 => hF.z hba (by rw [kba]; rfl))
        have g251 : tk_vn K L 5 f227 now ndn nl9 := tk_vn_tr g221 (hF.z hnow (by rw [know]; rfl)) (fun a9 h9 k9 => hF.j h9 (by rw [k9]; rfl)) (fun i9 => hF.r hndn (by rw [kndn]; rfl))
        have g252 : tk_c3 K L f227 cmds := tk_c3_tr g223 (fun i9 => hF.r hcmds (by rw [kcmds]; rfl))
        refine q_ald_n cx dX11_runScript_49 rfl (lv_at hl 1 rfl) ?_
        refine q_gX11_26 cx hB hx kx z236 dX11_runScript_50 (fun hb253 kb253 => ?_)
        refine q_ald_n cx dX11_runScript_53 rfl (lv_at hl 1 rfl) ?_
        refine q_gX11_54 cx hB hx kx z240 dX11_runScript_54 (fun hb254 kb254 => ?_)
        refine q_cVi (As := [.ref now]) (rest := []) cx hB (fun _ h => h) hN hscr kscr (by decide) rfl (g_X7_runOn l g hN hB.2.1 scr hscr kscr now hnow know) q_cX11_110 q_dX7_runOn (by decide) rfl rfl hl.1 rfl (Nat.le_of_ble_eq_true rfl) dX11_runScript_57 (fun y256 H locs f255 ry256 h257 hF hB => ?_)
        have z258 : q_is (q_z f255 so 2) 0 := Eq.trans (hF.z hso (by rw [kso]; rfl)) z231
        have z259 : q_is (q_z f255 so 3) (-1) := Eq.trans (hF.z hso (by rw [kso]; rfl)) z232
        have z260 : q_is (q_z f255 so 1) 0 := Eq.trans (hF.z hso (by rw [kso]; rfl)) z233
        have z261 : q_ir (q_r f255 x 0) so := Eq.trans (hF.r hx (by rw [kx]; rfl)) z234
        have z262 : q_ir (q_r f255 x 1) rd := Eq.trans (hF.r hx (by rw [kx]; rfl)) z235
        have z263 : q_ir (q_r f255 x 2) scr := Eq.trans (hF.r hx (by rw [kx]; rfl)) z236
        have z264 : q_ir (q_r f255 x 3) fc := Eq.trans (hF.r hx (by rw [kx]; rfl)) z237
        have z265 : q_ir (q_r f255 x 4) hist := Eq.trans (hF.r hx (by rw [kx]; rfl)) z238
        have z266 : q_ir (q_r f255 x 5) rep := Eq.trans (hF.r hx (by rw [kx]; rfl)) z239
        have z267 : q_ir (q_r f255 x 6) now := Eq.trans (hF.r hx (by rw [kx]; rfl)) z240
        have z268 : q_ir (q_r f255 x 7) dr := Eq.trans (hF.r hx (by rw [kx]; rfl)) z241
        have z269 : q_ir (q_r f255 x 8) sv := Eq.trans (hF.r hx (by rw [kx]; rfl)) z242
        have z270 : q_ir (q_r f255 fc 0) tr := Eq.trans (hF.r hfc (by rw [kfc]; rfl)) z243
        have z271 : q_ir (q_r f255 so 0) ba := Eq.trans (hF.r hso (by rw [kso]; rfl)) z244
        have z272 : q_ir (q_r f255 dr 0) nds := Eq.trans (hF.r hdr (by rw [kdr]; rfl)) z245
        have z273 : q_ir (q_r f255 hist 0) ka := Eq.trans (hF.r hhist (by rw [khist]; rfl)) z246
        have z274 : q_ir (q_r f255 now 0) ndn := Eq.trans (hF.r hnow (by rw [know]; rfl)) z247
        have z275 : q_ir (q_r f255 sv 0) nsv := Eq.trans (hF.r hsv (by rw [ksv]; rfl)) z248
        have z276 : q_ir (q_r f255 scr 0) cmds := Eq.trans (hF.r hscr (by rw [kscr]; rfl)) z249
        have g277 : tk_tb f255 ba B tn := tk_tb_tr g250 (fun i9 => hF.z hba (by rw [kba]; rfl))
        have g278 : tk_vn K L 5 f255 now ndn nl9 := tk_vn_tr g251 (hF.z hnow (by rw [know]; rfl)) (fun a9 h9 k9 => hF.j h9 (by rw [k9]; rfl)) (fun i9 => hF.r hndn (by rw [kndn]; rfl))
        have g279 : tk_c3 K L f255 cmds := tk_c3_tr g252 (fun i9 => hF.r hcmds (by rw [kcmds]; rfl))
        have g280 : tk_vk K L f255 hist ka now ndn := tk_vk_tr t230 (hF.z hhist (by rw [khist]; rfl)) (hF.z hhist (by rw [khist]; rfl)) (hF.z hnow (by rw [know]; rfl)) (fun a9 h9 k9 => hF.j h9 (by rw [k9]; rfl)) (fun i9 => hF.r hndn (by rw [kndn]; rfl)) (fun a9 h9 k9 => hF.z h9 (by rw [k9]; rfl)) (fun a9 h9 k9 => hF.j h9 (by rw [k9]; rfl)) (fun i9 => hF.r hka (by rw [kka]; rfl)) (fun a9 h9 k9 => hF.r h9 (by rw [k9]; rfl)) (fun a9 h9 k9 i9 => hF.r h9 (by rw [k9]; rfl))
        refine W.widen (k := 1) (n := 6) (by decide) (by decide) ?_
        refine vx_ret ?_
        refine q_iret cx hr hlk hB dX11_runScript_60 ⟨by omega, by omega⟩ ?_
        exact ⟨z260, z258, z259, t177, g280⟩
      · exact absurd c224 (by omega)
    · obtain ⟨qy170, t281⟩ := h174
      have z282 : q_is (q_z f169 so 1) tn := Eq.trans (hF.z hso (by rw [kso]; rfl)) hf0
      have z283 : q_ir (q_r f169 x 0) so := Eq.trans (hF.r hx (by rw [kx]; rfl)) hr0
      have z284 : q_ir (q_r f169 x 1) rd := Eq.trans (hF.r hx (by rw [kx]; rfl)) hr1
      have z285 : q_ir (q_r f169 x 2) scr := Eq.trans (hF.r hx (by rw [kx]; rfl)) hr2
      have z286 : q_ir (q_r f169 x 3) fc := Eq.trans (hF.r hx (by rw [kx]; rfl)) hr3
      have z287 : q_ir (q_r f169 x 4) hist := Eq.trans (hF.r hx (by rw [kx]; rfl)) hr4
      have z288 : q_ir (q_r f169 x 5) rep := Eq.trans (hF.r hx (by rw [kx]; rfl)) hr5
      have z289 : q_ir (q_r f169 x 6) now := Eq.trans (hF.r hx (by rw [kx]; rfl)) hr6
      have z290 : q_ir (q_r f169 x 7) dr := Eq.trans (hF.r hx (by rw [kx]; rfl)) hr7
      have z291 : q_ir (q_r f169 x 8) sv := Eq.trans (hF.r hx (by rw [kx]; rfl)) hr8
      have z292 : q_ir (q_r f169 fc 0) tr := Eq.trans (hF.r hfc (by rw [kfc]; rfl)) hr9
      have z293 : q_ir (q_r f169 so 0) ba := Eq.trans (hF.r hso (by rw [kso]; rfl)) hr10
      have z294 : q_ir (q_r f169 dr 0) nds := Eq.trans (hF.r hdr (by rw [kdr]; rfl)) hr11
      have z295 : q_ir (q_r f169 hist 0) ka := Eq.trans (hF.r hhist (by rw [khist]; rfl)) hr12
      have z296 : q_ir (q_r f169 now 0) ndn := Eq.trans (hF.r hnow (by rw [know]; rfl)) hr13
      have z297 : q_ir (q_r f169 sv 0) nsv := Eq.trans (hF.r hsv (by rw [ksv]; rfl)) hr14
      have z298 : q_ir (q_r f169 scr 0) cmds := Eq.trans (hF.r hscr (by rw [kscr]; rfl)) hr15
      have g299 : tk_tb f169 ba B tn := tk_tb_tr htb (fun i9 => hF.z hba (by rw [kba]; rfl))
      have g300 : tk_vn K L 5 f169 now ndn nl9 := tk_vn_tr hvn (hF.z hnow (by rw [know]; rfl)) (fun a9 h9 k9 => hF.j h9 (by rw [k9]; rfl)) (fun i9 => hF.r hndn (by rw [kndn]; rfl))
      have g301 : tk_vk K L f169 hist ka now ndn := tk_vk_tr hvk (hF.z hhist (by rw [khist]; rfl)) (hF.z hhist (by rw [khist]; rfl)) (hF.z hnow (by rw [know]; rfl)) (fun a9 h9 k9 => hF.j h9 (by rw [k9]; rfl)) (fun i9 => hF.r hndn (by rw [kndn]; rfl)) (fun a9 h9 k9 => hF.z h9 (by rw [k9]; rfl)) (fun a9 h9 k9 => hF.j h9 (by rw [k9]; rfl)) (fun i9 => hF.r hka (by rw [kka]; rfl)) (fun a9 h9 k9 => hF.r h9 (by rw [k9]; rfl)) (fun a9 h9 k9 i9 => hF.r h9 (by rw [k9]; rfl))
      have g302 : tk_c3 K L f169 cmds := tk_c3_tr hcj (fun i9 => hF.r hcmds (by rw [kcmds]; rfl))
      subst qy170
      obtain ⟨x303, ex303⟩ : ∃ zz, q_is (q_z f169 so 2) zz := ⟨_, q_isr _⟩
      obtain ⟨lx303, ux303⟩ := q_isb ex303 (q_fib hB.2.1 hso kso (by decide) rfl)
      obtain ⟨x304, ex304⟩ : ∃ zz, q_is (q_z f169 so 3) zz := ⟨_, q_isr _⟩
      obtain ⟨lx304, ux304⟩ := q_isb ex304 (q_fib hB.2.1 hso kso (by decide) rfl)
      refine lv_istore_n (lv' := [(1, .int (q_i 0)), (0, .ref x)]) cx.1 cx.2.1 dX11_runScript_15 rfl hl (by decide) rfl (fun ls hl => ?_)
      refine q_ald_n cx dX11_runScript_16 rfl (lv_at hl 1 rfl) ?_
      refine q_gX11_10 cx hB hx kx z283 dX11_runScript_17 (fun hb305 kb305 => ?_)
      refine q_iconst cx dX11_runScript_20 ?_
      refine q_pX11_79 cx hB hso kso ⟨by decide, by decide⟩ (by decide) (by decide) rfl dX11_runScript_21 (fun H locs f306 ef306 z307 hB => ?_)
      have z308 : q_is (q_z f306 so 2) x303 := by rw [ef306, q_setz (Or.inr (by decide))]; exact ex303
      have z309 : q_is (q_z f306 so 3) x304 := by rw [ef306, q_setz (Or.inr (by decide))]; exact ex304
      have z310 : q_ir (q_r f306 x 0) so := by rw [ef306, q_setr (Or.inr (by decide))]; exact z283
      have z311 : q_ir (q_r f306 x 1) rd := by rw [ef306, q_setr (Or.inl (fun q => by rw [q, kso] at kx; exact absurd kx (by decide)))]; exact z284
      have z312 : q_ir (q_r f306 x 2) scr := by rw [ef306, q_setr (Or.inr (by decide))]; exact z285
      have z313 : q_ir (q_r f306 x 3) fc := by rw [ef306, q_setr (Or.inr (by decide))]; exact z286
      have z314 : q_ir (q_r f306 x 4) hist := by rw [ef306, q_setr (Or.inr (by decide))]; exact z287
      have z315 : q_ir (q_r f306 x 5) rep := by rw [ef306, q_setr (Or.inr (by decide))]; exact z288
      have z316 : q_ir (q_r f306 x 6) now := by rw [ef306, q_setr (Or.inr (by decide))]; exact z289
      have z317 : q_ir (q_r f306 x 7) dr := by rw [ef306, q_setr (Or.inr (by decide))]; exact z290
      have z318 : q_ir (q_r f306 x 8) sv := by rw [ef306, q_setr (Or.inr (by decide))]; exact z291
      have z319 : q_ir (q_r f306 fc 0) tr := by rw [ef306, q_setr (Or.inr (by decide))]; exact z292
      have z320 : q_ir (q_r f306 so 0) ba := by rw [ef306, q_setr (Or.inr (by decide))]; exact z293
      have z321 : q_ir (q_r f306 dr 0) nds := by rw [ef306, q_setr (Or.inr (by decide))]; exact z294
      have z322 : q_ir (q_r f306 hist 0) ka := by rw [ef306, q_setr (Or.inr (by decide))]; exact z295
      have z323 : q_ir (q_r f306 now 0) ndn := by rw [ef306, q_setr (Or.inr (by decide))]; exact z296
      have z324 : q_ir (q_r f306 sv 0) nsv := by rw [ef306, q_setr (Or.inr (by decide))]; exact z297
      have z325 : q_ir (q_r f306 scr 0) cmds := by rw [ef306, q_setr (Or.inr (by decide))]; exact z298
      have g326 : tk_tb f306 ba B tn := tk_tb_tr g299 (fun i9 => by rw [ef306, q_setz (Or.inl (fun q => by rw [q, kso] at kba; exact absurd kba (by decide)))])
      have g327 : tk_vn K L 5 f306 now ndn nl9 := tk_vn_tr g300 (by rw [ef306, q_setz (Or.inr (by decide))]) (fun a9 h9 k9 => by rw [ef306, q_setj (Or.inl (fun q => by rw [q, kso] at k9; exact absurd k9 (by decide)))]) (fun i9 => by rw [ef306, q_setr (Or.inl (fun q => by rw [q, kso] at kndn; exact absurd kndn (by decide)))])
      have g328 : tk_vk K L f306 hist ka now ndn := tk_vk_tr g301 (by rw [ef306, q_setz (Or.inl (fun q => by rw [q, kso] at khist; exact absurd khist (by decide)))]) (by rw [ef306, q_setz (Or.inr (by decide))]) (by rw [ef306, q_setz (Or.inr (by decide))]) (fun a9 h9 k9 => by rw [ef306, q_setj (Or.inl (fun q => by rw [q, kso] at k9; exact absurd k9 (by decide)))]) (fun i9 => by rw [ef306, q_setr (Or.inl (fun q => by rw [q, kso] at kndn; exact absurd kndn (by decide)))]) (fun a9 h9 k9 => by rw [ef306, q_setz (Or.inl (fun q => by rw [q, kso] at k9; exact absurd k9 (by decide)))]) (fun a9 h9 k9 => by rw [ef306, q_setj (Or.inl (fun q => by rw [q, kso] at k9; exact absurd k9 (by decide)))]) (fun i9 => by rw [ef306, q_setr (Or.inl (fun q => by rw [q, kso] at kka; exact absurd kka (by decide)))]) (fun a9 h9 k9 => by rw [ef306, q_setr (Or.inl (fun q => by rw [q, kso] at k9; exact absurd k9 (by decide)))]) (fun a9 h9 k9 i9 => by rw [ef306, q_setr (Or.inl (fun q => by rw [q, kso] at k9; exact absurd k9 (by decide)))])
      have g329 : tk_c3 K L f306 cmds := tk_c3_tr g302 (fun i9 => by rw [ef306, q_setr (Or.inl (fun q => by rw [q, kso] at kcmds; exact absurd kcmds (by decide)))])
      refine q_ild_n cx dX11_runScript_24 rfl (lv_at hl 0 rfl) ?_
      refine q_ifne (tgt := 38) cx ⟨by decide, by decide⟩ dX11_runScript_25 (by decide) (fun c330 => ?_) (fun c330 => ?_)
      · exact absurd c330 (by omega)
      · exact q_throw (text := "the script has an error") hfl cx hlk htab hX hB hl.1 (by decide +kernel) q_h880 q_h152 (by decide +kernel) q_xl87a q_xl87b q_xl87c dX11_runScript_28 dX11_runScript_31 (Or.inl ⟨dX11_runScript_32, dX11_runScript_34, dX11_runScript_37⟩) (by decide) (by decide) ⟨rfl, (tk_erp (tk_erx t281 ex303 ex304) z308 z309), z307, g328⟩
set_option maxHeartbeats 4000000 in
set_option maxRecDepth 100000 in
theorem f_xerrorCode (l : Launch) (g : q_G) {K : Nat → Nat} {L : List Nat} (hN : L.Nodup) {f : Nat → va_E} (hT : q_Ty g K L f) (x : Nat) (hx : x ∈ L) (kx : K x = 11) (so : Nat) (hso : so ∈ L) (kso : K so = 8) (rd : Nat) (hrd : rd ∈ L) (krd : K rd = 9) (scr : Nat) (hscr : scr ∈ L) (kscr : K scr = 7) (fc : Nat) (hfc : fc ∈ L) (kfc : K fc = 1) (hist : Nat) (hhist : hist ∈ L) (khist : K hist = 2) (rep : Nat) (hrep : rep ∈ L) (krep : K rep = 6) (now : Nat) (hnow : now ∈ L) (know : K now = 10) (dr : Nat) (hdr : dr ∈ L) (kdr : K dr = 13) (sv : Nat) (hsv : sv ∈ L) (ksv : K sv = 14) (tr : Nat) (htr : tr ∈ L) (ktr : K tr = 15) (ba : Nat) (hba : ba ∈ L) (kba : K ba = 142) (nds : Nat) (hnds : nds ∈ L) (knds : K nds = 111) (ka : Nat) (hka : ka ∈ L) (kka : K ka = 140) (ndn : Nat) (hndn : ndn ∈ L) (kndn : K ndn = 110) (nsv : Nat) (hnsv : nsv ∈ L) (knsv : K nsv = 112) (cmds : Nat) (hcmds : cmds ∈ L) (kcmds : K cmds = 141) (ek : Int) (lek : (-2147483648) ≤ ek) (uek : ek ≤ 2147483647) (hf0 : q_is (q_z f so 2) ek) (hr0 : q_ir (q_r f x 0) so) (hr1 : q_ir (q_r f x 1) rd) (hr2 : q_ir (q_r f x 2) scr) (hr3 : q_ir (q_r f x 3) fc) (hr4 : q_ir (q_r f x 4) hist) (hr5 : q_ir (q_r f x 5) rep) (hr6 : q_ir (q_r f x 6) now) (hr7 : q_ir (q_r f x 7) dr) (hr8 : q_ir (q_r f x 8) sv) (hr9 : q_ir (q_r f fc 0) tr) (hr10 : q_ir (q_r f so 0) ba) (hr11 : q_ir (q_r f dr 0) nds) (hr12 : q_ir (q_r f hist 0) ka) (hr13 : q_ir (q_r f now 0) ndn) (hr14 : q_ir (q_r f sv 0) nsv) (hr15 : q_ir (q_r f scr 0) cmds) : q_Ct l g K L yX11_errorCode cX11_errorCode 1 (some .int) 0 0 [.ref x] f [] (q_Pi (fun (z : Int) (f1 : Nat → va_E) => f = f1 ∧ z = ek)) := by
  refine q_ofb (by decide +kernel) hN hT (Nat.le_of_ble_eq_true rfl) ?_
  intro p e s m below meth c ls cx hr hlk hB hl
  have hl : lv_has ls 1 [(0, .ref x)] := hl
  obtain ⟨H, hH⟩ : ∃ H : Heap, H = s.heap := ⟨_, rfl⟩
  obtain ⟨locs, hlocs⟩ : ∃ z : List Loc, z = [] := ⟨_, rfl⟩
  rw [← hH, ← hlocs] at hB
  rw [← hH, ← hlocs]
  refine q_ald_n cx dX11_errorCode_0 rfl (lv_at hl 0 rfl) ?_
  refine q_gX11_10 cx hB hx kx hr0 dX11_errorCode_1 (fun hb3 kb3 => ?_)
  refine q_gX11_114 cx hB hso kso hf0 dX11_errorCode_4 (fun lb4 ub4 => ?_)
  refine q_iret cx hr hlk hB dX11_errorCode_7 ⟨by omega, by omega⟩ ?_
  exact ⟨rfl, rfl⟩
set_option maxHeartbeats 4000000 in
set_option maxRecDepth 100000 in
theorem f_xerrorPosition (l : Launch) (g : q_G) {K : Nat → Nat} {L : List Nat} (hN : L.Nodup) {f : Nat → va_E} (hT : q_Ty g K L f) (x : Nat) (hx : x ∈ L) (kx : K x = 11) (so : Nat) (hso : so ∈ L) (kso : K so = 8) (rd : Nat) (hrd : rd ∈ L) (krd : K rd = 9) (scr : Nat) (hscr : scr ∈ L) (kscr : K scr = 7) (fc : Nat) (hfc : fc ∈ L) (kfc : K fc = 1) (hist : Nat) (hhist : hist ∈ L) (khist : K hist = 2) (rep : Nat) (hrep : rep ∈ L) (krep : K rep = 6) (now : Nat) (hnow : now ∈ L) (know : K now = 10) (dr : Nat) (hdr : dr ∈ L) (kdr : K dr = 13) (sv : Nat) (hsv : sv ∈ L) (ksv : K sv = 14) (tr : Nat) (htr : tr ∈ L) (ktr : K tr = 15) (ba : Nat) (hba : ba ∈ L) (kba : K ba = 142) (nds : Nat) (hnds : nds ∈ L) (knds : K nds = 111) (ka : Nat) (hka : ka ∈ L) (kka : K ka = 140) (ndn : Nat) (hndn : ndn ∈ L) (kndn : K ndn = 110) (nsv : Nat) (hnsv : nsv ∈ L) (knsv : K nsv = 112) (cmds : Nat) (hcmds : cmds ∈ L) (kcmds : K cmds = 141) (ek : Int) (lek : (-2147483648) ≤ ek) (uek : ek ≤ 2147483647) (hf0 : q_is (q_z f so 3) ek) (hr0 : q_ir (q_r f x 0) so) (hr1 : q_ir (q_r f x 1) rd) (hr2 : q_ir (q_r f x 2) scr) (hr3 : q_ir (q_r f x 3) fc) (hr4 : q_ir (q_r f x 4) hist) (hr5 : q_ir (q_r f x 5) rep) (hr6 : q_ir (q_r f x 6) now) (hr7 : q_ir (q_r f x 7) dr) (hr8 : q_ir (q_r f x 8) sv) (hr9 : q_ir (q_r f fc 0) tr) (hr10 : q_ir (q_r f so 0) ba) (hr11 : q_ir (q_r f dr 0) nds) (hr12 : q_ir (q_r f hist 0) ka) (hr13 : q_ir (q_r f now 0) ndn) (hr14 : q_ir (q_r f sv 0) nsv) (hr15 : q_ir (q_r f scr 0) cmds) : q_Ct l g K L yX11_errorPosition cX11_errorPosition 1 (some .int) 0 0 [.ref x] f [] (q_Pi (fun (z : Int) (f1 : Nat → va_E) => f = f1 ∧ z = ek)) := by
  refine q_ofb (by decide +kernel) hN hT (Nat.le_of_ble_eq_true rfl) ?_
  intro p e s m below meth c ls cx hr hlk hB hl
  have hl : lv_has ls 1 [(0, .ref x)] := hl
  obtain ⟨H, hH⟩ : ∃ H : Heap, H = s.heap := ⟨_, rfl⟩
  obtain ⟨locs, hlocs⟩ : ∃ z : List Loc, z = [] := ⟨_, rfl⟩
  rw [← hH, ← hlocs] at hB
  rw [← hH, ← hlocs]
  refine q_ald_n cx dX11_errorPosition_0 rfl (lv_at hl 0 rfl) ?_
  refine q_gX11_10 cx hB hx kx hr0 dX11_errorPosition_1 (fun hb3 kb3 => ?_)
  refine q_gX11_117 cx hB hso kso hf0 dX11_errorPosition_4 (fun lb4 ub4 => ?_)
  refine q_iret cx hr hlk hB dX11_errorPosition_7 ⟨by omega, by omega⟩ ?_
  exact ⟨rfl, rfl⟩
set_option maxHeartbeats 4000000 in
set_option maxRecDepth 100000 in
theorem f_w6runScript (l : Launch) (g : q_G) (ad : Nat → Nat) {K : Nat → Nat} {L : List Nat} (hN : L.Nodup) {f : Nat → va_E} (hT : q_Ty g K L f) (hfl : l.stackTraces = false) (B : Nat → Int) (nl9 : List (List Int)) (x : Nat) (hx : x ∈ L) (kx : K x = 11) (out : Nat) (hout : out ∈ L) (kout : K out = 168) (so : Nat) (hso : so ∈ L) (kso : K so = 8) (rd : Nat) (hrd : rd ∈ L) (krd : K rd = 9) (scr : Nat) (hscr : scr ∈ L) (kscr : K scr = 7) (fc : Nat) (hfc : fc ∈ L) (kfc : K fc = 1) (hist : Nat) (hhist : hist ∈ L) (khist : K hist = 2) (rep : Nat) (hrep : rep ∈ L) (krep : K rep = 6) (now : Nat) (hnow : now ∈ L) (know : K now = 10) (dr : Nat) (hdr : dr ∈ L) (kdr : K dr = 13) (sv : Nat) (hsv : sv ∈ L) (ksv : K sv = 14) (tr : Nat) (htr : tr ∈ L) (ktr : K tr = 15) (ba : Nat) (hba : ba ∈ L) (kba : K ba = 142) (nds : Nat) (hnds : nds ∈ L) (knds : K nds = 111) (ka : Nat) (hka : ka ∈ L) (kka : K ka = 140) (ndn : Nat) (hndn : ndn ∈ L) (kndn : K ndn = 110) (nsv : Nat) (hnsv : nsv ∈ L) (knsv : K nsv = 112) (cmds : Nat) (hcmds : cmds ∈ L) (kcmds : K cmds = 141) (tn : Int) (ltn : 0 ≤ tn) (utn : tn ≤ 600) (hf0 : q_is (q_z f so 1) tn) (hr0 : q_ir (q_r f x 0) so) (hr1 : q_ir (q_r f x 1) rd) (hr2 : q_ir (q_r f x 2) scr) (hr3 : q_ir (q_r f x 3) fc) (hr4 : q_ir (q_r f x 4) hist) (hr5 : q_ir (q_r f x 5) rep) (hr6 : q_ir (q_r f x 6) now) (hr7 : q_ir (q_r f x 7) dr) (hr8 : q_ir (q_r f x 8) sv) (hr9 : q_ir (q_r f fc 0) tr) (hr10 : q_ir (q_r f so 0) ba) (hr11 : q_ir (q_r f dr 0) nds) (hr12 : q_ir (q_r f hist 0) ka) (hr13 : q_ir (q_r f now 0) ndn) (hr14 : q_ir (q_r f sv 0) nsv) (hr15 : q_ir (q_r f scr 0) cmds) (htb : tk_tb f ba B tn) (hvn : tk_vn K L 5 f now ndn nl9) (hvk : tk_vk K L f hist ka now ndn) (hcj : tk_c3 K L f cmds) : q_Wt l g ad K L yL_runScript cL_runScript 3 (some .int) [(0, 8, 11, 19)] 9 196 1 6 [.ref x, .ref out] f [(0, 0, 6), (2, 1, 2), (3, 2, 4), (4, 0, 7), (5, 1, 1), (5, 3, 4), (5, 6, 9), (7, 1, 4), (8, 1, 9), (10, 5, 5), (10, 11, 15), (16, 3, 12), (20, 0, 8), (24, 0, 4), (28, 0, 7), (168, 0, 0)] (q_Pi (fun (z : Int) (f1 : Nat → va_E) => (z = 0 ∧ q_is (q_z f1 so 1) 0 ∧ q_is (q_z f1 so 2) 0 ∧ q_is (q_z f1 so 3) (-1) ∧ (tk_U B tn nl9 (tk_S B tn 0) 0 0 = tk_ok 0) ∧ (tk_vk K L f1 hist ka now ndn)) ∨ (z = 1 ∧ q_is (q_z f1 so 1) 0 ∧ (tk_U B tn nl9 (tk_S B tn 0) 0 0 = tk_er (q_z f1 so 2) (q_z f1 so 3)) ∧ (tk_vk K L f1 hist ka now ndn)))) := by
  refine q_wofb (by decide +kernel) hN hT (Nat.le_of_ble_eq_true rfl) ?_
  intro p e s m below meth c ls cx hr hlk htab hX hB hl
  have hl : lv_has ls 3 [(0, .ref x), (1, .ref out)] := hl
  obtain ⟨H, hH⟩ : ∃ H : Heap, H = s.heap := ⟨_, rfl⟩
  obtain ⟨locs, hlocs⟩ : ∃ z : List Loc, z = [] := ⟨_, rfl⟩
  rw [← hH, ← hlocs] at hB
  rw [← hH, ← hlocs]
  refine q_ald_n cx dL_runScript_0 rfl (lv_at hl 1 rfl) ?_
  refine q_iconst cx dL_runScript_1 ?_
  refine q_ald_n cx dL_runScript_2 rfl (lv_at hl 0 rfl) ?_
  refine q_cXV (As := []) (rest := [.int (q_i 0), .ref out]) cx hX hB (fun _ h => h) (fun _ h _ => h) hN hx kx (by decide) rfl (f_x6runScript l g ad hN hB.2.1 hfl B nl9 x hx kx so hso kso rd hrd krd scr hscr kscr fc hfc kfc hist hhist khist rep hrep krep now hnow know dr hdr kdr sv hsv ksv tr htr ktr ba hba kba nds hnds knds ka hka kka ndn hndn kndn nsv hnsv knsv cmds hcmds kcmds tn (by omega) (by omega) hf0 hr0 hr1 hr2 hr3 hr4 hr5 hr6 hr7 hr8 hr9 hr10 hr11 hr12 hr13 hr14 hr15 htb hvn hvk hcj) q_cL_25 q_dX11_runScript (by decide) rfl rfl hl.1 rfl (Nat.le_of_ble_eq_true rfl) dL_runScript_3 (fun E9 ce9 q9 H locs f79 hex hF hB hcell hcv hcl => ?_) (fun v9 H locs f76 h78 hF hB => ?_)
  · rcases hex with ⟨rfl, t80, z81, g82⟩
    · have z83 : q_ir (q_r f79 x 0) so := Eq.trans (hF.r hx (by rw [kx]; rfl)) hr0
      have z84 : q_ir (q_r f79 x 1) rd := Eq.trans (hF.r hx (by rw [kx]; rfl)) hr1
      have z85 : q_ir (q_r f79 x 2) scr := Eq.trans (hF.r hx (by rw [kx]; rfl)) hr2
      have z86 : q_ir (q_r f79 x 3) fc := Eq.trans (hF.r hx (by rw [kx]; rfl)) hr3
      have z87 : q_ir (q_r f79 x 4) hist := Eq.trans (hF.r hx (by rw [kx]; rfl)) hr4
      have z88 : q_ir (q_r f79 x 5) rep := Eq.trans (hF.r hx (by rw [kx]; rfl)) hr5
      have z89 : q_ir (q_r f79 x 6) now := Eq.trans (hF.r hx (by rw [kx]; rfl)) hr6
      have z90 : q_ir (q_r f79 x 7) dr := Eq.trans (hF.r hx (by rw [kx]; rfl)) hr7
      have z91 : q_ir (q_r f79 x 8) sv := Eq.trans (hF.r hx (by rw [kx]; rfl)) hr8
      have z92 : q_ir (q_r f79 fc 0) tr := Eq.trans (hF.r hfc (by rw [kfc]; rfl)) hr9
      have z93 : q_ir (q_r f79 so 0) ba := Eq.trans (hF.r hso (by rw [kso]; rfl)) hr10
      have z94 : q_ir (q_r f79 dr 0) nds := Eq.trans (hF.r hdr (by rw [kdr]; rfl)) hr11
      have z95 : q_ir (q_r f79 hist 0) ka := Eq.trans (hF.r hhist (by rw [khist]; rfl)) hr12
      have z96 : q_ir (q_r f79 now 0) ndn := Eq.trans (hF.r hnow (by rw [know]; rfl)) hr13
      have z97 : q_ir (q_r f79 sv 0) nsv := Eq.trans (hF.r hsv (by rw [ksv]; rfl)) hr14
      have z98 : q_ir (q_r f79 scr 0) cmds := Eq.trans (hF.r hscr (by rw [kscr]; rfl)) hr15
      have g99 : tk_tb f79 ba B tn := tk_tb_tr htb (fun i9 => hF.z hba (by rw [kba]; rfl))
      have g100 : tk_vn K L 5 f79 now ndn nl9 := tk_vn_tr hvn (hF.z hnow (by rw [know]; rfl)) (fun a9 h9 k9 => hF.j h9 (by rw [k9]; rfl)) (fun i9 => hF.r hndn (by rw [kndn]; rfl))
      have g101 : tk_c3 K L f79 cmds := tk_c3_tr hcj (fun i9 => hF.r hcmds (by rw [kcmds]; rfl))
      refine vx_catch (E := "java/lang/IllegalArgumentException") (name := "java/lang/IllegalArgumentException") cx.2.2.2.1 [] ⟨0, 8, 11, 19⟩ [] (htab.trans rfl) (q_pnil) (by decide) (by decide) (cx.2.2.2.2 _ q_h875) (va_Nw.use rfl (hX.2.2.2.1 (.castable "java/lang/IllegalArgumentException" "java/lang/IllegalArgumentException") (by decide +kernel))) hcell hcv hcl ?_
      refine lv_astore_n (lv' := [(2, .ref q9), (0, .ref x), (1, .ref out)]) cx.1 cx.2.1 dL_runScript_11 rfl hl (by decide) rfl (fun ls hl => ?_)
      refine q_iconst cx dL_runScript_12 ?_
      refine W.widen (k := 1) (n := 6) (by decide) (by decide) ?_
      refine q_iret cx hr hlk hB dL_runScript_13 ⟨by decide, by decide⟩ ?_
      exact (Or.inr ⟨rfl, z81, t80, g82⟩)
  · obtain ⟨y77, rfl, ry77, h78⟩ := h78
    refine W.eq (g2 := F0 m 6 ls [.int (q_i y77), .int (q_i 0), .ref out]) rfl ?_
    obtain ⟨z102, z103, z104, t105, g106⟩ := h78
    have z107 : q_ir (q_r f76 x 0) so := Eq.trans (hF.r hx (by rw [kx]; rfl)) hr0
    have z108 : q_ir (q_r f76 x 1) rd := Eq.trans (hF.r hx (by rw [kx]; rfl)) hr1
    have z109 : q_ir (q_r f76 x 2) scr := Eq.trans (hF.r hx (by rw [kx]; rfl)) hr2
    have z110 : q_ir (q_r f76 x 3) fc := Eq.trans (hF.r hx (by rw [kx]; rfl)) hr3
    have z111 : q_ir (q_r f76 x 4) hist := Eq.trans (hF.r hx (by rw [kx]; rfl)) hr4
    have z112 : q_ir (q_r f76 x 5) rep := Eq.trans (hF.r hx (by rw [kx]; rfl)) hr5
    have z113 : q_ir (q_r f76 x 6) now := Eq.trans (hF.r hx (by rw [kx]; rfl)) hr6
    have z114 : q_ir (q_r f76 x 7) dr := Eq.trans (hF.r hx (by rw [kx]; rfl)) hr7
    have z115 : q_ir (q_r f76 x 8) sv := Eq.trans (hF.r hx (by rw [kx]; rfl)) hr8
    have z116 : q_ir (q_r f76 fc 0) tr := Eq.trans (hF.r hfc (by rw [kfc]; rfl)) hr9
    have z117 : q_ir (q_r f76 so 0) ba := Eq.trans (hF.r hso (by rw [kso]; rfl)) hr10
    have z118 : q_ir (q_r f76 dr 0) nds := Eq.trans (hF.r hdr (by rw [kdr]; rfl)) hr11
    have z119 : q_ir (q_r f76 hist 0) ka := Eq.trans (hF.r hhist (by rw [khist]; rfl)) hr12
    have z120 : q_ir (q_r f76 now 0) ndn := Eq.trans (hF.r hnow (by rw [know]; rfl)) hr13
    have z121 : q_ir (q_r f76 sv 0) nsv := Eq.trans (hF.r hsv (by rw [ksv]; rfl)) hr14
    have z122 : q_ir (q_r f76 scr 0) cmds := Eq.trans (hF.r hscr (by rw [kscr]; rfl)) hr15
    have g123 : tk_tb f76 ba B tn := tk_tb_tr htb (fun i9 => hF.z hba (by rw [kba]; rfl))
    have g124 : tk_vn K L 5 f76 now ndn nl9 := tk_vn_tr hvn (hF.z hnow (by rw [know]; rfl)) (fun a9 h9 k9 => hF.j h9 (by rw [k9]; rfl)) (fun i9 => hF.r hndn (by rw [kndn]; rfl))
    have g125 : tk_c3 K L f76 cmds := tk_c3_tr hcj (fun i9 => hF.r hcmds (by rw [kcmds]; rfl))
    refine q_i2l cx ⟨by omega, by omega⟩ dL_runScript_6 ?_
    refine q_last (n := 1) cx hB hout kout (by decide) rfl rfl (by decide) (by decide) (by decide) rfl rfl dL_runScript_7 (fun H locs f126 ef126 z127 hB => ?_)
    have z128 : q_is (q_z f126 so 1) 0 := by rw [ef126, q_setz (Or.inr (by decide))]; exact z102
    have z129 : q_is (q_z f126 so 2) 0 := by rw [ef126, q_setz (Or.inr (by decide))]; exact z103
    have z130 : q_is (q_z f126 so 3) (-1) := by rw [ef126, q_setz (Or.inr (by decide))]; exact z104
    have z131 : q_ir (q_r f126 x 0) so := by rw [ef126, q_setr (Or.inl (fun q => by rw [q, kout] at kx; exact absurd kx (by decide)))]; exact z107
    have z132 : q_ir (q_r f126 x 1) rd := by rw [ef126, q_setr (Or.inr (by decide))]; exact z108
    have z133 : q_ir (q_r f126 x 2) scr := by rw [ef126, q_setr (Or.inr (by decide))]; exact z109
    have z134 : q_ir (q_r f126 x 3) fc := by rw [ef126, q_setr (Or.inr (by decide))]; exact z110
    have z135 : q_ir (q_r f126 x 4) hist := by rw [ef126, q_setr (Or.inr (by decide))]; exact z111
    have z136 : q_ir (q_r f126 x 5) rep := by rw [ef126, q_setr (Or.inr (by decide))]; exact z112
    have z137 : q_ir (q_r f126 x 6) now := by rw [ef126, q_setr (Or.inr (by decide))]; exact z113
    have z138 : q_ir (q_r f126 x 7) dr := by rw [ef126, q_setr (Or.inr (by decide))]; exact z114
    have z139 : q_ir (q_r f126 x 8) sv := by rw [ef126, q_setr (Or.inr (by decide))]; exact z115
    have z140 : q_ir (q_r f126 fc 0) tr := by rw [ef126, q_setr (Or.inl (fun q => by rw [q, kout] at kfc; exact absurd kfc (by decide)))]; exact z116
    have z141 : q_ir (q_r f126 so 0) ba := by rw [ef126, q_setr (Or.inl (fun q => by rw [q, kout] at kso; exact absurd kso (by decide)))]; exact z117
    have z142 : q_ir (q_r f126 dr 0) nds := by rw [ef126, q_setr (Or.inl (fun q => by rw [q, kout] at kdr; exact absurd kdr (by decide)))]; exact z118
    have z143 : q_ir (q_r f126 hist 0) ka := by rw [ef126, q_setr (Or.inl (fun q => by rw [q, kout] at khist; exact absurd khist (by decide)))]; exact z119
    have z144 : q_ir (q_r f126 now 0) ndn := by rw [ef126, q_setr (Or.inl (fun q => by rw [q, kout] at know; exact absurd know (by decide)))]; exact z120
    have z145 : q_ir (q_r f126 sv 0) nsv := by rw [ef126, q_setr (Or.inl (fun q => by rw [q, kout] at ksv; exact absurd ksv (by decide)))]; exact z121
    have z146 : q_ir (q_r f126 scr 0) cmds := by rw [ef126, q_setr (Or.inl (fun q => by rw [q, kout] at kscr; exact absurd kscr (by decide)))]; exact z122
    have g147 : tk_tb f126 ba B tn := tk_tb_tr g123 (fun i9 => by rw [ef126, q_setz (Or.inl (fun q => by rw [q, kout] at kba; exact absurd kba (by decide)))])
    have g148 : tk_vn K L 5 f126 now ndn nl9 := tk_vn_tr g124 (by rw [ef126, q_setz (Or.inr (by decide))]) (fun a9 h9 k9 => by rw [ef126, q_setj (Or.inl (fun q => by rw [q, kout] at k9; exact absurd k9 (by decide)))]) (fun i9 => by rw [ef126, q_setr (Or.inl (fun q => by rw [q, kout] at kndn; exact absurd kndn (by decide)))])
    have g149 : tk_c3 K L f126 cmds := tk_c3_tr g125 (fun i9 => by rw [ef126, q_setr (Or.inl (fun q => by rw [q, kout] at kcmds; exact absurd kcmds (by decide)))])
    have g150 : tk_vk K L f126 hist ka now ndn := tk_vk_tr g106 (by rw [ef126, q_setz (Or.inr (by decide))]) (by rw [ef126, q_setz (Or.inr (by decide))]) (by rw [ef126, q_setz (Or.inr (by decide))]) (fun a9 h9 k9 => by rw [ef126, q_setj (Or.inl (fun q => by rw [q, kout] at k9; exact absurd k9 (by decide)))]) (fun i9 => by rw [ef126, q_setr (Or.inl (fun q => by rw [q, kout] at kndn; exact absurd kndn (by decide)))]) (fun a9 h9 k9 => by rw [ef126, q_setz (Or.inl (fun q => by rw [q, kout] at k9; exact absurd k9 (by decide)))]) (fun a9 h9 k9 => by rw [ef126, q_setj (Or.inl (fun q => by rw [q, kout] at k9; exact absurd k9 (by decide)))]) (fun i9 => by rw [ef126, q_setr (Or.inl (fun q => by rw [q, kout] at kka; exact absurd kka (by decide)))]) (fun a9 h9 k9 => by rw [ef126, q_setr (Or.inl (fun q => by rw [q, kout] at k9; exact absurd k9 (by decide)))]) (fun a9 h9 k9 i9 => by rw [ef126, q_setr (Or.inl (fun q => by rw [q, kout] at k9; exact absurd k9 (by decide)))])
    refine lv_goto (tgt := 14) cx.1 cx.2.1 dL_runScript_8 (by decide) ?_
    refine q_iconst cx dL_runScript_14 ?_
    refine W.widen (k := 1) (n := 6) (by decide) (by decide) ?_
    refine q_iret cx hr hlk hB dL_runScript_15 ⟨by decide, by decide⟩ ?_
    exact (Or.inl ⟨rfl, z128, z129, z130, t105, g150⟩)
