set_option maxHeartbeats 4000000 in
set_option maxRecDepth 100000 in
theorem r_bestWatch (l : Launch) (g : q_G) {K : Nat → Nat} {L : List Nat} (hN : L.Nodup) {f : Nat → va_E} (hT : q_Ty g K L f) (mo : Nat) (hmo : mo ∈ L) (kmo : K mo = 12) (a0 : Int) (la0 : (-2147483648) ≤ a0) (ua0 : a0 ≤ 2147483647) (b0 : Int) (lb0 : (-2147483648) ≤ b0) (ub0 : b0 ≤ 2147483647) (sr : Nat) (hsr : sr ∈ L) (ksr : K sr = 151) (hp : Nat) (hhp : hp ∈ L) (khp : K hp = 159) (dy : Nat) (hdy : dy ∈ L) (kdy : K dy = 160) (aw : Nat) (haw : aw ∈ L) (kaw : K aw = 154) (xt : Int) (lxt : 0 ≤ xt) (uxt : xt ≤ 9999) (xm : Int) (lxm : 0 ≤ xm) (uxm : xm ≤ 60) (hf0 : q_is (q_z f sr 3) xt) (hf1 : q_is (q_z f sr 4) xm) (hr0 : q_ir (q_r f mo 13) sr) (hr1 : q_ir (q_r f mo 24) hp) (hr2 : q_ir (q_r f mo 25) dy) (hr3 : q_ir (q_r f mo 16) aw) (hgr : q_gr f sr) : q_Ct l g K L yX12_bestWatch cX12_bestWatch 7 (some .int) 12 275 [.ref mo, .int (q_i a0), .int (q_i b0)] f [(12, 0, 0), (12, 26, 28), (151, 0, 657), (154, 0, 657), (159, 0, 9), (160, 0, 9)] (q_Pi (fun (z : Int) (f1 : Nat → va_E) => (-1) ≤ z ∧ z ≤ 59 ∧ 0 ≤ q_z f1 sr 3 ∧ q_z f1 sr 3 ≤ 9999 ∧ 0 ≤ q_z f1 sr 4 ∧ q_z f1 sr 4 ≤ 60 ∧ q_gr f1 sr)) := by
  refine q_ofb (by decide +kernel) hN hT (Nat.le_of_ble_eq_true rfl) ?_
  intro p e s m below meth c ls cx hr hlk hB hl
  have hl : lv_has ls 7 [(0, .ref mo), (1, .int (q_i a0)), (2, .int (q_i b0))] := hl
  have J58 : ∀ (n : Nat) (f58 : Nat → va_E) (v58_3 : Int) (lv58_3 : (-1) ≤ v58_3) (uv58_3 : v58_3 ≤ 200) (v58_4 : Int) (lv58_4 : (-1) ≤ v58_4) (uv58_4 : v58_4 ≤ 59) (v58_5 : Int) (lv58_5 : 0 ≤ v58_5) (uv58_5 : v58_5 ≤ 60) (w58_sr_3 : Int) (lw58_sr_3 : 0 ≤ w58_sr_3) (uw58_sr_3 : w58_sr_3 ≤ 9999) (w58_sr_4 : Int) (lw58_sr_4 : 0 ≤ w58_sr_4) (uw58_sr_4 : w58_sr_4 ≤ 60) (bla0 : 0 ≤ a0) (bua0 : a0 ≤ 9) (blb0 : 0 ≤ b0) (bub0 : b0 ≤ 9) (hj_sr_3 : q_is (q_z f58 sr 3) w58_sr_3) (hj_sr_4 : q_is (q_z f58 sr 4) w58_sr_4) (hq_mo_13 : q_ir (q_r f58 mo 13) sr) (hq_mo_24 : q_ir (q_r f58 mo 24) hp) (hq_mo_25 : q_ir (q_r f58 mo 25) dy) (hq_mo_16 : q_ir (q_r f58 mo 16) aw) (hgr58 : q_gr f58 sr) (hmu : (Int.toNat (2147483647 - v58_5)) < n) (H : Heap) (locs : List Loc) (hB : q_B g K L (fun q => q ∈ L) [(12, 0, 0), (12, 26, 28), (151, 0, 657), (154, 0, 657), (159, 0, 9), (160, 0, 9)] f f58 s H locs) (ls : Array Slot) (hl : lv_has ls 7 [(0, .ref mo), (1, .int (q_i a0)), (2, .int (q_i b0)), (3, .int (q_i v58_3)), (4, .int (q_i v58_4)), (5, .int (q_i v58_5))]), W p l e { frames := 12, cells := 0, slots := 0, locals := 275 } s m ([.ref mo, .int (q_i a0), .int (q_i b0)] : List Value).toArray below meth c H locs 0 0 (MQ below (q_Q g K L [(12, 0, 0), (12, 26, 28), (151, 0, 657), (154, 0, 657), (159, 0, 9), (160, 0, 9)] f (q_Pi (fun (z : Int) (f1 : Nat → va_E) => (-1) ≤ z ∧ z ≤ 59 ∧ 0 ≤ q_z f1 sr 3 ∧ q_z f1 sr 3 ≤ 9999 ∧ 0 ≤ q_z f1 sr 4 ∧ q_z f1 sr 4 ≤ 60 ∧ q_gr f1 sr))) ([.ref mo, .int (q_i a0), .int (q_i b0)] : List Value).toArray s 0 0 (fun q => q ∈ L)) (F0 m 58 ls []) := by
    intro n
    induction n with
    | zero =>
      intro f58 v58_3 lv58_3 uv58_3 v58_4 lv58_4 uv58_4 v58_5 lv58_5 uv58_5 w58_sr_3 lw58_sr_3 uw58_sr_3 w58_sr_4 lw58_sr_4 uw58_sr_4 bla0 bua0 blb0 bub0 hj_sr_3 hj_sr_4 hq_mo_13 hq_mo_24 hq_mo_25 hq_mo_16 hgr58 hmu
      exact absurd hmu (Nat.not_lt_zero _)
    | succ n ih58 =>
      intro f58 v58_3 lv58_3 uv58_3 v58_4 lv58_4 uv58_4 v58_5 lv58_5 uv58_5 w58_sr_3 lw58_sr_3 uw58_sr_3 w58_sr_4 lw58_sr_4 uw58_sr_4 bla0 bua0 blb0 bub0 hj_sr_3 hj_sr_4 hq_mo_13 hq_mo_24 hq_mo_25 hq_mo_16 hgr58 hmu H locs hB ls hl
      refine lv_iload cx.1 cx.2.1 dX12_bestWatch_58 (lv_at hl 5 rfl) ?_
      refine q_ald_n cx dX12_bestWatch_60 rfl (lv_at hl 0 rfl) ?_
      refine q_gX12_20 cx hB hmo kmo hq_mo_13 dX12_bestWatch_61 (fun hb501 kb501 => ?_)
      refine q_iconst cx dX12_bestWatch_64 ?_
      obtain ⟨x502, ex502⟩ : ∃ zz, q_is (q_z f58 sr (Int.toNat 2)) zz := ⟨_, q_isr _⟩
      refine q_sald cx hB hsr ksr (by decide) (by decide) ex502 dX12_bestWatch_65 (fun rx502 => ?_)
      obtain ⟨lx502, ux502⟩ : 4 ≤ x502 ∧ x502 ≤ 60 := q_isb ex502 (q_gr_at hgr58 (by decide) rfl)
      refine q_icge (tgt := 112) cx ⟨by omega, by omega⟩ ⟨by omega, by omega⟩ dX12_bestWatch_66 (by decide) (fun c504 => ?_) (fun c504 => ?_)
      · refine lv_iload cx.1 cx.2.1 dX12_bestWatch_112 (lv_at hl 4 rfl) ?_
        refine q_iret cx hr hlk hB dX12_bestWatch_114 ⟨by omega, by omega⟩ ?_
        exact ⟨(by omega), (by omega), (q_isl hj_sr_3 (by omega)), (q_isu hj_sr_3 (by omega)), (q_isl hj_sr_4 (by omega)), (q_isu hj_sr_4 (by omega)), hgr58⟩
      · refine q_ald_n cx dX12_bestWatch_69 rfl (lv_at hl 0 rfl) ?_
        refine q_ild_n cx dX12_bestWatch_70 rfl (lv_at hl 1 rfl) ?_
        refine q_ild_n cx dX12_bestWatch_71 rfl (lv_at hl 2 rfl) ?_
        refine lv_iload cx.1 cx.2.1 dX12_bestWatch_72 (lv_at hl 5 rfl) ?_
        refine q_cVi (As := [.int (q_i a0), .int (q_i b0), .int (q_i v58_5)]) (rest := []) cx hB (fun _ h => h) hN hmo kmo (by decide) rfl (r_byWatch l g hN hB.2.1 mo hmo kmo a0 (by omega) (by omega) b0 (by omega) (by omega) v58_5 (by omega) (by omega) sr hsr ksr hp hhp khp dy hdy kdy aw haw kaw w58_sr_3 (by omega) (by omega) w58_sr_4 (by omega) (by omega) hj_sr_3 hj_sr_4 hq_mo_13 hq_mo_24 hq_mo_25 hq_mo_16 hgr58) q_cX12_440 q_dX12_byWatch (by decide) rfl rfl hl.1 rfl (Nat.le_of_ble_eq_true rfl) dX12_bestWatch_74 (fun y506 H locs f505 ry506 h507 hF hB => ?_)
        obtain ⟨ly506, uy506, lz508, uz508, lz509, uz509, g510⟩ := h507
        have z511 : q_ir (q_r f505 mo 13) sr := Eq.trans (hF.r hmo (by rw [kmo]; rfl)) hq_mo_13
        have z512 : q_ir (q_r f505 mo 24) hp := Eq.trans (hF.r hmo (by rw [kmo]; rfl)) hq_mo_24
        have z513 : q_ir (q_r f505 mo 25) dy := Eq.trans (hF.r hmo (by rw [kmo]; rfl)) hq_mo_25
        have z514 : q_ir (q_r f505 mo 16) aw := Eq.trans (hF.r hmo (by rw [kmo]; rfl)) hq_mo_16
        obtain ⟨x515, ex515⟩ : ∃ zz, q_is (q_z f505 sr 3) zz := ⟨_, q_isr _⟩
        obtain ⟨lx515, ux515⟩ := q_isb ex515 ⟨lz508, uz508⟩
        obtain ⟨x516, ex516⟩ : ∃ zz, q_is (q_z f505 sr 4) zz := ⟨_, q_isr _⟩
        obtain ⟨lx516, ux516⟩ := q_isb ex516 ⟨lz509, uz509⟩
        refine lv_istore (lv' := [(6, .int (q_i y506)), (0, .ref mo), (1, .int (q_i a0)), (2, .int (q_i b0)), (3, .int (q_i v58_3)), (4, .int (q_i v58_4)), (5, .int (q_i v58_5))]) cx.1 cx.2.1 dX12_bestWatch_77 hl (by decide) rfl (fun ls hl => ?_)
        refine lv_iload cx.1 cx.2.1 dX12_bestWatch_79 (lv_at hl 0 rfl) ?_
        refine q_iconst cx dX12_bestWatch_81 ?_
        refine q_iceq (tgt := 106) cx ⟨by omega, by omega⟩ ⟨by decide, by decide⟩ dX12_bestWatch_82 (by decide) (fun c517 => ?_) (fun c517 => ?_)
        · refine q_iinc (lv' := [(5, .int (q_i (v58_5 + 1))), (6, .int (q_i y506)), (0, .ref mo), (1, .int (q_i a0)), (2, .int (q_i b0)), (3, .int (q_i v58_3)), (4, .int (q_i v58_4))]) cx dX12_bestWatch_106 hl (k := 6) rfl (by decide) rfl (fun ls hl => ?_)
          refine lv_goto (tgt := 58) cx.1 cx.2.1 dX12_bestWatch_109 (by decide) ?_
          exact ih58 f505 v58_3 (by omega) (by omega) v58_4 (by omega) (by omega) (v58_5 + 1) (by omega) (by omega) x515 (by omega) (by omega) x516 (by omega) (by omega) (by omega) (by omega) (by omega) (by omega) ex515 ex516 z511 z512 z513 z514 g510 (by omega) H locs hB ls (lv_sub hl [2, 3, 4, 5, 6, 0] rfl)
        · refine q_ild_n cx dX12_bestWatch_85 rfl (lv_at hl 4 rfl) ?_
          refine q_iconst cx dX12_bestWatch_86 ?_
          refine q_iceq (tgt := 99) cx ⟨by omega, by omega⟩ ⟨by decide, by decide⟩ dX12_bestWatch_87 (by decide) (fun c518 => ?_) (fun c518 => ?_)
          · refine lv_iload cx.1 cx.2.1 dX12_bestWatch_99 (lv_at hl 0 rfl) ?_
            refine lv_istore_n (lv' := [(3, .int (q_i y506)), (6, .int (q_i y506)), (0, .ref mo), (1, .int (q_i a0)), (2, .int (q_i b0)), (4, .int (q_i v58_4)), (5, .int (q_i v58_5))]) cx.1 cx.2.1 dX12_bestWatch_101 rfl hl (by decide) rfl (fun ls hl => ?_)
            refine lv_iload cx.1 cx.2.1 dX12_bestWatch_102 (lv_at hl 6 rfl) ?_
            refine lv_istore (lv' := [(4, .int (q_i v58_5)), (3, .int (q_i y506)), (6, .int (q_i y506)), (0, .ref mo), (1, .int (q_i a0)), (2, .int (q_i b0)), (5, .int (q_i v58_5))]) cx.1 cx.2.1 dX12_bestWatch_104 hl (by decide) rfl (fun ls hl => ?_)
            refine q_iinc (lv' := [(5, .int (q_i (v58_5 + 1))), (4, .int (q_i v58_5)), (3, .int (q_i y506)), (6, .int (q_i y506)), (0, .ref mo), (1, .int (q_i a0)), (2, .int (q_i b0))]) cx dX12_bestWatch_106 hl (k := 6) rfl (by decide) rfl (fun ls hl => ?_)
            refine lv_goto (tgt := 58) cx.1 cx.2.1 dX12_bestWatch_109 (by decide) ?_
            exact ih58 f505 y506 (by omega) (by omega) v58_5 (by omega) (by omega) (v58_5 + 1) (by omega) (by omega) x515 (by omega) (by omega) x516 (by omega) (by omega) (by omega) (by omega) (by omega) (by omega) ex515 ex516 z511 z512 z513 z514 g510 (by omega) H locs hB ls (lv_sub hl [4, 5, 6, 2, 1, 0] rfl)
          · refine lv_iload cx.1 cx.2.1 dX12_bestWatch_90 (lv_at hl 0 rfl) ?_
            refine q_ild_n cx dX12_bestWatch_92 rfl (lv_at hl 4 rfl) ?_
            refine q_iclt (tgt := 99) cx ⟨by omega, by omega⟩ ⟨by omega, by omega⟩ dX12_bestWatch_93 (by decide) (fun c519 => ?_) (fun c519 => ?_)
            · refine lv_iload cx.1 cx.2.1 dX12_bestWatch_99 (lv_at hl 0 rfl) ?_
              refine lv_istore_n (lv' := [(3, .int (q_i y506)), (6, .int (q_i y506)), (0, .ref mo), (1, .int (q_i a0)), (2, .int (q_i b0)), (4, .int (q_i v58_4)), (5, .int (q_i v58_5))]) cx.1 cx.2.1 dX12_bestWatch_101 rfl hl (by decide) rfl (fun ls hl => ?_)
              refine lv_iload cx.1 cx.2.1 dX12_bestWatch_102 (lv_at hl 6 rfl) ?_
              refine lv_istore (lv' := [(4, .int (q_i v58_5)), (3, .int (q_i y506)), (6, .int (q_i y506)), (0, .ref mo), (1, .int (q_i a0)), (2, .int (q_i b0)), (5, .int (q_i v58_5))]) cx.1 cx.2.1 dX12_bestWatch_104 hl (by decide) rfl (fun ls hl => ?_)
              refine q_iinc (lv' := [(5, .int (q_i (v58_5 + 1))), (4, .int (q_i v58_5)), (3, .int (q_i y506)), (6, .int (q_i y506)), (0, .ref mo), (1, .int (q_i a0)), (2, .int (q_i b0))]) cx dX12_bestWatch_106 hl (k := 6) rfl (by decide) rfl (fun ls hl => ?_)
              refine lv_goto (tgt := 58) cx.1 cx.2.1 dX12_bestWatch_109 (by decide) ?_
              exact ih58 f505 y506 (by omega) (by omega) v58_5 (by omega) (by omega) (v58_5 + 1) (by omega) (by omega) x515 (by omega) (by omega) x516 (by omega) (by omega) (by omega) (by omega) (by omega) (by omega) ex515 ex516 z511 z512 z513 z514 g510 (by omega) H locs hB ls (lv_sub hl [4, 5, 6, 2, 1, 0] rfl)
            · refine lv_goto (tgt := 106) cx.1 cx.2.1 dX12_bestWatch_96 (by decide) ?_
              refine q_iinc (lv' := [(5, .int (q_i (v58_5 + 1))), (6, .int (q_i y506)), (0, .ref mo), (1, .int (q_i a0)), (2, .int (q_i b0)), (3, .int (q_i v58_3)), (4, .int (q_i v58_4))]) cx dX12_bestWatch_106 hl (k := 6) rfl (by decide) rfl (fun ls hl => ?_)
              refine lv_goto (tgt := 58) cx.1 cx.2.1 dX12_bestWatch_109 (by decide) ?_
              exact ih58 f505 v58_3 (by omega) (by omega) v58_4 (by omega) (by omega) (v58_5 + 1) (by omega) (by omega) x515 (by omega) (by omega) x516 (by omega) (by omega) (by omega) (by omega) (by omega) (by omega) ex515 ex516 z511 z512 z513 z514 g510 (by omega) H locs hB ls (lv_sub hl [2, 3, 4, 5, 6, 0] rfl)
  obtain ⟨H, hH⟩ : ∃ H : Heap, H = s.heap := ⟨_, rfl⟩
  obtain ⟨locs, hlocs⟩ : ∃ z : List Loc, z = [] := ⟨_, rfl⟩
  rw [← hH, ← hlocs] at hB
  rw [← hH, ← hlocs]
  refine q_ald_n cx dX12_bestWatch_0 rfl (lv_at hl 0 rfl) ?_
  refine q_ald_n cx dX12_bestWatch_1 rfl (lv_at hl 0 rfl) ?_
  refine q_ild_n cx dX12_bestWatch_2 rfl (lv_at hl 1 rfl) ?_
  refine q_cVi (As := [.int (q_i a0)]) (rest := [.ref mo]) cx hB (fun _ h => h) hN hmo kmo (by decide) rfl (r_isNode l g hN hB.2.1 mo hmo kmo a0 (by omega) (by omega) sr hsr ksr hr0) q_cX12_355 q_dX12_isNode (by decide) rfl rfl hl.1 rfl (Nat.le_of_ble_eq_true rfl) dX12_bestWatch_3 (fun y521 H locs f520 ry521 h522 hF hB => ?_)
  rcases h522 with h523 | h524
  · obtain ⟨rfl, qy521, t525, t526⟩ := h523
    subst qy521
    refine q_ifeq (tgt := 21) cx ⟨by decide, by decide⟩ dX12_bestWatch_6 (by decide) (fun c527 => ?_) (fun c527 => ?_)
    · exact absurd c527 (by omega)
    · refine q_ald_n cx dX12_bestWatch_9 rfl (lv_at hl 0 rfl) ?_
      refine q_ild_n cx dX12_bestWatch_10 rfl (lv_at hl 2 rfl) ?_
      refine q_cVi (As := [.int (q_i b0)]) (rest := [.ref mo]) cx hB (fun _ h => h) hN hmo kmo (by decide) rfl (r_isNode l g hN hB.2.1 mo hmo kmo b0 (by omega) (by omega) sr hsr ksr hr0) q_cX12_355 q_dX12_isNode (by decide) rfl rfl hl.1 rfl (Nat.le_of_ble_eq_true rfl) dX12_bestWatch_11 (fun y529 H locs f528 ry529 h530 hF hB => ?_)
      rcases h530 with h531 | h532
      · obtain ⟨rfl, qy529, t533, t534⟩ := h531
        subst qy529
        refine q_ifeq (tgt := 21) cx ⟨by decide, by decide⟩ dX12_bestWatch_14 (by decide) (fun c535 => ?_) (fun c535 => ?_)
        · exact absurd c535 (by omega)
        · refine q_iconst cx dX12_bestWatch_17 ?_
          refine lv_goto (tgt := 22) cx.1 cx.2.1 dX12_bestWatch_18 (by decide) ?_
          refine q_ild_n cx dX12_bestWatch_22 rfl (lv_at hl 1 rfl) ?_
          refine q_ild_n cx dX12_bestWatch_23 rfl (lv_at hl 2 rfl) ?_
          refine q_iceq (tgt := 31) cx ⟨by omega, by omega⟩ ⟨by omega, by omega⟩ dX12_bestWatch_24 (by decide) (fun c536 => ?_) (fun c536 => ?_)
          · refine q_iconst cx dX12_bestWatch_31 ?_
            refine q_cVi (As := [.int (q_i 1), .int (q_i 0)]) (rest := []) cx hB (fun _ h => h) hN hmo kmo (by decide) rfl (r_goesBoth1 l g hN hB.2.1 mo hmo kmo 1 (by decide) (by decide) 0 (by decide) (by decide)) q_cX12_358 q_dX12_goesBoth (by decide) rfl rfl hl.1 rfl (Nat.le_of_ble_eq_true rfl) dX12_bestWatch_32 (fun y538 H locs f537 ry538 h539 hF hB => ?_)
            obtain ⟨qy538, z540⟩ := h539
            have z541 : q_is (q_z f537 sr 3) xt := Eq.trans (hF.z hsr (by rw [ksr]; rfl)) hf0
            have z542 : q_is (q_z f537 sr 4) xm := Eq.trans (hF.z hsr (by rw [ksr]; rfl)) hf1
            have z543 : q_ir (q_r f537 mo 13) sr := Eq.trans (hF.r hmo (by rw [kmo]; rfl)) hr0
            have z544 : q_ir (q_r f537 mo 24) hp := Eq.trans (hF.r hmo (by rw [kmo]; rfl)) hr1
            have z545 : q_ir (q_r f537 mo 25) dy := Eq.trans (hF.r hmo (by rw [kmo]; rfl)) hr2
            have z546 : q_ir (q_r f537 mo 16) aw := Eq.trans (hF.r hmo (by rw [kmo]; rfl)) hr3
            have g547 : q_gr f537 sr := q_gr_fr hgr (fun i9 _ => hF.z hsr (by rw [ksr]; rfl))
            subst qy538
            refine q_ifne (tgt := 40) cx ⟨by decide, by decide⟩ dX12_bestWatch_35 (by decide) (fun c548 => ?_) (fun c548 => ?_)
            · exact absurd c548 (by omega)
            · refine q_iconst cx dX12_bestWatch_38 ?_
              refine q_iret cx hr hlk hB dX12_bestWatch_39 ⟨by decide, by decide⟩ ?_
              exact ⟨(by decide), (by decide), (q_isl z541 (by omega)), (q_isu z541 (by omega)), (q_isl z542 (by omega)), (q_isu z542 (by omega)), g547⟩
          · refine q_iconst cx dX12_bestWatch_27 ?_
            refine lv_goto (tgt := 32) cx.1 cx.2.1 dX12_bestWatch_28 (by decide) ?_
            refine q_cVi (As := [.int (q_i 1), .int (q_i 1)]) (rest := []) cx hB (fun _ h => h) hN hmo kmo (by decide) rfl (r_goesBoth2 l g hN hB.2.1 mo hmo kmo 1 (by decide) (by decide) 1 (by decide) (by decide)) q_cX12_358 q_dX12_goesBoth (by decide) rfl rfl hl.1 rfl (Nat.le_of_ble_eq_true rfl) dX12_bestWatch_32 (fun y550 H locs f549 ry550 h551 hF hB => ?_)
            obtain ⟨qy550, z552⟩ := h551
            have z553 : q_is (q_z f549 sr 3) xt := Eq.trans (hF.z hsr (by rw [ksr]; rfl)) hf0
            have z554 : q_is (q_z f549 sr 4) xm := Eq.trans (hF.z hsr (by rw [ksr]; rfl)) hf1
            have z555 : q_ir (q_r f549 mo 13) sr := Eq.trans (hF.r hmo (by rw [kmo]; rfl)) hr0
            have z556 : q_ir (q_r f549 mo 24) hp := Eq.trans (hF.r hmo (by rw [kmo]; rfl)) hr1
            have z557 : q_ir (q_r f549 mo 25) dy := Eq.trans (hF.r hmo (by rw [kmo]; rfl)) hr2
            have z558 : q_ir (q_r f549 mo 16) aw := Eq.trans (hF.r hmo (by rw [kmo]; rfl)) hr3
            have g559 : q_gr f549 sr := q_gr_fr hgr (fun i9 _ => hF.z hsr (by rw [ksr]; rfl))
            subst qy550
            refine q_ifne (tgt := 40) cx ⟨by decide, by decide⟩ dX12_bestWatch_35 (by decide) (fun c560 => ?_) (fun c560 => ?_)
            · refine q_ald_n cx dX12_bestWatch_40 rfl (lv_at hl 0 rfl) ?_
              refine q_cVv (As := []) (rest := []) cx hB (fun _ h => h) hN hmo kmo (by decide) rfl (r_leaves l g hN hB.2.1 mo hmo kmo sr hsr ksr aw haw kaw xt (by omega) (by omega) xm (by omega) (by omega) z553 z554 z555 z558 g559) q_cX12_405 q_dX12_leaves (by decide) rfl rfl hl.1 rfl (Nat.le_of_ble_eq_true rfl) dX12_bestWatch_41 (fun H locs f561 h563 hF hB => ?_)
              obtain ⟨lz564, uz564⟩ := h563
              have z565 : q_is (q_z f561 sr 3) xt := Eq.trans (hF.z hsr (by rw [ksr]; rfl)) z553
              have z566 : q_is (q_z f561 sr 4) xm := Eq.trans (hF.z hsr (by rw [ksr]; rfl)) z554
              have z567 : q_is (q_z f561 mo 0) 0 := Eq.trans (hF.z hmo (by rw [kmo]; rfl)) z552
              have z568 : q_ir (q_r f561 mo 13) sr := Eq.trans (hF.r hmo (by rw [kmo]; rfl)) z555
              have z569 : q_ir (q_r f561 mo 24) hp := Eq.trans (hF.r hmo (by rw [kmo]; rfl)) z556
              have z570 : q_ir (q_r f561 mo 25) dy := Eq.trans (hF.r hmo (by rw [kmo]; rfl)) z557
              have z571 : q_ir (q_r f561 mo 16) aw := Eq.trans (hF.r hmo (by rw [kmo]; rfl)) z558
              have g572 : q_gr f561 sr := q_gr_fr g559 (fun i9 _ => hF.z hsr (by rw [ksr]; rfl))
              obtain ⟨x573, ex573⟩ : ∃ zz, q_is (q_z f561 aw 2) zz := ⟨_, q_isr _⟩
              obtain ⟨lx573, ux573⟩ := q_isb ex573 ⟨lz564, uz564⟩
              refine q_ald_n cx dX12_bestWatch_44 rfl (lv_at hl 0 rfl) ?_
              refine q_ild_n cx dX12_bestWatch_45 rfl (lv_at hl 1 rfl) ?_
              refine q_ild_n cx dX12_bestWatch_46 rfl (lv_at hl 2 rfl) ?_
              refine q_iconst cx dX12_bestWatch_47 ?_
              refine q_cVi (As := [.int (q_i a0), .int (q_i b0), .int (q_i 0)]) (rest := []) cx hB (fun _ h => h) hN hmo kmo (by decide) rfl (r_byMessage l g hN hB.2.1 mo hmo kmo a0 (by omega) (by omega) b0 (by omega) (by omega) 0 (by decide) (by decide) sr hsr ksr hp hhp khp dy hdy kdy aw haw kaw xt (by omega) (by omega) xm (by omega) (by omega) x573 (by omega) (by omega) z565 z566 ex573 z568 z569 z570 z571 g572) q_cX12_421 q_dX12_byMessage (by decide) rfl rfl hl.1 rfl (Nat.le_of_ble_eq_true rfl) dX12_bestWatch_48 (fun y575 H locs f574 ry575 h576 hF hB => ?_)
              obtain ⟨ly575, uy575, lz577, uz577, lz578, uz578, g579⟩ := h576
              have z580 : q_is (q_z f574 mo 0) 0 := Eq.trans (hF.z hmo (by rw [kmo]; rfl)) z567
              have z581 : q_is (q_z f574 aw 2) x573 := Eq.trans (hF.z haw (by rw [kaw]; rfl)) ex573
              have z582 : q_ir (q_r f574 mo 13) sr := Eq.trans (hF.r hmo (by rw [kmo]; rfl)) z568
              have z583 : q_ir (q_r f574 mo 24) hp := Eq.trans (hF.r hmo (by rw [kmo]; rfl)) z569
              have z584 : q_ir (q_r f574 mo 25) dy := Eq.trans (hF.r hmo (by rw [kmo]; rfl)) z570
              have z585 : q_ir (q_r f574 mo 16) aw := Eq.trans (hF.r hmo (by rw [kmo]; rfl)) z571
              obtain ⟨x586, ex586⟩ : ∃ zz, q_is (q_z f574 sr 3) zz := ⟨_, q_isr _⟩
              obtain ⟨lx586, ux586⟩ := q_isb ex586 ⟨lz577, uz577⟩
              obtain ⟨x587, ex587⟩ : ∃ zz, q_is (q_z f574 sr 4) zz := ⟨_, q_isr _⟩
              obtain ⟨lx587, ux587⟩ := q_isb ex587 ⟨lz578, uz578⟩
              refine lv_istore_n (lv' := [(3, .int (q_i y575)), (0, .ref mo), (1, .int (q_i a0)), (2, .int (q_i b0))]) cx.1 cx.2.1 dX12_bestWatch_51 rfl hl (by decide) rfl (fun ls hl => ?_)
              refine q_iconst cx dX12_bestWatch_52 ?_
              refine lv_istore (lv' := [(4, .int (q_i (-1))), (3, .int (q_i y575)), (0, .ref mo), (1, .int (q_i a0)), (2, .int (q_i b0))]) cx.1 cx.2.1 dX12_bestWatch_53 hl (by decide) rfl (fun ls hl => ?_)
              refine q_iconst cx dX12_bestWatch_55 ?_
              refine lv_istore (lv' := [(5, .int (q_i 0)), (4, .int (q_i (-1))), (3, .int (q_i y575)), (0, .ref mo), (1, .int (q_i a0)), (2, .int (q_i b0))]) cx.1 cx.2.1 dX12_bestWatch_56 hl (by decide) rfl (fun ls hl => ?_)
              exact J58 ((Int.toNat (2147483647 - 0)) + 1) f574 y575 (by omega) (by omega) (-1) (by decide) (by decide) 0 (by decide) (by decide) x586 (by omega) (by omega) x587 (by omega) (by omega) (by omega) (by omega) (by omega) (by omega) ex586 ex587 z582 z583 z584 z585 g579 (Nat.lt_succ_self _) H locs hB ls (lv_sub hl [3, 4, 5, 2, 1, 0] rfl)
            · exact absurd c560 (by omega)
      · obtain ⟨rfl, qy529⟩ := h532
        subst qy529
        refine q_ifeq (tgt := 21) cx ⟨by decide, by decide⟩ dX12_bestWatch_14 (by decide) (fun c588 => ?_) (fun c588 => ?_)
        · refine q_iconst cx dX12_bestWatch_21 ?_
          refine q_ild_n cx dX12_bestWatch_22 rfl (lv_at hl 1 rfl) ?_
          refine q_ild_n cx dX12_bestWatch_23 rfl (lv_at hl 2 rfl) ?_
          refine q_iceq (tgt := 31) cx ⟨by omega, by omega⟩ ⟨by omega, by omega⟩ dX12_bestWatch_24 (by decide) (fun c589 => ?_) (fun c589 => ?_)
          · refine q_iconst cx dX12_bestWatch_31 ?_
            refine q_cVi (As := [.int (q_i 0), .int (q_i 0)]) (rest := []) cx hB (fun _ h => h) hN hmo kmo (by decide) rfl (r_goesBoth0 l g hN hB.2.1 mo hmo kmo 0 (by decide) (by decide) 0 (by decide) (by decide)) q_cX12_358 q_dX12_goesBoth (by decide) rfl rfl hl.1 rfl (Nat.le_of_ble_eq_true rfl) dX12_bestWatch_32 (fun y591 H locs f590 ry591 h592 hF hB => ?_)
            obtain ⟨qy591, z593⟩ := h592
            have z594 : q_is (q_z f590 sr 3) xt := Eq.trans (hF.z hsr (by rw [ksr]; rfl)) hf0
            have z595 : q_is (q_z f590 sr 4) xm := Eq.trans (hF.z hsr (by rw [ksr]; rfl)) hf1
            have z596 : q_ir (q_r f590 mo 13) sr := Eq.trans (hF.r hmo (by rw [kmo]; rfl)) hr0
            have z597 : q_ir (q_r f590 mo 24) hp := Eq.trans (hF.r hmo (by rw [kmo]; rfl)) hr1
            have z598 : q_ir (q_r f590 mo 25) dy := Eq.trans (hF.r hmo (by rw [kmo]; rfl)) hr2
            have z599 : q_ir (q_r f590 mo 16) aw := Eq.trans (hF.r hmo (by rw [kmo]; rfl)) hr3
            have g600 : q_gr f590 sr := q_gr_fr hgr (fun i9 _ => hF.z hsr (by rw [ksr]; rfl))
            subst qy591
            refine q_ifne (tgt := 40) cx ⟨by decide, by decide⟩ dX12_bestWatch_35 (by decide) (fun c601 => ?_) (fun c601 => ?_)
            · exact absurd c601 (by omega)
            · refine q_iconst cx dX12_bestWatch_38 ?_
              refine q_iret cx hr hlk hB dX12_bestWatch_39 ⟨by decide, by decide⟩ ?_
              exact ⟨(by decide), (by decide), (q_isl z594 (by omega)), (q_isu z594 (by omega)), (q_isl z595 (by omega)), (q_isu z595 (by omega)), g600⟩
          · refine q_iconst cx dX12_bestWatch_27 ?_
            refine lv_goto (tgt := 32) cx.1 cx.2.1 dX12_bestWatch_28 (by decide) ?_
            refine q_cVi (As := [.int (q_i 0), .int (q_i 1)]) (rest := []) cx hB (fun _ h => h) hN hmo kmo (by decide) rfl (r_goesBoth0 l g hN hB.2.1 mo hmo kmo 0 (by decide) (by decide) 1 (by decide) (by decide)) q_cX12_358 q_dX12_goesBoth (by decide) rfl rfl hl.1 rfl (Nat.le_of_ble_eq_true rfl) dX12_bestWatch_32 (fun y603 H locs f602 ry603 h604 hF hB => ?_)
            obtain ⟨qy603, z605⟩ := h604
            have z606 : q_is (q_z f602 sr 3) xt := Eq.trans (hF.z hsr (by rw [ksr]; rfl)) hf0
            have z607 : q_is (q_z f602 sr 4) xm := Eq.trans (hF.z hsr (by rw [ksr]; rfl)) hf1
            have z608 : q_ir (q_r f602 mo 13) sr := Eq.trans (hF.r hmo (by rw [kmo]; rfl)) hr0
            have z609 : q_ir (q_r f602 mo 24) hp := Eq.trans (hF.r hmo (by rw [kmo]; rfl)) hr1
            have z610 : q_ir (q_r f602 mo 25) dy := Eq.trans (hF.r hmo (by rw [kmo]; rfl)) hr2
            have z611 : q_ir (q_r f602 mo 16) aw := Eq.trans (hF.r hmo (by rw [kmo]; rfl)) hr3
            have g612 : q_gr f602 sr := q_gr_fr hgr (fun i9 _ => hF.z hsr (by rw [ksr]; rfl))
            subst qy603
            refine q_ifne (tgt := 40) cx ⟨by decide, by decide⟩ dX12_bestWatch_35 (by decide) (fun c613 => ?_) (fun c613 => ?_)
            · exact absurd c613 (by omega)
            · refine q_iconst cx dX12_bestWatch_38 ?_
              refine q_iret cx hr hlk hB dX12_bestWatch_39 ⟨by decide, by decide⟩ ?_
              exact ⟨(by decide), (by decide), (q_isl z606 (by omega)), (q_isu z606 (by omega)), (q_isl z607 (by omega)), (q_isu z607 (by omega)), g612⟩
        · exact absurd c588 (by omega)
  · obtain ⟨rfl, qy521⟩ := h524
    subst qy521
    refine q_ifeq (tgt := 21) cx ⟨by decide, by decide⟩ dX12_bestWatch_6 (by decide) (fun c614 => ?_) (fun c614 => ?_)
    · refine q_iconst cx dX12_bestWatch_21 ?_
      refine q_ild_n cx dX12_bestWatch_22 rfl (lv_at hl 1 rfl) ?_
      refine q_ild_n cx dX12_bestWatch_23 rfl (lv_at hl 2 rfl) ?_
      refine q_iceq (tgt := 31) cx ⟨by omega, by omega⟩ ⟨by omega, by omega⟩ dX12_bestWatch_24 (by decide) (fun c615 => ?_) (fun c615 => ?_)
      · refine q_iconst cx dX12_bestWatch_31 ?_
        refine q_cVi (As := [.int (q_i 0), .int (q_i 0)]) (rest := []) cx hB (fun _ h => h) hN hmo kmo (by decide) rfl (r_goesBoth0 l g hN hB.2.1 mo hmo kmo 0 (by decide) (by decide) 0 (by decide) (by decide)) q_cX12_358 q_dX12_goesBoth (by decide) rfl rfl hl.1 rfl (Nat.le_of_ble_eq_true rfl) dX12_bestWatch_32 (fun y617 H locs f616 ry617 h618 hF hB => ?_)
        obtain ⟨qy617, z619⟩ := h618
        have z620 : q_is (q_z f616 sr 3) xt := Eq.trans (hF.z hsr (by rw [ksr]; rfl)) hf0
        have z621 : q_is (q_z f616 sr 4) xm := Eq.trans (hF.z hsr (by rw [ksr]; rfl)) hf1
        have z622 : q_ir (q_r f616 mo 13) sr := Eq.trans (hF.r hmo (by rw [kmo]; rfl)) hr0
        have z623 : q_ir (q_r f616 mo 24) hp := Eq.trans (hF.r hmo (by rw [kmo]; rfl)) hr1
        have z624 : q_ir (q_r f616 mo 25) dy := Eq.trans (hF.r hmo (by rw [kmo]; rfl)) hr2
        have z625 : q_ir (q_r f616 mo 16) aw := Eq.trans (hF.r hmo (by rw [kmo]; rfl)) hr3
        have g626 : q_gr f616 sr := q_gr_fr hgr (fun i9 _ => hF.z hsr (by rw [ksr]; rfl))
        subst qy617
        refine q_ifne (tgt := 40) cx ⟨by decide, by decide⟩ dX12_bestWatch_35 (by decide) (fun c627 => ?_) (fun c627 => ?_)
        · exact absurd c627 (by omega)
        · refine q_iconst cx dX12_bestWatch_38 ?_
          refine q_iret cx hr hlk hB dX12_bestWatch_39 ⟨by decide, by decide⟩ ?_
          exact ⟨(by decide), (by decide), (q_isl z620 (by omega)), (q_isu z620 (by omega)), (q_isl z621 (by omega)), (q_isu z621 (by omega)), g626⟩
      · refine q_iconst cx dX12_bestWatch_27 ?_
        refine lv_goto (tgt := 32) cx.1 cx.2.1 dX12_bestWatch_28 (by decide) ?_
        refine q_cVi (As := [.int (q_i 0), .int (q_i 1)]) (rest := []) cx hB (fun _ h => h) hN hmo kmo (by decide) rfl (r_goesBoth0 l g hN hB.2.1 mo hmo kmo 0 (by decide) (by decide) 1 (by decide) (by decide)) q_cX12_358 q_dX12_goesBoth (by decide) rfl rfl hl.1 rfl (Nat.le_of_ble_eq_true rfl) dX12_bestWatch_32 (fun y629 H locs f628 ry629 h630 hF hB => ?_)
        obtain ⟨qy629, z631⟩ := h630
        have z632 : q_is (q_z f628 sr 3) xt := Eq.trans (hF.z hsr (by rw [ksr]; rfl)) hf0
        have z633 : q_is (q_z f628 sr 4) xm := Eq.trans (hF.z hsr (by rw [ksr]; rfl)) hf1
        have z634 : q_ir (q_r f628 mo 13) sr := Eq.trans (hF.r hmo (by rw [kmo]; rfl)) hr0
        have z635 : q_ir (q_r f628 mo 24) hp := Eq.trans (hF.r hmo (by rw [kmo]; rfl)) hr1
        have z636 : q_ir (q_r f628 mo 25) dy := Eq.trans (hF.r hmo (by rw [kmo]; rfl)) hr2
        have z637 : q_ir (q_r f628 mo 16) aw := Eq.trans (hF.r hmo (by rw [kmo]; rfl)) hr3
        have g638 : q_gr f628 sr := q_gr_fr hgr (fun i9 _ => hF.z hsr (by rw [ksr]; rfl))
        subst qy629
        refine q_ifne (tgt := 40) cx ⟨by decide, by decide⟩ dX12_bestWatch_35 (by decide) (fun c639 => ?_) (fun c639 => ?_)
        · exact absurd c639 (by omega)
        · refine q_iconst cx dX12_bestWatch_38 ?_
          refine q_iret cx hr hlk hB dX12_bestWatch_39 ⟨by decide, by decide⟩ ?_
          exact ⟨(by decide), (by decide), (q_isl z632 (by omega)), (q_isu z632 (by omega)), (q_isl z633 (by omega)), (q_isu z633 (by omega)), g638⟩
    · exact absurd c614 (by omega)
set_option maxHeartbeats 4000000 in
set_option maxRecDepth 100000 in
theorem r_maySend (l : Launch) (g : q_G) {K : Nat → Nat} {L : List Nat} (hN : L.Nodup) {f : Nat → va_E} (hT : q_Ty g K L f) (mo : Nat) (hmo : mo ∈ L) (kmo : K mo = 12) (a0 : Int) (la0 : 0 ≤ a0) (ua0 : a0 ≤ 9) (b0 : Int) (lb0 : 0 ≤ b0) (ub0 : b0 ≤ 9) (sr : Nat) (hsr : sr ∈ L) (ksr : K sr = 151) (xm : Int) (lxm : 0 ≤ xm) (uxm : xm ≤ 60) (hf0 : q_is (q_z f sr 4) xm) (hr0 : q_ir (q_r f mo 13) sr) (hgr : q_gr f sr) : q_Ct l g K L yX12_maySend cX12_maySend 3 (some .boolean) 4 86 [.ref mo, .int (q_i a0), .int (q_i b0)] f [] (q_Pi (fun (z : Int) (f1 : Nat → va_E) => (f = f1 ∧ z = 1 ∧ (xm ≤ 59)) ∨ (f = f1 ∧ z = 0))) := by
  refine q_ofb (by decide +kernel) hN hT (Nat.le_of_ble_eq_true rfl) ?_
  intro p e s m below meth c ls cx hr hlk hB hl
  have hl : lv_has ls 3 [(0, .ref mo), (1, .int (q_i a0)), (2, .int (q_i b0))] := hl
  obtain ⟨H, hH⟩ : ∃ H : Heap, H = s.heap := ⟨_, rfl⟩
  obtain ⟨locs, hlocs⟩ : ∃ z : List Loc, z = [] := ⟨_, rfl⟩
  rw [← hH, ← hlocs] at hB
  rw [← hH, ← hlocs]
  refine q_ald_n cx dX12_maySend_0 rfl (lv_at hl 0 rfl) ?_
  refine q_ild_n cx dX12_maySend_1 rfl (lv_at hl 1 rfl) ?_
  refine q_ild_n cx dX12_maySend_2 rfl (lv_at hl 2 rfl) ?_
  refine q_cVi (As := [.int (q_i a0), .int (q_i b0)]) (rest := []) cx hB (fun _ h => h) hN hmo kmo (by decide) rfl (r_areIn l g hN hB.2.1 mo hmo kmo a0 (by omega) (by omega) b0 (by omega) (by omega) sr hsr ksr hr0 hgr) q_cX12_414 q_dX12_areIn (by decide) rfl rfl hl.1 rfl (Nat.le_of_ble_eq_true rfl) dX12_maySend_3 (fun y10 H locs f9 ry10 h11 hF hB => ?_)
  obtain ⟨rfl, ly10, uy10⟩ := h11
  refine q_ifeq (tgt := 24) cx ⟨by omega, by omega⟩ dX12_maySend_6 (by decide) (fun c12 => ?_) (fun c12 => ?_)
  · refine q_iconst cx dX12_maySend_24 ?_
    refine q_zret cx hr hlk hB dX12_maySend_25 (by decide) (by decide) ?_
    exact (Or.inr ⟨rfl, rfl⟩)
  · refine q_ald_n cx dX12_maySend_9 rfl (lv_at hl 0 rfl) ?_
    refine q_gX12_20 cx hB hmo kmo hr0 dX12_maySend_10 (fun hb13 kb13 => ?_)
    refine q_iconst cx dX12_maySend_13 ?_
    refine q_iald (lo := (-2147483648)) (hi := 2147483647) (n := 658) cx hB hsr ksr (by decide) rfl rfl (by decide) (by decide) (by decide) rfl hf0 dX12_maySend_14 (fun lb15 ub15 => ?_)
    refine q_bipush cx dX12_maySend_15 rfl ?_
    refine q_icge (tgt := 24) cx ⟨by omega, by omega⟩ ⟨by decide, by decide⟩ dX12_maySend_17 (by decide) (fun c16 => ?_) (fun c16 => ?_)
    · refine q_iconst cx dX12_maySend_24 ?_
      refine q_zret cx hr hlk hB dX12_maySend_25 (by decide) (by decide) ?_
      exact (Or.inr ⟨rfl, rfl⟩)
    · refine q_iconst cx dX12_maySend_20 ?_
      refine lv_goto (tgt := 25) cx.1 cx.2.1 dX12_maySend_21 (by decide) ?_
      refine q_zret cx hr hlk hB dX12_maySend_25 (by decide) (by decide) ?_
      exact (Or.inl ⟨rfl, rfl, (by omega)⟩)
set_option maxHeartbeats 4000000 in
set_option maxRecDepth 100000 in
theorem r_swapsCelln0 (l : Launch) (g : q_G) {K : Nat → Nat} {L : List Nat} (hN : L.Nodup) {f : Nat → va_E} (hT : q_Ty g K L f) (mo : Nat) (hmo : mo ∈ L) (kmo : K mo = 12) (a0 : Int) (la0 : 10 ≤ a0) (ua0 : a0 ≤ 83) (b0 : Int) (lb0 : 0 ≤ b0) (ub0 : b0 ≤ 59) (sr : Nat) (hsr : sr ∈ L) (ksr : K sr = 151) (xn : Int) (lxn : 0 ≤ xn) (uxn : xn ≤ 9) (hr0 : q_ir (q_r f mo 13) sr) (hp0 : a0 = 8 * xn + 10) (hgr : q_gr f sr) : q_Ct l g K L yX12_swapsCell cX12_swapsCell 4 (some .int) 0 0 [.ref mo, .int (q_i a0), .int (q_i b0)] f [(151, 10, 82)] (q_Pi (fun (z : Int) (f1 : Nat → va_E) => 0 ≤ z ∧ z ≤ 59 ∧ q_gr f1 sr)) := by
  refine q_ofb (by decide +kernel) hN hT (Nat.le_of_ble_eq_true rfl) ?_
  intro p e s m below meth c ls cx hr hlk hB hl
  have hl : lv_has ls 4 [(0, .ref mo), (1, .int (q_i a0)), (2, .int (q_i b0))] := hl
  obtain ⟨H, hH⟩ : ∃ H : Heap, H = s.heap := ⟨_, rfl⟩
  obtain ⟨locs, hlocs⟩ : ∃ z : List Loc, z = [] := ⟨_, rfl⟩
  rw [← hH, ← hlocs] at hB
  rw [← hH, ← hlocs]
  refine q_ald_n cx dX12_swapsCell_0 rfl (lv_at hl 0 rfl) ?_
  refine q_gX12_20 cx hB hmo kmo hr0 dX12_swapsCell_1 (fun hb9 kb9 => ?_)
  refine q_ild_n cx dX12_swapsCell_4 rfl (lv_at hl 1 rfl) ?_
  obtain ⟨x10, ex10⟩ : ∃ zz, q_is (q_z f sr (Int.toNat a0)) zz := ⟨_, q_isr _⟩
  refine q_sald cx hB hsr ksr (by omega) (by omega) ex10 dX12_swapsCell_5 (fun rx10 => ?_)
  obtain ⟨lx10, ux10⟩ : 0 ≤ x10 ∧ x10 ≤ 59 := q_isb ex10 (q_gr_at hgr (by omega) (q_egn (n := xn) (w := 0) (by omega) (by omega) (by omega) (by decide)))
  refine lv_istore_n (lv' := [(3, .int (q_i x10)), (0, .ref mo), (1, .int (q_i a0)), (2, .int (q_i b0))]) cx.1 cx.2.1 dX12_swapsCell_6 rfl hl (by decide) rfl (fun ls hl => ?_)
  refine q_ald_n cx dX12_swapsCell_7 rfl (lv_at hl 1 rfl) ?_
  refine q_gX12_20 cx hB hmo kmo hr0 dX12_swapsCell_8 (fun hb12 kb12 => ?_)
  refine q_ild_n cx dX12_swapsCell_11 rfl (lv_at hl 2 rfl) ?_
  refine q_ild_n cx dX12_swapsCell_12 rfl (lv_at hl 3 rfl) ?_
  refine q_sast cx hB hsr ksr (by omega) (by omega) ⟨by omega, by omega⟩ (q_inWi (lo := 10) (hi := 82) (by decide) (by omega) (by omega)) dX12_swapsCell_13 (fun H locs f13 ef13 z14 hB => ?_)
  have z15 : q_ir (q_r f13 mo 13) sr := by rw [ef13, q_setr (Or.inl (fun q => by rw [q, ksr] at kmo; exact absurd kmo (by decide)))]; exact hr0
  have g16 : q_gr f13 sr := q_gr_put hgr ef13 z14 (q_egn (n := xn) (w := 0) (by omega) (by omega) (by omega) (by decide)) (by omega) (by omega)
  refine q_ild_n cx dX12_swapsCell_14 rfl (lv_at hl 0 rfl) ?_
  refine q_iret cx hr hlk hB dX12_swapsCell_15 ⟨by omega, by omega⟩ ?_
  exact ⟨(by omega), (by omega), g16⟩
set_option maxHeartbeats 4000000 in
set_option maxRecDepth 100000 in
theorem r_swapsCelln1 (l : Launch) (g : q_G) {K : Nat → Nat} {L : List Nat} (hN : L.Nodup) {f : Nat → va_E} (hT : q_Ty g K L f) (mo : Nat) (hmo : mo ∈ L) (kmo : K mo = 12) (a0 : Int) (la0 : 10 ≤ a0) (ua0 : a0 ≤ 83) (b0 : Int) (lb0 : 0 ≤ b0) (ub0 : b0 ≤ 59) (sr : Nat) (hsr : sr ∈ L) (ksr : K sr = 151) (xn : Int) (lxn : 0 ≤ xn) (uxn : xn ≤ 9) (hr0 : q_ir (q_r f mo 13) sr) (hp0 : a0 = 8 * xn + 11) (hgr : q_gr f sr) : q_Ct l g K L yX12_swapsCell cX12_swapsCell 4 (some .int) 0 0 [.ref mo, .int (q_i a0), .int (q_i b0)] f [(151, 11, 83)] (q_Pi (fun (z : Int) (f1 : Nat → va_E) => 0 ≤ z ∧ z ≤ 59 ∧ q_gr f1 sr)) := by
  refine q_ofb (by decide +kernel) hN hT (Nat.le_of_ble_eq_true rfl) ?_
  intro p e s m below meth c ls cx hr hlk hB hl
  have hl : lv_has ls 4 [(0, .ref mo), (1, .int (q_i a0)), (2, .int (q_i b0))] := hl
  obtain ⟨H, hH⟩ : ∃ H : Heap, H = s.heap := ⟨_, rfl⟩
  obtain ⟨locs, hlocs⟩ : ∃ z : List Loc, z = [] := ⟨_, rfl⟩
  rw [← hH, ← hlocs] at hB
  rw [← hH, ← hlocs]
  refine q_ald_n cx dX12_swapsCell_0 rfl (lv_at hl 0 rfl) ?_
  refine q_gX12_20 cx hB hmo kmo hr0 dX12_swapsCell_1 (fun hb9 kb9 => ?_)
  refine q_ild_n cx dX12_swapsCell_4 rfl (lv_at hl 1 rfl) ?_
  obtain ⟨x10, ex10⟩ : ∃ zz, q_is (q_z f sr (Int.toNat a0)) zz := ⟨_, q_isr _⟩
  refine q_sald cx hB hsr ksr (by omega) (by omega) ex10 dX12_swapsCell_5 (fun rx10 => ?_)
  obtain ⟨lx10, ux10⟩ : 0 ≤ x10 ∧ x10 ≤ 59 := q_isb ex10 (q_gr_at hgr (by omega) (q_egn (n := xn) (w := 1) (by omega) (by omega) (by omega) (by decide)))
  refine lv_istore_n (lv' := [(3, .int (q_i x10)), (0, .ref mo), (1, .int (q_i a0)), (2, .int (q_i b0))]) cx.1 cx.2.1 dX12_swapsCell_6 rfl hl (by decide) rfl (fun ls hl => ?_)
  refine q_ald_n cx dX12_swapsCell_7 rfl (lv_at hl 1 rfl) ?_
  refine q_gX12_20 cx hB hmo kmo hr0 dX12_swapsCell_8 (fun hb12 kb12 => ?_)
  refine q_ild_n cx dX12_swapsCell_11 rfl (lv_at hl 2 rfl) ?_
  refine q_ild_n cx dX12_swapsCell_12 rfl (lv_at hl 3 rfl) ?_
  refine q_sast cx hB hsr ksr (by omega) (by omega) ⟨by omega, by omega⟩ (q_inWi (lo := 11) (hi := 83) (by decide) (by omega) (by omega)) dX12_swapsCell_13 (fun H locs f13 ef13 z14 hB => ?_)
  have z15 : q_ir (q_r f13 mo 13) sr := by rw [ef13, q_setr (Or.inl (fun q => by rw [q, ksr] at kmo; exact absurd kmo (by decide)))]; exact hr0
  have g16 : q_gr f13 sr := q_gr_put hgr ef13 z14 (q_egn (n := xn) (w := 1) (by omega) (by omega) (by omega) (by decide)) (by omega) (by omega)
  refine q_ild_n cx dX12_swapsCell_14 rfl (lv_at hl 0 rfl) ?_
  refine q_iret cx hr hlk hB dX12_swapsCell_15 ⟨by omega, by omega⟩ ?_
  exact ⟨(by omega), (by omega), g16⟩
set_option maxHeartbeats 4000000 in
set_option maxRecDepth 100000 in
theorem r_swapsCell8 (l : Launch) (g : q_G) {K : Nat → Nat} {L : List Nat} (hN : L.Nodup) {f : Nat → va_E} (hT : q_Ty g K L f) (mo : Nat) (hmo : mo ∈ L) (kmo : K mo = 12) (a0 : Int) (la0 : 8 ≤ a0) (ua0 : a0 ≤ 8) (b0 : Int) (lb0 : 0 ≤ b0) (ub0 : b0 ≤ 9) (sr : Nat) (hsr : sr ∈ L) (ksr : K sr = 151) (hr0 : q_ir (q_r f mo 13) sr) (hgr : q_gr f sr) : q_Ct l g K L yX12_swapsCell cX12_swapsCell 4 (some .int) 0 0 [.ref mo, .int (q_i a0), .int (q_i b0)] f [(151, 8, 8)] (q_Pi (fun (z : Int) (f1 : Nat → va_E) => 0 ≤ z ∧ z ≤ 9 ∧ q_gr f1 sr)) := by
  obtain rfl : a0 = 8 := by omega
  refine q_ofb (by decide +kernel) hN hT (Nat.le_of_ble_eq_true rfl) ?_
  intro p e s m below meth c ls cx hr hlk hB hl
  have hl : lv_has ls 4 [(0, .ref mo), (1, .int (q_i 8)), (2, .int (q_i b0))] := hl
  obtain ⟨H, hH⟩ : ∃ H : Heap, H = s.heap := ⟨_, rfl⟩
  obtain ⟨locs, hlocs⟩ : ∃ z : List Loc, z = [] := ⟨_, rfl⟩
  rw [← hH, ← hlocs] at hB
  rw [← hH, ← hlocs]
  refine q_ald_n cx dX12_swapsCell_0 rfl (lv_at hl 0 rfl) ?_
  refine q_gX12_20 cx hB hmo kmo hr0 dX12_swapsCell_1 (fun hb9 kb9 => ?_)
  refine q_ild_n cx dX12_swapsCell_4 rfl (lv_at hl 1 rfl) ?_
  obtain ⟨x10, ex10⟩ : ∃ zz, q_is (q_z f sr (Int.toNat 8)) zz := ⟨_, q_isr _⟩
  refine q_sald cx hB hsr ksr (by decide) (by decide) ex10 dX12_swapsCell_5 (fun rx10 => ?_)
  obtain ⟨lx10, ux10⟩ : 0 ≤ x10 ∧ x10 ≤ 9 := q_isb ex10 (q_gr_at hgr (by decide) rfl)
  refine lv_istore_n (lv' := [(3, .int (q_i x10)), (0, .ref mo), (1, .int (q_i 8)), (2, .int (q_i b0))]) cx.1 cx.2.1 dX12_swapsCell_6 rfl hl (by decide) rfl (fun ls hl => ?_)
  refine q_ald_n cx dX12_swapsCell_7 rfl (lv_at hl 1 rfl) ?_
  refine q_gX12_20 cx hB hmo kmo hr0 dX12_swapsCell_8 (fun hb12 kb12 => ?_)
  refine q_ild_n cx dX12_swapsCell_11 rfl (lv_at hl 2 rfl) ?_
  refine q_ild_n cx dX12_swapsCell_12 rfl (lv_at hl 3 rfl) ?_
  refine q_sast cx hB hsr ksr (by decide) (by decide) ⟨by omega, by omega⟩ rfl dX12_swapsCell_13 (fun H locs f13 ef13 z14 hB => ?_)
  have z15 : q_ir (q_r f13 mo 13) sr := by rw [ef13, q_setr (Or.inr (by decide))]; exact hr0
  have g16 : q_gr f13 sr := q_gr_put hgr ef13 z14 rfl (by omega) (by omega)
  refine q_ild_n cx dX12_swapsCell_14 rfl (lv_at hl 0 rfl) ?_
  refine q_iret cx hr hlk hB dX12_swapsCell_15 ⟨by omega, by omega⟩ ?_
  exact ⟨(by omega), (by omega), g16⟩
set_option maxHeartbeats 4000000 in
set_option maxRecDepth 100000 in
theorem r_charges (l : Launch) (g : q_G) {K : Nat → Nat} {L : List Nat} (hN : L.Nodup) {f : Nat → va_E} (hT : q_Ty g K L f) (mo : Nat) (hmo : mo ∈ L) (kmo : K mo = 12) (a0 : Int) (la0 : 0 ≤ a0) (ua0 : a0 ≤ 9) (b0 : Int) (lb0 : 1 ≤ b0) (ub0 : b0 ≤ 999) (sr : Nat) (hsr : sr ∈ L) (ksr : K sr = 151) (hr0 : q_ir (q_r f mo 13) sr) (hgr : q_gr f sr) : q_Ct l g K L yX12_charges cX12_charges 3 (some .int) 2 44 [.ref mo, .int (q_i a0), .int (q_i b0)] f [(151, 12, 84)] (q_Pi (fun (z : Int) (f1 : Nat → va_E) => (-198) ≤ z ∧ z ≤ 9999 ∧ q_gr f1 sr)) := by
  refine q_ofb (by decide +kernel) hN hT (Nat.le_of_ble_eq_true rfl) ?_
  intro p e s m below meth c ls cx hr hlk hB hl
  have hl : lv_has ls 3 [(0, .ref mo), (1, .int (q_i a0)), (2, .int (q_i b0))] := hl
  obtain ⟨H, hH⟩ : ∃ H : Heap, H = s.heap := ⟨_, rfl⟩
  obtain ⟨locs, hlocs⟩ : ∃ z : List Loc, z = [] := ⟨_, rfl⟩
  rw [← hH, ← hlocs] at hB
  rw [← hH, ← hlocs]
  refine q_ald_n cx dX12_charges_0 rfl (lv_at hl 0 rfl) ?_
  refine q_ild_n cx dX12_charges_1 rfl (lv_at hl 1 rfl) ?_
  refine q_iconst cx dX12_charges_2 ?_
  refine q_sipush cx dX12_charges_3 rfl ?_
  refine q_ald_n cx dX12_charges_6 rfl (lv_at hl 0 rfl) ?_
  refine q_ild_n cx dX12_charges_7 rfl (lv_at hl 1 rfl) ?_
  refine q_iconst cx dX12_charges_8 ?_
  refine q_cVi (As := [.int (q_i a0), .int (q_i 2)]) (rest := [.int (q_i 9999), .int (q_i 2), .int (q_i a0), .ref mo]) cx hB (fun _ h => h) hN hmo kmo (by decide) rfl (r_ofNode2 l g hN hB.2.1 mo hmo kmo a0 (by omega) (by omega) 2 (by decide) (by decide) sr hsr ksr hr0 hgr) q_cX12_256 q_dX12_ofNode (by decide) rfl rfl hl.1 rfl (Nat.le_of_ble_eq_true rfl) dX12_charges_9 (fun y35 H locs f34 ry35 h36 hF hB => ?_)
  obtain ⟨rfl, ly35, uy35, t37⟩ := h36
  refine q_ild_n cx dX12_charges_12 rfl (lv_at hl 2 rfl) ?_
  refine q_iadd cx dX12_charges_13 ?_
  refine q_cSi (As := [.int (q_i 9999), .int (q_i (y35 + b0))]) (rest := [.int (q_i 2), .int (q_i a0), .ref mo]) cx hB (fun _ h => h) hN (r_lesser l g hN hB.2.1 9999 (by decide) (by decide) (y35 + b0) (by omega) (by omega)) q_cX12_292 q_dX12_lesser (by decide) rfl rfl hl.1 rfl (Nat.le_of_ble_eq_true rfl) dX12_charges_14 (fun y39 H locs f38 ry39 h40 hF hB => ?_)
  rcases h40 with h41 | h42
  · obtain ⟨rfl, qy39, t43⟩ := h41
    subst qy39
    refine q_cVv (As := [.int (q_i a0), .int (q_i 2), .int (q_i 9999)]) (rest := []) cx hB (fun _ h => h) hN hmo kmo (by decide) rfl (r_setsNode2 l g hN hB.2.1 mo hmo kmo a0 (by omega) (by omega) 2 (by decide) (by decide) 9999 (by decide) (by decide) sr hsr ksr hr0 hgr) q_cX12_202 q_dX12_setsNode (by decide) rfl rfl hl.1 rfl (Nat.le_of_ble_eq_true rfl) dX12_charges_17 (fun H locs f44 h46 hF hB => ?_)
    obtain ⟨t47, t48, g49⟩ := h46
    have z50 : q_ir (q_r f44 mo 13) sr := Eq.trans (hF.r hmo (by rw [kmo]; rfl)) hr0
    refine q_ald_n cx dX12_charges_20 rfl (lv_at hl 0 rfl) ?_
    refine q_ild_n cx dX12_charges_21 rfl (lv_at hl 1 rfl) ?_
    refine q_iconst cx dX12_charges_22 ?_
    refine q_cVi (As := [.int (q_i a0), .int (q_i 2)]) (rest := []) cx hB (fun _ h => h) hN hmo kmo (by decide) rfl (r_ofNode2 l g hN hB.2.1 mo hmo kmo a0 (by omega) (by omega) 2 (by decide) (by decide) sr hsr ksr z50 g49) q_cX12_256 q_dX12_ofNode (by decide) rfl rfl hl.1 rfl (Nat.le_of_ble_eq_true rfl) dX12_charges_23 (fun y52 H locs f51 ry52 h53 hF hB => ?_)
    obtain ⟨rfl, ly52, uy52, t54⟩ := h53
    refine q_iret cx hr hlk hB dX12_charges_26 ⟨by omega, by omega⟩ ?_
    exact ⟨(by omega), (by omega), g49⟩
  · obtain ⟨rfl, qy39, t55⟩ := h42
    refine q_cVv (As := [.int (q_i a0), .int (q_i 2), .int (q_i y39)]) (rest := []) cx hB (fun _ h => h) hN hmo kmo (by decide) rfl (r_setsNode2 l g hN hB.2.1 mo hmo kmo a0 (by omega) (by omega) 2 (by decide) (by decide) y39 (by omega) (by omega) sr hsr ksr hr0 hgr) q_cX12_202 q_dX12_setsNode (by decide) rfl rfl hl.1 rfl (Nat.le_of_ble_eq_true rfl) dX12_charges_17 (fun H locs f56 h58 hF hB => ?_)
    obtain ⟨t59, t60, g61⟩ := h58
    have z62 : q_ir (q_r f56 mo 13) sr := Eq.trans (hF.r hmo (by rw [kmo]; rfl)) hr0
    refine q_ald_n cx dX12_charges_20 rfl (lv_at hl 0 rfl) ?_
    refine q_ild_n cx dX12_charges_21 rfl (lv_at hl 1 rfl) ?_
    refine q_iconst cx dX12_charges_22 ?_
    refine q_cVi (As := [.int (q_i a0), .int (q_i 2)]) (rest := []) cx hB (fun _ h => h) hN hmo kmo (by decide) rfl (r_ofNode2 l g hN hB.2.1 mo hmo kmo a0 (by omega) (by omega) 2 (by decide) (by decide) sr hsr ksr z62 g61) q_cX12_256 q_dX12_ofNode (by decide) rfl rfl hl.1 rfl (Nat.le_of_ble_eq_true rfl) dX12_charges_23 (fun y64 H locs f63 ry64 h65 hF hB => ?_)
    obtain ⟨rfl, ly64, uy64, t66⟩ := h65
    refine q_iret cx hr hlk hB dX12_charges_26 ⟨by omega, by omega⟩ ?_
    exact ⟨(by omega), (by omega), g61⟩
set_option maxHeartbeats 4000000 in
set_option maxRecDepth 100000 in
theorem r_tick (l : Launch) (g : q_G) {K : Nat → Nat} {L : List Nat} (hN : L.Nodup) {f : Nat → va_E} (hT : q_Ty g K L f) (mo : Nat) (hmo : mo ∈ L) (kmo : K mo = 12) (a0 : Int) (la0 : (-2147483648) ≤ a0) (ua0 : a0 ≤ 2147483647) (sr : Nat) (hsr : sr ∈ L) (ksr : K sr = 151) (hp : Nat) (hhp : hp ∈ L) (khp : K hp = 159) (dy : Nat) (hdy : dy ∈ L) (kdy : K dy = 160) (as : Nat) (has : as ∈ L) (kas : K as = 153) (pa : Nat) (hpa : pa ∈ L) (kpa : K pa = 155) (xt : Int) (lxt : 0 ≤ xt) (uxt : xt ≤ 9999) (xm : Int) (lxm : 0 ≤ xm) (uxm : xm ≤ 60) (hf0 : q_is (q_z f sr 3) xt) (hf1 : q_is (q_z f sr 4) xm) (hr0 : q_ir (q_r f mo 13) sr) (hr1 : q_ir (q_r f mo 24) hp) (hr2 : q_ir (q_r f mo 25) dy) (hr3 : q_ir (q_r f mo 15) as) (hr4 : q_ir (q_r f mo 17) pa) (hgr : q_gr f sr) (hpk : q_pk f mo pa) : q_Ct l g K L yX12_tick cX12_tick 3 (some .int) 10 228 [.ref mo, .int (q_i a0)] f [(12, 0, 0), (12, 21, 21), (12, 26, 28), (151, 3, 3), (151, 9, 9), (151, 11, 87), (151, 92, 169), (151, 172, 657), (153, 0, 657), (155, 0, 3947), (159, 0, 9), (160, 0, 9)] (q_Pi (fun (z : Int) (f1 : Nat → va_E) => 0 ≤ q_z f1 sr 3 ∧ q_z f1 sr 3 ≤ 9999 ∧ 0 ≤ q_z f1 sr 4 ∧ q_z f1 sr 4 ≤ 60 ∧ q_gr f1 sr ∧ (q_pk f1 mo pa))) := by
  refine q_ofb (by decide +kernel) hN hT (Nat.le_of_ble_eq_true rfl) ?_
  intro p e s m below meth c ls cx hr hlk hB hl
  have hl : lv_has ls 3 [(0, .ref mo), (1, .int (q_i a0))] := hl
  obtain ⟨H, hH⟩ : ∃ H : Heap, H = s.heap := ⟨_, rfl⟩
  obtain ⟨locs, hlocs⟩ : ∃ z : List Loc, z = [] := ⟨_, rfl⟩
  rw [← hH, ← hlocs] at hB
  rw [← hH, ← hlocs]
  refine q_ild_n cx dX12_tick_0 rfl (lv_at hl 1 rfl) ?_
  refine q_cSi (As := [.int (q_i a0)]) (rest := []) cx hB (fun _ h => h) hN (r_areTicks l g hN hB.2.1 a0 (by omega) (by omega)) q_cX12_446 q_dX12_areTicks (by decide) rfl rfl hl.1 rfl (Nat.le_of_ble_eq_true rfl) dX12_tick_1 (fun y102 H locs f101 ry102 h103 hF hB => ?_)
  rcases h103 with h104 | h105
  · obtain ⟨rfl, qy102, t106, t107⟩ := h104
    subst qy102
    refine lv_istore_n (lv' := [(2, .int (q_i 1)), (0, .ref mo), (1, .int (q_i a0))]) cx.1 cx.2.1 dX12_tick_4 rfl hl (by decide) rfl (fun ls hl => ?_)
    refine q_ald_n cx dX12_tick_5 rfl (lv_at hl 1 rfl) ?_
    refine q_ild_n cx dX12_tick_6 rfl (lv_at hl 0 rfl) ?_
    refine q_ild_n cx dX12_tick_7 rfl (lv_at hl 0 rfl) ?_
    refine q_ifeq (tgt := 29) cx ⟨by decide, by decide⟩ dX12_tick_8 (by decide) (fun c108 => ?_) (fun c108 => ?_)
    · exact absurd c108 (by omega)
    · refine q_ald_n cx dX12_tick_11 rfl (lv_at hl 1 rfl) ?_
      refine q_gX12_20 cx hB hmo kmo hr0 dX12_tick_12 (fun hb109 kb109 => ?_)
      refine q_iconst cx dX12_tick_15 ?_
      refine q_iald (lo := (-2147483648)) (hi := 2147483647) (n := 658) cx hB hsr ksr (by decide) rfl rfl (by decide) (by decide) (by decide) rfl hf0 dX12_tick_16 (fun lb111 ub111 => ?_)
      refine q_ild_n cx dX12_tick_17 rfl (lv_at hl 2 rfl) ?_
      refine q_iadd cx dX12_tick_18 ?_
      refine q_sipush cx dX12_tick_19 rfl ?_
      refine q_icgt (tgt := 29) cx ⟨by omega, by omega⟩ ⟨by decide, by decide⟩ dX12_tick_22 (by decide) (fun c112 => ?_) (fun c112 => ?_)
      · refine q_iconst cx dX12_tick_29 ?_
        refine q_cVi (As := [.int (q_i 1), .int (q_i 0)]) (rest := []) cx hB (fun _ h => h) hN hmo kmo (by decide) rfl (r_goesBoth1 l g hN hB.2.1 mo hmo kmo 1 (by decide) (by decide) 0 (by decide) (by decide)) q_cX12_358 q_dX12_goesBoth (by decide) rfl rfl hl.1 rfl (Nat.le_of_ble_eq_true rfl) dX12_tick_30 (fun y114 H locs f113 ry114 h115 hF hB => ?_)
        obtain ⟨qy114, z116⟩ := h115
        have z117 : q_is (q_z f113 sr 3) xt := Eq.trans (hF.z hsr (by rw [ksr]; rfl)) hf0
        have z118 : q_is (q_z f113 sr 4) xm := Eq.trans (hF.z hsr (by rw [ksr]; rfl)) hf1
        have z119 : q_ir (q_r f113 mo 13) sr := Eq.trans (hF.r hmo (by rw [kmo]; rfl)) hr0
        have z120 : q_ir (q_r f113 mo 24) hp := Eq.trans (hF.r hmo (by rw [kmo]; rfl)) hr1
        have z121 : q_ir (q_r f113 mo 25) dy := Eq.trans (hF.r hmo (by rw [kmo]; rfl)) hr2
        have z122 : q_ir (q_r f113 mo 15) as := Eq.trans (hF.r hmo (by rw [kmo]; rfl)) hr3
        have z123 : q_ir (q_r f113 mo 17) pa := Eq.trans (hF.r hmo (by rw [kmo]; rfl)) hr4
        have g124 : q_gr f113 sr := q_gr_fr hgr (fun i9 _ => hF.z hsr (by rw [ksr]; rfl))
        have g125 : q_pk f113 mo pa := q_pk_tr hpk (hF.z hmo (by rw [kmo]; rfl)) (fun i9 => hF.z hpa (by rw [kpa]; rfl))
        subst qy114
        refine q_ifne (tgt := 38) cx ⟨by decide, by decide⟩ dX12_tick_33 (by decide) (fun c126 => ?_) (fun c126 => ?_)
        · exact absurd c126 (by omega)
        · refine q_iconst cx dX12_tick_36 ?_
          refine q_iret cx hr hlk hB dX12_tick_37 ⟨by decide, by decide⟩ ?_
          exact ⟨(q_isl z117 (by omega)), (q_isu z117 (by omega)), (q_isl z118 (by omega)), (q_isu z118 (by omega)), g124, g125⟩
      · refine q_iconst cx dX12_tick_25 ?_
        refine lv_goto (tgt := 30) cx.1 cx.2.1 dX12_tick_26 (by decide) ?_
        refine q_cVi (As := [.int (q_i 1), .int (q_i 1)]) (rest := []) cx hB (fun _ h => h) hN hmo kmo (by decide) rfl (r_goesBoth2 l g hN hB.2.1 mo hmo kmo 1 (by decide) (by decide) 1 (by decide) (by decide)) q_cX12_358 q_dX12_goesBoth (by decide) rfl rfl hl.1 rfl (Nat.le_of_ble_eq_true rfl) dX12_tick_30 (fun y128 H locs f127 ry128 h129 hF hB => ?_)
        obtain ⟨qy128, z130⟩ := h129
        have z131 : q_is (q_z f127 sr 3) xt := Eq.trans (hF.z hsr (by rw [ksr]; rfl)) hf0
        have z132 : q_is (q_z f127 sr 4) xm := Eq.trans (hF.z hsr (by rw [ksr]; rfl)) hf1
        have z133 : q_ir (q_r f127 mo 13) sr := Eq.trans (hF.r hmo (by rw [kmo]; rfl)) hr0
        have z134 : q_ir (q_r f127 mo 24) hp := Eq.trans (hF.r hmo (by rw [kmo]; rfl)) hr1
        have z135 : q_ir (q_r f127 mo 25) dy := Eq.trans (hF.r hmo (by rw [kmo]; rfl)) hr2
        have z136 : q_ir (q_r f127 mo 15) as := Eq.trans (hF.r hmo (by rw [kmo]; rfl)) hr3
        have z137 : q_ir (q_r f127 mo 17) pa := Eq.trans (hF.r hmo (by rw [kmo]; rfl)) hr4
        have g138 : q_gr f127 sr := q_gr_fr hgr (fun i9 _ => hF.z hsr (by rw [ksr]; rfl))
        have g139 : q_pk f127 mo pa := q_pk_tr hpk (hF.z hmo (by rw [kmo]; rfl)) (fun i9 => hF.z hpa (by rw [kpa]; rfl))
        subst qy128
        refine q_ifne (tgt := 38) cx ⟨by decide, by decide⟩ dX12_tick_33 (by decide) (fun c140 => ?_) (fun c140 => ?_)
        · refine q_ald_n cx dX12_tick_38 rfl (lv_at hl 1 rfl) ?_
          refine q_cVv (As := []) (rest := []) cx hB (fun _ h => h) hN hmo kmo (by decide) rfl (r_laysAside l g hN hB.2.1 mo hmo kmo sr hsr ksr as has kas xt (by omega) (by omega) xm (by omega) (by omega) z131 z132 z133 z136 g138) q_cX12_247 q_dX12_laysAside (by decide) rfl rfl hl.1 rfl (Nat.le_of_ble_eq_true rfl) dX12_tick_39 (fun H locs f141 h143 hF hB => ?_)
          obtain ⟨lz144, uz144⟩ := h143
          have z145 : q_is (q_z f141 sr 3) xt := Eq.trans (hF.z hsr (by rw [ksr]; rfl)) z131
          have z146 : q_is (q_z f141 sr 4) xm := Eq.trans (hF.z hsr (by rw [ksr]; rfl)) z132
          have z147 : q_is (q_z f141 mo 0) 0 := Eq.trans (hF.z hmo (by rw [kmo]; rfl)) z130
          have z148 : q_ir (q_r f141 mo 13) sr := Eq.trans (hF.r hmo (by rw [kmo]; rfl)) z133
          have z149 : q_ir (q_r f141 mo 24) hp := Eq.trans (hF.r hmo (by rw [kmo]; rfl)) z134
          have z150 : q_ir (q_r f141 mo 25) dy := Eq.trans (hF.r hmo (by rw [kmo]; rfl)) z135
          have z151 : q_ir (q_r f141 mo 15) as := Eq.trans (hF.r hmo (by rw [kmo]; rfl)) z136
          have z152 : q_ir (q_r f141 mo 17) pa := Eq.trans (hF.r hmo (by rw [kmo]; rfl)) z137
          have g153 : q_gr f141 sr := q_gr_fr g138 (fun i9 _ => hF.z hsr (by rw [ksr]; rfl))
          have g154 : q_pk f141 mo pa := q_pk_tr g139 (hF.z hmo (by rw [kmo]; rfl)) (fun i9 => hF.z hpa (by rw [kpa]; rfl))
          obtain ⟨x155, ex155⟩ : ∃ zz, q_is (q_z f141 as 2) zz := ⟨_, q_isr _⟩
          obtain ⟨lx155, ux155⟩ := q_isb ex155 ⟨lz144, uz144⟩
          refine q_ald_n cx dX12_tick_42 rfl (lv_at hl 1 rfl) ?_
          refine q_ald_n cx dX12_tick_43 rfl (lv_at hl 1 rfl) ?_
          refine q_ild_n cx dX12_tick_44 rfl (lv_at hl 2 rfl) ?_
          refine q_cVi (As := [.int (q_i a0)]) (rest := [.ref mo]) cx hB (fun _ h => h) hN hmo kmo (by decide) rfl (r_ticksOn l g hN hB.2.1 mo hmo kmo a0 (by omega) (by omega) sr hsr ksr hp hhp khp dy hdy kdy xt (by omega) (by omega) xm (by omega) (by omega) z145 z146 z148 z149 z150 g153) q_cX12_427 q_dX12_ticksOn (by decide) rfl rfl hl.1 rfl (Nat.le_of_ble_eq_true rfl) dX12_tick_45 (fun y157 H locs f156 ry157 h158 hF hB => ?_)
          obtain ⟨z159, z160, g161⟩ := h158
          have z162 : q_is (q_z f156 sr 4) xm := Eq.trans (hF.z hsr (by rw [ksr]; rfl)) z146
          have z163 : q_is (q_z f156 mo 0) 0 := Eq.trans (hF.z hmo (by rw [kmo]; rfl)) z147
          have z164 : q_is (q_z f156 as 2) x155 := Eq.trans (hF.z has (by rw [kas]; rfl)) ex155
          have z165 : q_ir (q_r f156 mo 13) sr := Eq.trans (hF.r hmo (by rw [kmo]; rfl)) z148
          have z166 : q_ir (q_r f156 mo 24) hp := Eq.trans (hF.r hmo (by rw [kmo]; rfl)) z149
          have z167 : q_ir (q_r f156 mo 25) dy := Eq.trans (hF.r hmo (by rw [kmo]; rfl)) z150
          have z168 : q_ir (q_r f156 mo 15) as := Eq.trans (hF.r hmo (by rw [kmo]; rfl)) z151
          have z169 : q_ir (q_r f156 mo 17) pa := Eq.trans (hF.r hmo (by rw [kmo]; rfl)) z152
          have g170 : q_pk f156 mo pa := q_pk_tr g154 (hF.z hmo (by rw [kmo]; rfl)) (fun i9 => hF.z hpa (by rw [kpa]; rfl))
          refine q_cVi (As := [.int (q_i y157)]) (rest := []) cx hB (fun _ h => h) hN hmo kmo (by decide) rfl (r_kept l g hN hB.2.1 mo hmo kmo y157 (by omega) (by omega) as has kas pa hpa kpa x155 (by omega) (by omega) z164 z168 z169 g170) q_cX12_449 q_dX12_kept (by decide) rfl rfl hl.1 rfl (Nat.le_of_ble_eq_true rfl) dX12_tick_48 (fun y172 H locs f171 ry172 h173 hF hB => ?_)
          obtain ⟨qy172, g174⟩ := h173
          have z175 : q_is (q_z f171 sr 4) xm := Eq.trans (hF.z hsr (by rw [ksr]; rfl)) z160
          have z176 : q_is (q_z f171 mo 0) 0 := Eq.trans (hF.z hmo (by rw [kmo]; rfl)) z163
          have z177 : q_is (q_z f171 as 2) x155 := Eq.trans (hF.z has (by rw [kas]; rfl)) z164
          have z178 : q_is (q_z f171 sr 3) (xt + a0) := Eq.trans (hF.z hsr (by rw [ksr]; rfl)) z159
          have z179 : q_ir (q_r f171 mo 13) sr := Eq.trans (hF.r hmo (by rw [kmo]; rfl)) z165
          have z180 : q_ir (q_r f171 mo 24) hp := Eq.trans (hF.r hmo (by rw [kmo]; rfl)) z166
          have z181 : q_ir (q_r f171 mo 25) dy := Eq.trans (hF.r hmo (by rw [kmo]; rfl)) z167
          have z182 : q_ir (q_r f171 mo 15) as := Eq.trans (hF.r hmo (by rw [kmo]; rfl)) z168
          have z183 : q_ir (q_r f171 mo 17) pa := Eq.trans (hF.r hmo (by rw [kmo]; rfl)) z169
          have g184 : q_gr f171 sr := q_gr_fr g161 (fun i9 _ => hF.z hsr (by rw [ksr]; rfl))
          refine q_iret cx hr hlk hB dX12_tick_51 ⟨by omega, by omega⟩ ?_
          exact ⟨(q_isl z178 (by omega)), (q_isu z178 (by omega)), (q_isl z175 (by omega)), (q_isu z175 (by omega)), g184, g174⟩
        · exact absurd c140 (by omega)
  · obtain ⟨rfl, qy102, t185⟩ := h105
    subst qy102
    refine lv_istore_n (lv' := [(2, .int (q_i 0)), (0, .ref mo), (1, .int (q_i a0))]) cx.1 cx.2.1 dX12_tick_4 rfl hl (by decide) rfl (fun ls hl => ?_)
    refine q_ald_n cx dX12_tick_5 rfl (lv_at hl 1 rfl) ?_
    refine q_ild_n cx dX12_tick_6 rfl (lv_at hl 0 rfl) ?_
    refine q_ild_n cx dX12_tick_7 rfl (lv_at hl 0 rfl) ?_
    refine q_ifeq (tgt := 29) cx ⟨by decide, by decide⟩ dX12_tick_8 (by decide) (fun c186 => ?_) (fun c186 => ?_)
    · refine q_iconst cx dX12_tick_29 ?_
      refine q_cVi (As := [.int (q_i 0), .int (q_i 0)]) (rest := []) cx hB (fun _ h => h) hN hmo kmo (by decide) rfl (r_goesBoth0 l g hN hB.2.1 mo hmo kmo 0 (by decide) (by decide) 0 (by decide) (by decide)) q_cX12_358 q_dX12_goesBoth (by decide) rfl rfl hl.1 rfl (Nat.le_of_ble_eq_true rfl) dX12_tick_30 (fun y188 H locs f187 ry188 h189 hF hB => ?_)
      obtain ⟨qy188, z190⟩ := h189
      have z191 : q_is (q_z f187 sr 3) xt := Eq.trans (hF.z hsr (by rw [ksr]; rfl)) hf0
      have z192 : q_is (q_z f187 sr 4) xm := Eq.trans (hF.z hsr (by rw [ksr]; rfl)) hf1
      have z193 : q_ir (q_r f187 mo 13) sr := Eq.trans (hF.r hmo (by rw [kmo]; rfl)) hr0
      have z194 : q_ir (q_r f187 mo 24) hp := Eq.trans (hF.r hmo (by rw [kmo]; rfl)) hr1
      have z195 : q_ir (q_r f187 mo 25) dy := Eq.trans (hF.r hmo (by rw [kmo]; rfl)) hr2
      have z196 : q_ir (q_r f187 mo 15) as := Eq.trans (hF.r hmo (by rw [kmo]; rfl)) hr3
      have z197 : q_ir (q_r f187 mo 17) pa := Eq.trans (hF.r hmo (by rw [kmo]; rfl)) hr4
      have g198 : q_gr f187 sr := q_gr_fr hgr (fun i9 _ => hF.z hsr (by rw [ksr]; rfl))
      have g199 : q_pk f187 mo pa := q_pk_tr hpk (hF.z hmo (by rw [kmo]; rfl)) (fun i9 => hF.z hpa (by rw [kpa]; rfl))
      subst qy188
      refine q_ifne (tgt := 38) cx ⟨by decide, by decide⟩ dX12_tick_33 (by decide) (fun c200 => ?_) (fun c200 => ?_)
      · exact absurd c200 (by omega)
      · refine q_iconst cx dX12_tick_36 ?_
        refine q_iret cx hr hlk hB dX12_tick_37 ⟨by decide, by decide⟩ ?_
        exact ⟨(q_isl z191 (by omega)), (q_isu z191 (by omega)), (q_isl z192 (by omega)), (q_isu z192 (by omega)), g198, g199⟩
    · exact absurd c186 (by omega)
