set_option maxHeartbeats 4000000 in
set_option maxRecDepth 100000 in
theorem r_bestWatch (l : Launch) (g : q_G) {K : Nat → Nat} {L : List Nat} (hN : L.Nodup) {f : Nat → va_E} (hT : q_Ty g K L f) (mo : Nat) (hmo : mo ∈ L) (kmo : K mo = 12) (a0 : Int) (la0 : (-2147483648) ≤ a0) (ua0 : a0 ≤ 2147483647) (b0 : Int) (lb0 : (-2147483648) ≤ b0) (ub0 : b0 ≤ 2147483647) (sr : Nat) (hsr : sr ∈ L) (ksr : K sr = 151) (hp : Nat) (hhp : hp ∈ L) (khp : K hp = 159) (dy : Nat) (hdy : dy ∈ L) (kdy : K dy = 160) (aw : Nat) (haw : aw ∈ L) (kaw : K aw = 154) (xt : Int) (lxt : 0 ≤ xt) (uxt : xt ≤ 9999) (xm : Int) (lxm : 0 ≤ xm) (uxm : xm ≤ 60) (xc : Int) (lxc : 0 ≤ xc) (uxc : xc ≤ 10) (hf0 : q_is (q_z f sr 3) xt) (hf1 : q_is (q_z f sr 4) xm) (hf2 : q_is (q_z f sr 0) xc) (hr0 : q_ir (q_r f mo 13) sr) (hr1 : q_ir (q_r f mo 24) hp) (hr2 : q_ir (q_r f mo 25) dy) (hr3 : q_ir (q_r f mo 16) aw) (hgr : q_gr f sr) : q_Ct l g K L yX12_bestWatch cX12_bestWatch 7 (some .int) 12 275 [.ref mo, .int (q_i a0), .int (q_i b0)] f [(12, 0, 0), (12, 26, 28), (151, 0, 657), (154, 0, 657), (159, 0, 9), (160, 0, 9)] (q_Pi (fun (z : Int) (f1 : Nat → va_E) => (-1) ≤ z ∧ z ≤ 59 ∧ 0 ≤ q_z f1 sr 3 ∧ q_z f1 sr 3 ≤ 9999 ∧ 0 ≤ q_z f1 sr 4 ∧ q_z f1 sr 4 ≤ 60 ∧ q_is (q_z f1 sr 0) xc ∧ q_gr f1 sr)) := by
  refine q_ofb (by decide +kernel) hN hT (Nat.le_of_ble_eq_true rfl) ?_
  intro p e s m below meth c ls cx hr hlk hB hl
  have hl : lv_has ls 7 [(0, .ref mo), (1, .int (q_i a0)), (2, .int (q_i b0))] := hl
  have J58 : ∀ (n : Nat) (f58 : Nat → va_E) (v58_3 : Int) (lv58_3 : (-1) ≤ v58_3) (uv58_3 : v58_3 ≤ 200) (v58_4 : Int) (lv58_4 : (-1) ≤ v58_4) (uv58_4 : v58_4 ≤ 59) (v58_5 : Int) (lv58_5 : 0 ≤ v58_5) (uv58_5 : v58_5 ≤ 60) (w58_sr_3 : Int) (lw58_sr_3 : 0 ≤ w58_sr_3) (uw58_sr_3 : w58_sr_3 ≤ 9999) (w58_sr_4 : Int) (lw58_sr_4 : 0 ≤ w58_sr_4) (uw58_sr_4 : w58_sr_4 ≤ 60) (bla0 : 0 ≤ a0) (bua0 : a0 ≤ 9) (blb0 : 0 ≤ b0) (bub0 : b0 ≤ 9) (hj_sr_3 : q_is (q_z f58 sr 3) w58_sr_3) (hj_sr_4 : q_is (q_z f58 sr 4) w58_sr_4) (hj_sr_0 : q_is (q_z f58 sr 0) xc) (hq_mo_13 : q_ir (q_r f58 mo 13) sr) (hq_mo_24 : q_ir (q_r f58 mo 24) hp) (hq_mo_25 : q_ir (q_r f58 mo 25) dy) (hq_mo_16 : q_ir (q_r f58 mo 16) aw) (hgr58 : q_gr f58 sr) (hmu : (Int.toNat (2147483647 - v58_5)) < n) (H : Heap) (locs : List Loc) (hB : q_B g K L (fun q => q ∈ L) [(12, 0, 0), (12, 26, 28), (151, 0, 657), (154, 0, 657), (159, 0, 9), (160, 0, 9)] f f58 s H locs) (ls : Array Slot) (hl : lv_has ls 7 [(0, .ref mo), (1, .int (q_i a0)), (2, .int (q_i b0)), (3, .int (q_i v58_3)), (4, .int (q_i v58_4)), (5, .int (q_i v58_5))]), W p l e { frames := 12, cells := 0, slots := 0, locals := 275 } s m ([.ref mo, .int (q_i a0), .int (q_i b0)] : List Value).toArray below meth c H locs 0 0 (MQ below (q_Q g K L [(12, 0, 0), (12, 26, 28), (151, 0, 657), (154, 0, 657), (159, 0, 9), (160, 0, 9)] f (q_Pi (fun (z : Int) (f1 : Nat → va_E) => (-1) ≤ z ∧ z ≤ 59 ∧ 0 ≤ q_z f1 sr 3 ∧ q_z f1 sr 3 ≤ 9999 ∧ 0 ≤ q_z f1 sr 4 ∧ q_z f1 sr 4 ≤ 60 ∧ q_is (q_z f1 sr 0) xc ∧ q_gr f1 sr))) ([.ref mo, .int (q_i a0), .int (q_i b0)] : List Value).toArray s 0 0 (fun q => q ∈ L)) (F0 m 58 ls []) := by
    intro n
    induction n with
    | zero =>
      intro f58 v58_3 lv58_3 uv58_3 v58_4 lv58_4 uv58_4 v58_5 lv58_5 uv58_5 w58_sr_3 lw58_sr_3 uw58_sr_3 w58_sr_4 lw58_sr_4 uw58_sr_4 bla0 bua0 blb0 bub0 hj_sr_3 hj_sr_4 hj_sr_0 hq_mo_13 hq_mo_24 hq_mo_25 hq_mo_16 hgr58 hmu
      exact absurd hmu (Nat.not_lt_zero _)
    | succ n ih58 =>
      intro f58 v58_3 lv58_3 uv58_3 v58_4 lv58_4 uv58_4 v58_5 lv58_5 uv58_5 w58_sr_3 lw58_sr_3 uw58_sr_3 w58_sr_4 lw58_sr_4 uw58_sr_4 bla0 bua0 blb0 bub0 hj_sr_3 hj_sr_4 hj_sr_0 hq_mo_13 hq_mo_24 hq_mo_25 hq_mo_16 hgr58 hmu H locs hB ls hl
      refine lv_iload cx.1 cx.2.1 dX12_bestWatch_58 (lv_at hl 5 rfl) ?_
      refine q_ald_n cx dX12_bestWatch_60 rfl (lv_at hl 0 rfl) ?_
      refine q_gX12_20 cx hB hmo kmo hq_mo_13 dX12_bestWatch_61 (fun hb531 kb531 => ?_)
      refine q_iconst cx dX12_bestWatch_64 ?_
      obtain ⟨x532, ex532⟩ : ∃ zz, q_is (q_z f58 sr (Int.toNat 2)) zz := ⟨_, q_isr _⟩
      refine q_sald cx hB hsr ksr (by decide) (by decide) ex532 dX12_bestWatch_65 (fun rx532 => ?_)
      obtain ⟨lx532, ux532⟩ : 4 ≤ x532 ∧ x532 ≤ 60 := q_isb ex532 (q_gr_at hgr58 (by decide) rfl)
      refine q_icge (tgt := 112) cx ⟨by omega, by omega⟩ ⟨by omega, by omega⟩ dX12_bestWatch_66 (by decide) (fun c534 => ?_) (fun c534 => ?_)
      · refine lv_iload cx.1 cx.2.1 dX12_bestWatch_112 (lv_at hl 4 rfl) ?_
        refine q_iret cx hr hlk hB dX12_bestWatch_114 ⟨by omega, by omega⟩ ?_
        exact ⟨(by omega), (by omega), (q_isl hj_sr_3 (by omega)), (q_isu hj_sr_3 (by omega)), (q_isl hj_sr_4 (by omega)), (q_isu hj_sr_4 (by omega)), hj_sr_0, hgr58⟩
      · refine q_ald_n cx dX12_bestWatch_69 rfl (lv_at hl 0 rfl) ?_
        refine q_ild_n cx dX12_bestWatch_70 rfl (lv_at hl 1 rfl) ?_
        refine q_ild_n cx dX12_bestWatch_71 rfl (lv_at hl 2 rfl) ?_
        refine lv_iload cx.1 cx.2.1 dX12_bestWatch_72 (lv_at hl 5 rfl) ?_
        refine q_cVi (As := [.int (q_i a0), .int (q_i b0), .int (q_i v58_5)]) (rest := []) cx hB (fun _ h => h) hN hmo kmo (by decide) rfl (r_byWatch l g hN hB.2.1 mo hmo kmo a0 (by omega) (by omega) b0 (by omega) (by omega) v58_5 (by omega) (by omega) sr hsr ksr hp hhp khp dy hdy kdy aw haw kaw w58_sr_3 (by omega) (by omega) w58_sr_4 (by omega) (by omega) xc (by omega) (by omega) hj_sr_3 hj_sr_4 hj_sr_0 hq_mo_13 hq_mo_24 hq_mo_25 hq_mo_16 hgr58) q_cX12_440 q_dX12_byWatch (by decide) rfl rfl hl.1 rfl (Nat.le_of_ble_eq_true rfl) dX12_bestWatch_74 (fun y536 H locs f535 ry536 h537 hF hB => ?_)
        obtain ⟨ly536, uy536, lz538, uz538, lz539, uz539, z540, g541⟩ := h537
        have z542 : q_ir (q_r f535 mo 13) sr := Eq.trans (hF.r hmo (by rw [kmo]; rfl)) hq_mo_13
        have z543 : q_ir (q_r f535 mo 24) hp := Eq.trans (hF.r hmo (by rw [kmo]; rfl)) hq_mo_24
        have z544 : q_ir (q_r f535 mo 25) dy := Eq.trans (hF.r hmo (by rw [kmo]; rfl)) hq_mo_25
        have z545 : q_ir (q_r f535 mo 16) aw := Eq.trans (hF.r hmo (by rw [kmo]; rfl)) hq_mo_16
        obtain ⟨x546, ex546⟩ : ∃ zz, q_is (q_z f535 sr 3) zz := ⟨_, q_isr _⟩
        obtain ⟨lx546, ux546⟩ := q_isb ex546 ⟨lz538, uz538⟩
        obtain ⟨x547, ex547⟩ : ∃ zz, q_is (q_z f535 sr 4) zz := ⟨_, q_isr _⟩
        obtain ⟨lx547, ux547⟩ := q_isb ex547 ⟨lz539, uz539⟩
        refine lv_istore (lv' := [(6, .int (q_i y536)), (0, .ref mo), (1, .int (q_i a0)), (2, .int (q_i b0)), (3, .int (q_i v58_3)), (4, .int (q_i v58_4)), (5, .int (q_i v58_5))]) cx.1 cx.2.1 dX12_bestWatch_77 hl (by decide) rfl (fun ls hl => ?_)
        refine lv_iload cx.1 cx.2.1 dX12_bestWatch_79 (lv_at hl 0 rfl) ?_
        refine q_iconst cx dX12_bestWatch_81 ?_
        refine q_iceq (tgt := 106) cx ⟨by omega, by omega⟩ ⟨by decide, by decide⟩ dX12_bestWatch_82 (by decide) (fun c548 => ?_) (fun c548 => ?_)
        · refine q_iinc (lv' := [(5, .int (q_i (v58_5 + 1))), (6, .int (q_i y536)), (0, .ref mo), (1, .int (q_i a0)), (2, .int (q_i b0)), (3, .int (q_i v58_3)), (4, .int (q_i v58_4))]) cx dX12_bestWatch_106 hl (k := 6) rfl (by decide) rfl (fun ls hl => ?_)
          refine lv_goto (tgt := 58) cx.1 cx.2.1 dX12_bestWatch_109 (by decide) ?_
          exact ih58 f535 v58_3 (by omega) (by omega) v58_4 (by omega) (by omega) (v58_5 + 1) (by omega) (by omega) x546 (by omega) (by omega) x547 (by omega) (by omega) (by omega) (by omega) (by omega) (by omega) ex546 ex547 z540 z542 z543 z544 z545 g541 (by omega) H locs hB ls (lv_sub hl [2, 3, 4, 5, 6, 0] rfl)
        · refine q_ild_n cx dX12_bestWatch_85 rfl (lv_at hl 4 rfl) ?_
          refine q_iconst cx dX12_bestWatch_86 ?_
          refine q_iceq (tgt := 99) cx ⟨by omega, by omega⟩ ⟨by decide, by decide⟩ dX12_bestWatch_87 (by decide) (fun c549 => ?_) (fun c549 => ?_)
          · refine lv_iload cx.1 cx.2.1 dX12_bestWatch_99 (lv_at hl 0 rfl) ?_
            refine lv_istore_n (lv' := [(3, .int (q_i y536)), (6, .int (q_i y536)), (0, .ref mo), (1, .int (q_i a0)), (2, .int (q_i b0)), (4, .int (q_i v58_4)), (5, .int (q_i v58_5))]) cx.1 cx.2.1 dX12_bestWatch_101 rfl hl (by decide) rfl (fun ls hl => ?_)
            refine lv_iload cx.1 cx.2.1 dX12_bestWatch_102 (lv_at hl 6 rfl) ?_
            refine lv_istore (lv' := [(4, .int (q_i v58_5)), (3, .int (q_i y536)), (6, .int (q_i y536)), (0, .ref mo), (1, .int (q_i a0)), (2, .int (q_i b0)), (5, .int (q_i v58_5))]) cx.1 cx.2.1 dX12_bestWatch_104 hl (by decide) rfl (fun ls hl => ?_)
            refine q_iinc (lv' := [(5, .int (q_i (v58_5 + 1))), (4, .int (q_i v58_5)), (3, .int (q_i y536)), (6, .int (q_i y536)), (0, .ref mo), (1, .int (q_i a0)), (2, .int (q_i b0))]) cx dX12_bestWatch_106 hl (k := 6) rfl (by decide) rfl (fun ls hl => ?_)
            refine lv_goto (tgt := 58) cx.1 cx.2.1 dX12_bestWatch_109 (by decide) ?_
            exact ih58 f535 y536 (by omega) (by omega) v58_5 (by omega) (by omega) (v58_5 + 1) (by omega) (by omega) x546 (by omega) (by omega) x547 (by omega) (by omega) (by omega) (by omega) (by omega) (by omega) ex546 ex547 z540 z542 z543 z544 z545 g541 (by omega) H locs hB ls (lv_sub hl [4, 5, 6, 2, 1, 0] rfl)
          · refine lv_iload cx.1 cx.2.1 dX12_bestWatch_90 (lv_at hl 0 rfl) ?_
            refine q_ild_n cx dX12_bestWatch_92 rfl (lv_at hl 4 rfl) ?_
            refine q_iclt (tgt := 99) cx ⟨by omega, by omega⟩ ⟨by omega, by omega⟩ dX12_bestWatch_93 (by decide) (fun c550 => ?_) (fun c550 => ?_)
            · refine lv_iload cx.1 cx.2.1 dX12_bestWatch_99 (lv_at hl 0 rfl) ?_
              refine lv_istore_n (lv' := [(3, .int (q_i y536)), (6, .int (q_i y536)), (0, .ref mo), (1, .int (q_i a0)), (2, .int (q_i b0)), (4, .int (q_i v58_4)), (5, .int (q_i v58_5))]) cx.1 cx.2.1 dX12_bestWatch_101 rfl hl (by decide) rfl (fun ls hl => ?_)
              refine lv_iload cx.1 cx.2.1 dX12_bestWatch_102 (lv_at hl 6 rfl) ?_
              refine lv_istore (lv' := [(4, .int (q_i v58_5)), (3, .int (q_i y536)), (6, .int (q_i y536)), (0, .ref mo), (1, .int (q_i a0)), (2, .int (q_i b0)), (5, .int (q_i v58_5))]) cx.1 cx.2.1 dX12_bestWatch_104 hl (by decide) rfl (fun ls hl => ?_)
              refine q_iinc (lv' := [(5, .int (q_i (v58_5 + 1))), (4, .int (q_i v58_5)), (3, .int (q_i y536)), (6, .int (q_i y536)), (0, .ref mo), (1, .int (q_i a0)), (2, .int (q_i b0))]) cx dX12_bestWatch_106 hl (k := 6) rfl (by decide) rfl (fun ls hl => ?_)
              refine lv_goto (tgt := 58) cx.1 cx.2.1 dX12_bestWatch_109 (by decide) ?_
              exact ih58 f535 y536 (by omega) (by omega) v58_5 (by omega) (by omega) (v58_5 + 1) (by omega) (by omega) x546 (by omega) (by omega) x547 (by omega) (by omega) (by omega) (by omega) (by omega) (by omega) ex546 ex547 z540 z542 z543 z544 z545 g541 (by omega) H locs hB ls (lv_sub hl [4, 5, 6, 2, 1, 0] rfl)
            · refine lv_goto (tgt := 106) cx.1 cx.2.1 dX12_bestWatch_96 (by decide) ?_
              refine q_iinc (lv' := [(5, .int (q_i (v58_5 + 1))), (6, .int (q_i y536)), (0, .ref mo), (1, .int (q_i a0)), (2, .int (q_i b0)), (3, .int (q_i v58_3)), (4, .int (q_i v58_4))]) cx dX12_bestWatch_106 hl (k := 6) rfl (by decide) rfl (fun ls hl => ?_)
              refine lv_goto (tgt := 58) cx.1 cx.2.1 dX12_bestWatch_109 (by decide) ?_
              exact ih58 f535 v58_3 (by omega) (by omega) v58_4 (by omega) (by omega) (v58_5 + 1) (by omega) (by omega) x546 (by omega) (by omega) x547 (by omega) (by omega) (by omega) (by omega) (by omega) (by omega) ex546 ex547 z540 z542 z543 z544 z545 g541 (by omega) H locs hB ls (lv_sub hl [2, 3, 4, 5, 6, 0] rfl)
  obtain ⟨H, hH⟩ : ∃ H : Heap, H = s.heap := ⟨_, rfl⟩
  obtain ⟨locs, hlocs⟩ : ∃ z : List Loc, z = [] := ⟨_, rfl⟩
  rw [← hH, ← hlocs] at hB
  rw [← hH, ← hlocs]
  refine q_ald_n cx dX12_bestWatch_0 rfl (lv_at hl 0 rfl) ?_
  refine q_ald_n cx dX12_bestWatch_1 rfl (lv_at hl 0 rfl) ?_
  refine q_ild_n cx dX12_bestWatch_2 rfl (lv_at hl 1 rfl) ?_
  refine q_cVi (As := [.int (q_i a0)]) (rest := [.ref mo]) cx hB (fun _ h => h) hN hmo kmo (by decide) rfl (r_isNode l g hN hB.2.1 mo hmo kmo a0 (by omega) (by omega) sr hsr ksr hr0) q_cX12_355 q_dX12_isNode (by decide) rfl rfl hl.1 rfl (Nat.le_of_ble_eq_true rfl) dX12_bestWatch_3 (fun y552 H locs f551 ry552 h553 hF hB => ?_)
  rcases h553 with h554 | h555
  · obtain ⟨rfl, qy552, t556, t557⟩ := h554
    subst qy552
    refine q_ifeq (tgt := 21) cx ⟨by decide, by decide⟩ dX12_bestWatch_6 (by decide) (fun c558 => ?_) (fun c558 => ?_)
    · exact absurd c558 (by omega)
    · refine q_ald_n cx dX12_bestWatch_9 rfl (lv_at hl 0 rfl) ?_
      refine q_ild_n cx dX12_bestWatch_10 rfl (lv_at hl 2 rfl) ?_
      refine q_cVi (As := [.int (q_i b0)]) (rest := [.ref mo]) cx hB (fun _ h => h) hN hmo kmo (by decide) rfl (r_isNode l g hN hB.2.1 mo hmo kmo b0 (by omega) (by omega) sr hsr ksr hr0) q_cX12_355 q_dX12_isNode (by decide) rfl rfl hl.1 rfl (Nat.le_of_ble_eq_true rfl) dX12_bestWatch_11 (fun y560 H locs f559 ry560 h561 hF hB => ?_)
      rcases h561 with h562 | h563
      · obtain ⟨rfl, qy560, t564, t565⟩ := h562
        subst qy560
        refine q_ifeq (tgt := 21) cx ⟨by decide, by decide⟩ dX12_bestWatch_14 (by decide) (fun c566 => ?_) (fun c566 => ?_)
        · exact absurd c566 (by omega)
        · refine q_iconst cx dX12_bestWatch_17 ?_
          refine lv_goto (tgt := 22) cx.1 cx.2.1 dX12_bestWatch_18 (by decide) ?_
          refine q_ild_n cx dX12_bestWatch_22 rfl (lv_at hl 1 rfl) ?_
          refine q_ild_n cx dX12_bestWatch_23 rfl (lv_at hl 2 rfl) ?_
          refine q_iceq (tgt := 31) cx ⟨by omega, by omega⟩ ⟨by omega, by omega⟩ dX12_bestWatch_24 (by decide) (fun c567 => ?_) (fun c567 => ?_)
          · refine q_iconst cx dX12_bestWatch_31 ?_
            refine q_cVi (As := [.int (q_i 1), .int (q_i 0)]) (rest := []) cx hB (fun _ h => h) hN hmo kmo (by decide) rfl (r_goesBoth1 l g hN hB.2.1 mo hmo kmo 1 (by decide) (by decide) 0 (by decide) (by decide)) q_cX12_358 q_dX12_goesBoth (by decide) rfl rfl hl.1 rfl (Nat.le_of_ble_eq_true rfl) dX12_bestWatch_32 (fun y569 H locs f568 ry569 h570 hF hB => ?_)
            obtain ⟨qy569, z571⟩ := h570
            have z572 : q_is (q_z f568 sr 3) xt := Eq.trans (hF.z hsr (by rw [ksr]; rfl)) hf0
            have z573 : q_is (q_z f568 sr 4) xm := Eq.trans (hF.z hsr (by rw [ksr]; rfl)) hf1
            have z574 : q_is (q_z f568 sr 0) xc := Eq.trans (hF.z hsr (by rw [ksr]; rfl)) hf2
            have z575 : q_ir (q_r f568 mo 13) sr := Eq.trans (hF.r hmo (by rw [kmo]; rfl)) hr0
            have z576 : q_ir (q_r f568 mo 24) hp := Eq.trans (hF.r hmo (by rw [kmo]; rfl)) hr1
            have z577 : q_ir (q_r f568 mo 25) dy := Eq.trans (hF.r hmo (by rw [kmo]; rfl)) hr2
            have z578 : q_ir (q_r f568 mo 16) aw := Eq.trans (hF.r hmo (by rw [kmo]; rfl)) hr3
            have g579 : q_gr f568 sr := q_gr_fr hgr (fun i9 _ => hF.z hsr (by rw [ksr]; rfl))
            subst qy569
            refine q_ifne (tgt := 40) cx ⟨by decide, by decide⟩ dX12_bestWatch_35 (by decide) (fun c580 => ?_) (fun c580 => ?_)
            · exact absurd c580 (by omega)
            · refine q_iconst cx dX12_bestWatch_38 ?_
              refine q_iret cx hr hlk hB dX12_bestWatch_39 ⟨by decide, by decide⟩ ?_
              exact ⟨(by decide), (by decide), (q_isl z572 (by omega)), (q_isu z572 (by omega)), (q_isl z573 (by omega)), (q_isu z573 (by omega)), z574, g579⟩
          · refine q_iconst cx dX12_bestWatch_27 ?_
            refine lv_goto (tgt := 32) cx.1 cx.2.1 dX12_bestWatch_28 (by decide) ?_
            refine q_cVi (As := [.int (q_i 1), .int (q_i 1)]) (rest := []) cx hB (fun _ h => h) hN hmo kmo (by decide) rfl (r_goesBoth2 l g hN hB.2.1 mo hmo kmo 1 (by decide) (by decide) 1 (by decide) (by decide)) q_cX12_358 q_dX12_goesBoth (by decide) rfl rfl hl.1 rfl (Nat.le_of_ble_eq_true rfl) dX12_bestWatch_32 (fun y582 H locs f581 ry582 h583 hF hB => ?_)
            obtain ⟨qy582, z584⟩ := h583
            have z585 : q_is (q_z f581 sr 3) xt := Eq.trans (hF.z hsr (by rw [ksr]; rfl)) hf0
            have z586 : q_is (q_z f581 sr 4) xm := Eq.trans (hF.z hsr (by rw [ksr]; rfl)) hf1
            have z587 : q_is (q_z f581 sr 0) xc := Eq.trans (hF.z hsr (by rw [ksr]; rfl)) hf2
            have z588 : q_ir (q_r f581 mo 13) sr := Eq.trans (hF.r hmo (by rw [kmo]; rfl)) hr0
            have z589 : q_ir (q_r f581 mo 24) hp := Eq.trans (hF.r hmo (by rw [kmo]; rfl)) hr1
            have z590 : q_ir (q_r f581 mo 25) dy := Eq.trans (hF.r hmo (by rw [kmo]; rfl)) hr2
            have z591 : q_ir (q_r f581 mo 16) aw := Eq.trans (hF.r hmo (by rw [kmo]; rfl)) hr3
            have g592 : q_gr f581 sr := q_gr_fr hgr (fun i9 _ => hF.z hsr (by rw [ksr]; rfl))
            subst qy582
            refine q_ifne (tgt := 40) cx ⟨by decide, by decide⟩ dX12_bestWatch_35 (by decide) (fun c593 => ?_) (fun c593 => ?_)
            · refine q_ald_n cx dX12_bestWatch_40 rfl (lv_at hl 0 rfl) ?_
              refine q_cVv (As := []) (rest := []) cx hB (fun _ h => h) hN hmo kmo (by decide) rfl (r_leaves l g hN hB.2.1 mo hmo kmo sr hsr ksr aw haw kaw xt (by omega) (by omega) xm (by omega) (by omega) xc (by omega) (by omega) z585 z586 z587 z588 z591 g592) q_cX12_405 q_dX12_leaves (by decide) rfl rfl hl.1 rfl (Nat.le_of_ble_eq_true rfl) dX12_bestWatch_41 (fun H locs f594 h596 hF hB => ?_)
              obtain ⟨lz597, uz597, z598⟩ := h596
              have z599 : q_is (q_z f594 sr 3) xt := Eq.trans (hF.z hsr (by rw [ksr]; rfl)) z585
              have z600 : q_is (q_z f594 sr 4) xm := Eq.trans (hF.z hsr (by rw [ksr]; rfl)) z586
              have z601 : q_is (q_z f594 sr 0) xc := Eq.trans (hF.z hsr (by rw [ksr]; rfl)) z587
              have z602 : q_is (q_z f594 mo 0) 0 := Eq.trans (hF.z hmo (by rw [kmo]; rfl)) z584
              have z603 : q_ir (q_r f594 mo 13) sr := Eq.trans (hF.r hmo (by rw [kmo]; rfl)) z588
              have z604 : q_ir (q_r f594 mo 24) hp := Eq.trans (hF.r hmo (by rw [kmo]; rfl)) z589
              have z605 : q_ir (q_r f594 mo 25) dy := Eq.trans (hF.r hmo (by rw [kmo]; rfl)) z590
              have z606 : q_ir (q_r f594 mo 16) aw := Eq.trans (hF.r hmo (by rw [kmo]; rfl)) z591
              have g607 : q_gr f594 sr := q_gr_fr g592 (fun i9 _ => hF.z hsr (by rw [ksr]; rfl))
              obtain ⟨x608, ex608⟩ : ∃ zz, q_is (q_z f594 aw 2) zz := ⟨_, q_isr _⟩
              obtain ⟨lx608, ux608⟩ := q_isb ex608 ⟨lz597, uz597⟩
              refine q_ald_n cx dX12_bestWatch_44 rfl (lv_at hl 0 rfl) ?_
              refine q_ild_n cx dX12_bestWatch_45 rfl (lv_at hl 1 rfl) ?_
              refine q_ild_n cx dX12_bestWatch_46 rfl (lv_at hl 2 rfl) ?_
              refine q_iconst cx dX12_bestWatch_47 ?_
              refine q_cVi (As := [.int (q_i a0), .int (q_i b0), .int (q_i 0)]) (rest := []) cx hB (fun _ h => h) hN hmo kmo (by decide) rfl (r_byMessage l g hN hB.2.1 mo hmo kmo a0 (by omega) (by omega) b0 (by omega) (by omega) 0 (by decide) (by decide) sr hsr ksr hp hhp khp dy hdy kdy aw haw kaw xt (by omega) (by omega) xm (by omega) (by omega) xc (by omega) (by omega) x608 (by omega) (by omega) z599 z600 z601 ex608 z598 z603 z604 z605 z606 g607) q_cX12_421 q_dX12_byMessage (by decide) rfl rfl hl.1 rfl (Nat.le_of_ble_eq_true rfl) dX12_bestWatch_48 (fun y610 H locs f609 ry610 h611 hF hB => ?_)
              obtain ⟨ly610, uy610, lz612, uz612, lz613, uz613, z614, g615⟩ := h611
              have z616 : q_is (q_z f609 mo 0) 0 := Eq.trans (hF.z hmo (by rw [kmo]; rfl)) z602
              have z617 : q_is (q_z f609 aw 2) x608 := Eq.trans (hF.z haw (by rw [kaw]; rfl)) ex608
              have z618 : q_is (q_z f609 aw 0) xc := Eq.trans (hF.z haw (by rw [kaw]; rfl)) z598
              have z619 : q_ir (q_r f609 mo 13) sr := Eq.trans (hF.r hmo (by rw [kmo]; rfl)) z603
              have z620 : q_ir (q_r f609 mo 24) hp := Eq.trans (hF.r hmo (by rw [kmo]; rfl)) z604
              have z621 : q_ir (q_r f609 mo 25) dy := Eq.trans (hF.r hmo (by rw [kmo]; rfl)) z605
              have z622 : q_ir (q_r f609 mo 16) aw := Eq.trans (hF.r hmo (by rw [kmo]; rfl)) z606
              obtain ⟨x623, ex623⟩ : ∃ zz, q_is (q_z f609 sr 3) zz := ⟨_, q_isr _⟩
              obtain ⟨lx623, ux623⟩ := q_isb ex623 ⟨lz612, uz612⟩
              obtain ⟨x624, ex624⟩ : ∃ zz, q_is (q_z f609 sr 4) zz := ⟨_, q_isr _⟩
              obtain ⟨lx624, ux624⟩ := q_isb ex624 ⟨lz613, uz613⟩
              refine lv_istore_n (lv' := [(3, .int (q_i y610)), (0, .ref mo), (1, .int (q_i a0)), (2, .int (q_i b0))]) cx.1 cx.2.1 dX12_bestWatch_51 rfl hl (by decide) rfl (fun ls hl => ?_)
              refine q_iconst cx dX12_bestWatch_52 ?_
              refine lv_istore (lv' := [(4, .int (q_i (-1))), (3, .int (q_i y610)), (0, .ref mo), (1, .int (q_i a0)), (2, .int (q_i b0))]) cx.1 cx.2.1 dX12_bestWatch_53 hl (by decide) rfl (fun ls hl => ?_)
              refine q_iconst cx dX12_bestWatch_55 ?_
              refine lv_istore (lv' := [(5, .int (q_i 0)), (4, .int (q_i (-1))), (3, .int (q_i y610)), (0, .ref mo), (1, .int (q_i a0)), (2, .int (q_i b0))]) cx.1 cx.2.1 dX12_bestWatch_56 hl (by decide) rfl (fun ls hl => ?_)
              exact J58 ((Int.toNat (2147483647 - 0)) + 1) f609 y610 (by omega) (by omega) (-1) (by decide) (by decide) 0 (by decide) (by decide) x623 (by omega) (by omega) x624 (by omega) (by omega) (by omega) (by omega) (by omega) (by omega) ex623 ex624 z614 z619 z620 z621 z622 g615 (Nat.lt_succ_self _) H locs hB ls (lv_sub hl [3, 4, 5, 2, 1, 0] rfl)
            · exact absurd c593 (by omega)
      · obtain ⟨rfl, qy560⟩ := h563
        subst qy560
        refine q_ifeq (tgt := 21) cx ⟨by decide, by decide⟩ dX12_bestWatch_14 (by decide) (fun c625 => ?_) (fun c625 => ?_)
        · refine q_iconst cx dX12_bestWatch_21 ?_
          refine q_ild_n cx dX12_bestWatch_22 rfl (lv_at hl 1 rfl) ?_
          refine q_ild_n cx dX12_bestWatch_23 rfl (lv_at hl 2 rfl) ?_
          refine q_iceq (tgt := 31) cx ⟨by omega, by omega⟩ ⟨by omega, by omega⟩ dX12_bestWatch_24 (by decide) (fun c626 => ?_) (fun c626 => ?_)
          · refine q_iconst cx dX12_bestWatch_31 ?_
            refine q_cVi (As := [.int (q_i 0), .int (q_i 0)]) (rest := []) cx hB (fun _ h => h) hN hmo kmo (by decide) rfl (r_goesBoth0 l g hN hB.2.1 mo hmo kmo 0 (by decide) (by decide) 0 (by decide) (by decide)) q_cX12_358 q_dX12_goesBoth (by decide) rfl rfl hl.1 rfl (Nat.le_of_ble_eq_true rfl) dX12_bestWatch_32 (fun y628 H locs f627 ry628 h629 hF hB => ?_)
            obtain ⟨qy628, z630⟩ := h629
            have z631 : q_is (q_z f627 sr 3) xt := Eq.trans (hF.z hsr (by rw [ksr]; rfl)) hf0
            have z632 : q_is (q_z f627 sr 4) xm := Eq.trans (hF.z hsr (by rw [ksr]; rfl)) hf1
            have z633 : q_is (q_z f627 sr 0) xc := Eq.trans (hF.z hsr (by rw [ksr]; rfl)) hf2
            have z634 : q_ir (q_r f627 mo 13) sr := Eq.trans (hF.r hmo (by rw [kmo]; rfl)) hr0
            have z635 : q_ir (q_r f627 mo 24) hp := Eq.trans (hF.r hmo (by rw [kmo]; rfl)) hr1
            have z636 : q_ir (q_r f627 mo 25) dy := Eq.trans (hF.r hmo (by rw [kmo]; rfl)) hr2
            have z637 : q_ir (q_r f627 mo 16) aw := Eq.trans (hF.r hmo (by rw [kmo]; rfl)) hr3
            have g638 : q_gr f627 sr := q_gr_fr hgr (fun i9 _ => hF.z hsr (by rw [ksr]; rfl))
            subst qy628
            refine q_ifne (tgt := 40) cx ⟨by decide, by decide⟩ dX12_bestWatch_35 (by decide) (fun c639 => ?_) (fun c639 => ?_)
            · exact absurd c639 (by omega)
            · refine q_iconst cx dX12_bestWatch_38 ?_
              refine q_iret cx hr hlk hB dX12_bestWatch_39 ⟨by decide, by decide⟩ ?_
              exact ⟨(by decide), (by decide), (q_isl z631 (by omega)), (q_isu z631 (by omega)), (q_isl z632 (by omega)), (q_isu z632 (by omega)), z633, g638⟩
          · refine q_iconst cx dX12_bestWatch_27 ?_
            refine lv_goto (tgt := 32) cx.1 cx.2.1 dX12_bestWatch_28 (by decide) ?_
            refine q_cVi (As := [.int (q_i 0), .int (q_i 1)]) (rest := []) cx hB (fun _ h => h) hN hmo kmo (by decide) rfl (r_goesBoth0 l g hN hB.2.1 mo hmo kmo 0 (by decide) (by decide) 1 (by decide) (by decide)) q_cX12_358 q_dX12_goesBoth (by decide) rfl rfl hl.1 rfl (Nat.le_of_ble_eq_true rfl) dX12_bestWatch_32 (fun y641 H locs f640 ry641 h642 hF hB => ?_)
            obtain ⟨qy641, z643⟩ := h642
            have z644 : q_is (q_z f640 sr 3) xt := Eq.trans (hF.z hsr (by rw [ksr]; rfl)) hf0
            have z645 : q_is (q_z f640 sr 4) xm := Eq.trans (hF.z hsr (by rw [ksr]; rfl)) hf1
            have z646 : q_is (q_z f640 sr 0) xc := Eq.trans (hF.z hsr (by rw [ksr]; rfl)) hf2
            have z647 : q_ir (q_r f640 mo 13) sr := Eq.trans (hF.r hmo (by rw [kmo]; rfl)) hr0
            have z648 : q_ir (q_r f640 mo 24) hp := Eq.trans (hF.r hmo (by rw [kmo]; rfl)) hr1
            have z649 : q_ir (q_r f640 mo 25) dy := Eq.trans (hF.r hmo (by rw [kmo]; rfl)) hr2
            have z650 : q_ir (q_r f640 mo 16) aw := Eq.trans (hF.r hmo (by rw [kmo]; rfl)) hr3
            have g651 : q_gr f640 sr := q_gr_fr hgr (fun i9 _ => hF.z hsr (by rw [ksr]; rfl))
            subst qy641
            refine q_ifne (tgt := 40) cx ⟨by decide, by decide⟩ dX12_bestWatch_35 (by decide) (fun c652 => ?_) (fun c652 => ?_)
            · exact absurd c652 (by omega)
            · refine q_iconst cx dX12_bestWatch_38 ?_
              refine q_iret cx hr hlk hB dX12_bestWatch_39 ⟨by decide, by decide⟩ ?_
              exact ⟨(by decide), (by decide), (q_isl z644 (by omega)), (q_isu z644 (by omega)), (q_isl z645 (by omega)), (q_isu z645 (by omega)), z646, g651⟩
        · exact absurd c625 (by omega)
  · obtain ⟨rfl, qy552⟩ := h555
    subst qy552
    refine q_ifeq (tgt := 21) cx ⟨by decide, by decide⟩ dX12_bestWatch_6 (by decide) (fun c653 => ?_) (fun c653 => ?_)
    · refine q_iconst cx dX12_bestWatch_21 ?_
      refine q_ild_n cx dX12_bestWatch_22 rfl (lv_at hl 1 rfl) ?_
      refine q_ild_n cx dX12_bestWatch_23 rfl (lv_at hl 2 rfl) ?_
      refine q_iceq (tgt := 31) cx ⟨by omega, by omega⟩ ⟨by omega, by omega⟩ dX12_bestWatch_24 (by decide) (fun c654 => ?_) (fun c654 => ?_)
      · refine q_iconst cx dX12_bestWatch_31 ?_
        refine q_cVi (As := [.int (q_i 0), .int (q_i 0)]) (rest := []) cx hB (fun _ h => h) hN hmo kmo (by decide) rfl (r_goesBoth0 l g hN hB.2.1 mo hmo kmo 0 (by decide) (by decide) 0 (by decide) (by decide)) q_cX12_358 q_dX12_goesBoth (by decide) rfl rfl hl.1 rfl (Nat.le_of_ble_eq_true rfl) dX12_bestWatch_32 (fun y656 H locs f655 ry656 h657 hF hB => ?_)
        obtain ⟨qy656, z658⟩ := h657
        have z659 : q_is (q_z f655 sr 3) xt := Eq.trans (hF.z hsr (by rw [ksr]; rfl)) hf0
        have z660 : q_is (q_z f655 sr 4) xm := Eq.trans (hF.z hsr (by rw [ksr]; rfl)) hf1
        have z661 : q_is (q_z f655 sr 0) xc := Eq.trans (hF.z hsr (by rw [ksr]; rfl)) hf2
        have z662 : q_ir (q_r f655 mo 13) sr := Eq.trans (hF.r hmo (by rw [kmo]; rfl)) hr0
        have z663 : q_ir (q_r f655 mo 24) hp := Eq.trans (hF.r hmo (by rw [kmo]; rfl)) hr1
        have z664 : q_ir (q_r f655 mo 25) dy := Eq.trans (hF.r hmo (by rw [kmo]; rfl)) hr2
        have z665 : q_ir (q_r f655 mo 16) aw := Eq.trans (hF.r hmo (by rw [kmo]; rfl)) hr3
        have g666 : q_gr f655 sr := q_gr_fr hgr (fun i9 _ => hF.z hsr (by rw [ksr]; rfl))
        subst qy656
        refine q_ifne (tgt := 40) cx ⟨by decide, by decide⟩ dX12_bestWatch_35 (by decide) (fun c667 => ?_) (fun c667 => ?_)
        · exact absurd c667 (by omega)
        · refine q_iconst cx dX12_bestWatch_38 ?_
          refine q_iret cx hr hlk hB dX12_bestWatch_39 ⟨by decide, by decide⟩ ?_
          exact ⟨(by decide), (by decide), (q_isl z659 (by omega)), (q_isu z659 (by omega)), (q_isl z660 (by omega)), (q_isu z660 (by omega)), z661, g666⟩
      · refine q_iconst cx dX12_bestWatch_27 ?_
        refine lv_goto (tgt := 32) cx.1 cx.2.1 dX12_bestWatch_28 (by decide) ?_
        refine q_cVi (As := [.int (q_i 0), .int (q_i 1)]) (rest := []) cx hB (fun _ h => h) hN hmo kmo (by decide) rfl (r_goesBoth0 l g hN hB.2.1 mo hmo kmo 0 (by decide) (by decide) 1 (by decide) (by decide)) q_cX12_358 q_dX12_goesBoth (by decide) rfl rfl hl.1 rfl (Nat.le_of_ble_eq_true rfl) dX12_bestWatch_32 (fun y669 H locs f668 ry669 h670 hF hB => ?_)
        obtain ⟨qy669, z671⟩ := h670
        have z672 : q_is (q_z f668 sr 3) xt := Eq.trans (hF.z hsr (by rw [ksr]; rfl)) hf0
        have z673 : q_is (q_z f668 sr 4) xm := Eq.trans (hF.z hsr (by rw [ksr]; rfl)) hf1
        have z674 : q_is (q_z f668 sr 0) xc := Eq.trans (hF.z hsr (by rw [ksr]; rfl)) hf2
        have z675 : q_ir (q_r f668 mo 13) sr := Eq.trans (hF.r hmo (by rw [kmo]; rfl)) hr0
        have z676 : q_ir (q_r f668 mo 24) hp := Eq.trans (hF.r hmo (by rw [kmo]; rfl)) hr1
        have z677 : q_ir (q_r f668 mo 25) dy := Eq.trans (hF.r hmo (by rw [kmo]; rfl)) hr2
        have z678 : q_ir (q_r f668 mo 16) aw := Eq.trans (hF.r hmo (by rw [kmo]; rfl)) hr3
        have g679 : q_gr f668 sr := q_gr_fr hgr (fun i9 _ => hF.z hsr (by rw [ksr]; rfl))
        subst qy669
        refine q_ifne (tgt := 40) cx ⟨by decide, by decide⟩ dX12_bestWatch_35 (by decide) (fun c680 => ?_) (fun c680 => ?_)
        · exact absurd c680 (by omega)
        · refine q_iconst cx dX12_bestWatch_38 ?_
          refine q_iret cx hr hlk hB dX12_bestWatch_39 ⟨by decide, by decide⟩ ?_
          exact ⟨(by decide), (by decide), (q_isl z672 (by omega)), (q_isu z672 (by omega)), (q_isl z673 (by omega)), (q_isu z673 (by omega)), z674, g679⟩
    · exact absurd c653 (by omega)
set_option maxHeartbeats 4000000 in
set_option maxRecDepth 100000 in
theorem r_maySend (l : Launch) (g : q_G) {K : Nat → Nat} {L : List Nat} (hN : L.Nodup) {f : Nat → va_E} (hT : q_Ty g K L f) (mo : Nat) (hmo : mo ∈ L) (kmo : K mo = 12) (a0 : Int) (la0 : 0 ≤ a0) (ua0 : a0 ≤ 9) (b0 : Int) (lb0 : 0 ≤ b0) (ub0 : b0 ≤ 9) (sr : Nat) (hsr : sr ∈ L) (ksr : K sr = 151) (xm : Int) (lxm : 0 ≤ xm) (uxm : xm ≤ 60) (hf0 : q_is (q_z f sr 4) xm) (hr0 : q_ir (q_r f mo 13) sr) (hgr : q_gr f sr) : q_Ct l g K L yX12_maySend cX12_maySend 3 (some .boolean) 4 86 [.ref mo, .int (q_i a0), .int (q_i b0)] f [] (q_Pi (fun (z : Int) (f1 : Nat → va_E) => (f = f1 ∧ z = 1 ∧ (xm ≤ 59)) ∨ (f = f1 ∧ z = 0))) := by
  refine q_ofb (by decide +kernel) hN hT (Nat.le_of_ble_eq_true rfl) ?_
  intro p e s m below meth c ls cx hr hlk hB hl
  have hl : lv_has ls 3 [(0, .ref mo), (1, .int (q_i a0)), (2, .int (q_i b0))] := hl
  obtain ⟨H, hH⟩ : ∃ H : Heap, H = s.heap := ⟨_, rfl⟩
  obtain ⟨locs, hlocs⟩ : ∃ z : List Loc, z = [] := ⟨_, rfl⟩
  rw [← hH, ← hlocs] at hB
  rw [← hH, ← hlocs]
  refine q_ald_n cx dX12_maySend_0 rfl (lv_at hl 0 rfl) ?_
  refine q_ild_n cx dX12_maySend_1 rfl (lv_at hl 1 rfl) ?_
  refine q_ild_n cx dX12_maySend_2 rfl (lv_at hl 2 rfl) ?_
  refine q_cVi (As := [.int (q_i a0), .int (q_i b0)]) (rest := []) cx hB (fun _ h => h) hN hmo kmo (by decide) rfl (r_areIn l g hN hB.2.1 mo hmo kmo a0 (by omega) (by omega) b0 (by omega) (by omega) sr hsr ksr hr0 hgr) q_cX12_414 q_dX12_areIn (by decide) rfl rfl hl.1 rfl (Nat.le_of_ble_eq_true rfl) dX12_maySend_3 (fun y10 H locs f9 ry10 h11 hF hB => ?_)
  obtain ⟨rfl, ly10, uy10⟩ := h11
  refine q_ifeq (tgt := 24) cx ⟨by omega, by omega⟩ dX12_maySend_6 (by decide) (fun c12 => ?_) (fun c12 => ?_)
  · refine q_iconst cx dX12_maySend_24 ?_
    refine q_zret cx hr hlk hB dX12_maySend_25 (by decide) (by decide) ?_
    exact (Or.inr ⟨rfl, rfl⟩)
  · refine q_ald_n cx dX12_maySend_9 rfl (lv_at hl 0 rfl) ?_
    refine q_gX12_20 cx hB hmo kmo hr0 dX12_maySend_10 (fun hb13 kb13 => ?_)
    refine q_iconst cx dX12_maySend_13 ?_
    refine q_iald (lo := (-2147483648)) (hi := 2147483647) (n := 658) cx hB hsr ksr (by decide) rfl rfl (by decide) (by decide) (by decide) rfl hf0 dX12_maySend_14 (fun lb15 ub15 => ?_)
    refine q_bipush cx dX12_maySend_15 rfl ?_
    refine q_icge (tgt := 24) cx ⟨by omega, by omega⟩ ⟨by decide, by decide⟩ dX12_maySend_17 (by decide) (fun c16 => ?_) (fun c16 => ?_)
    · refine q_iconst cx dX12_maySend_24 ?_
      refine q_zret cx hr hlk hB dX12_maySend_25 (by decide) (by decide) ?_
      exact (Or.inr ⟨rfl, rfl⟩)
    · refine q_iconst cx dX12_maySend_20 ?_
      refine lv_goto (tgt := 25) cx.1 cx.2.1 dX12_maySend_21 (by decide) ?_
      refine q_zret cx hr hlk hB dX12_maySend_25 (by decide) (by decide) ?_
      exact (Or.inl ⟨rfl, rfl, (by omega)⟩)
set_option maxHeartbeats 4000000 in
set_option maxRecDepth 100000 in
theorem r_swapsCelln0 (l : Launch) (g : q_G) {K : Nat → Nat} {L : List Nat} (hN : L.Nodup) {f : Nat → va_E} (hT : q_Ty g K L f) (mo : Nat) (hmo : mo ∈ L) (kmo : K mo = 12) (a0 : Int) (la0 : 10 ≤ a0) (ua0 : a0 ≤ 83) (b0 : Int) (lb0 : 0 ≤ b0) (ub0 : b0 ≤ 59) (sr : Nat) (hsr : sr ∈ L) (ksr : K sr = 151) (xn : Int) (lxn : 0 ≤ xn) (uxn : xn ≤ 9) (hr0 : q_ir (q_r f mo 13) sr) (hp0 : a0 = 8 * xn + 10) (hgr : q_gr f sr) : q_Ct l g K L yX12_swapsCell cX12_swapsCell 4 (some .int) 0 0 [.ref mo, .int (q_i a0), .int (q_i b0)] f [(151, 10, 82)] (q_Pi (fun (z : Int) (f1 : Nat → va_E) => 0 ≤ z ∧ z ≤ 59 ∧ q_gr f1 sr)) := by
  refine q_ofb (by decide +kernel) hN hT (Nat.le_of_ble_eq_true rfl) ?_
  intro p e s m below meth c ls cx hr hlk hB hl
  have hl : lv_has ls 4 [(0, .ref mo), (1, .int (q_i a0)), (2, .int (q_i b0))] := hl
  obtain ⟨H, hH⟩ : ∃ H : Heap, H = s.heap := ⟨_, rfl⟩
  obtain ⟨locs, hlocs⟩ : ∃ z : List Loc, z = [] := ⟨_, rfl⟩
  rw [← hH, ← hlocs] at hB
  rw [← hH, ← hlocs]
  refine q_ald_n cx dX12_swapsCell_0 rfl (lv_at hl 0 rfl) ?_
  refine q_gX12_20 cx hB hmo kmo hr0 dX12_swapsCell_1 (fun hb9 kb9 => ?_)
  refine q_ild_n cx dX12_swapsCell_4 rfl (lv_at hl 1 rfl) ?_
  obtain ⟨x10, ex10⟩ : ∃ zz, q_is (q_z f sr (Int.toNat a0)) zz := ⟨_, q_isr _⟩
  refine q_sald cx hB hsr ksr (by omega) (by omega) ex10 dX12_swapsCell_5 (fun rx10 => ?_)
  obtain ⟨lx10, ux10⟩ : 0 ≤ x10 ∧ x10 ≤ 59 := q_isb ex10 (q_gr_at hgr (by omega) (q_egn (n := xn) (w := 0) (by omega) (by omega) (by omega) (by decide)))
  refine lv_istore_n (lv' := [(3, .int (q_i x10)), (0, .ref mo), (1, .int (q_i a0)), (2, .int (q_i b0))]) cx.1 cx.2.1 dX12_swapsCell_6 rfl hl (by decide) rfl (fun ls hl => ?_)
  refine q_ald_n cx dX12_swapsCell_7 rfl (lv_at hl 1 rfl) ?_
  refine q_gX12_20 cx hB hmo kmo hr0 dX12_swapsCell_8 (fun hb12 kb12 => ?_)
  refine q_ild_n cx dX12_swapsCell_11 rfl (lv_at hl 2 rfl) ?_
  refine q_ild_n cx dX12_swapsCell_12 rfl (lv_at hl 3 rfl) ?_
  refine q_sast cx hB hsr ksr (by omega) (by omega) ⟨by omega, by omega⟩ (q_inWi (lo := 10) (hi := 82) (by decide) (by omega) (by omega)) dX12_swapsCell_13 (fun H locs f13 ef13 z14 hB => ?_)
  have z15 : q_ir (q_r f13 mo 13) sr := by rw [ef13, q_setr (Or.inl (fun q => by rw [q, ksr] at kmo; exact absurd kmo (by decide)))]; exact hr0
  have g16 : q_gr f13 sr := q_gr_put hgr ef13 z14 (q_egn (n := xn) (w := 0) (by omega) (by omega) (by omega) (by decide)) (by omega) (by omega)
  refine q_ild_n cx dX12_swapsCell_14 rfl (lv_at hl 0 rfl) ?_
  refine q_iret cx hr hlk hB dX12_swapsCell_15 ⟨by omega, by omega⟩ ?_
  exact ⟨(by omega), (by omega), g16⟩
set_option maxHeartbeats 4000000 in
set_option maxRecDepth 100000 in
theorem r_swapsCelln1 (l : Launch) (g : q_G) {K : Nat → Nat} {L : List Nat} (hN : L.Nodup) {f : Nat → va_E} (hT : q_Ty g K L f) (mo : Nat) (hmo : mo ∈ L) (kmo : K mo = 12) (a0 : Int) (la0 : 10 ≤ a0) (ua0 : a0 ≤ 83) (b0 : Int) (lb0 : 0 ≤ b0) (ub0 : b0 ≤ 59) (sr : Nat) (hsr : sr ∈ L) (ksr : K sr = 151) (xn : Int) (lxn : 0 ≤ xn) (uxn : xn ≤ 9) (hr0 : q_ir (q_r f mo 13) sr) (hp0 : a0 = 8 * xn + 11) (hgr : q_gr f sr) : q_Ct l g K L yX12_swapsCell cX12_swapsCell 4 (some .int) 0 0 [.ref mo, .int (q_i a0), .int (q_i b0)] f [(151, 11, 83)] (q_Pi (fun (z : Int) (f1 : Nat → va_E) => 0 ≤ z ∧ z ≤ 59 ∧ q_gr f1 sr)) := by
  refine q_ofb (by decide +kernel) hN hT (Nat.le_of_ble_eq_true rfl) ?_
  intro p e s m below meth c ls cx hr hlk hB hl
  have hl : lv_has ls 4 [(0, .ref mo), (1, .int (q_i a0)), (2, .int (q_i b0))] := hl
  obtain ⟨H, hH⟩ : ∃ H : Heap, H = s.heap := ⟨_, rfl⟩
  obtain ⟨locs, hlocs⟩ : ∃ z : List Loc, z = [] := ⟨_, rfl⟩
  rw [← hH, ← hlocs] at hB
  rw [← hH, ← hlocs]
  refine q_ald_n cx dX12_swapsCell_0 rfl (lv_at hl 0 rfl) ?_
  refine q_gX12_20 cx hB hmo kmo hr0 dX12_swapsCell_1 (fun hb9 kb9 => ?_)
  refine q_ild_n cx dX12_swapsCell_4 rfl (lv_at hl 1 rfl) ?_
  obtain ⟨x10, ex10⟩ : ∃ zz, q_is (q_z f sr (Int.toNat a0)) zz := ⟨_, q_isr _⟩
  refine q_sald cx hB hsr ksr (by omega) (by omega) ex10 dX12_swapsCell_5 (fun rx10 => ?_)
  obtain ⟨lx10, ux10⟩ : 0 ≤ x10 ∧ x10 ≤ 59 := q_isb ex10 (q_gr_at hgr (by omega) (q_egn (n := xn) (w := 1) (by omega) (by omega) (by omega) (by decide)))
  refine lv_istore_n (lv' := [(3, .int (q_i x10)), (0, .ref mo), (1, .int (q_i a0)), (2, .int (q_i b0))]) cx.1 cx.2.1 dX12_swapsCell_6 rfl hl (by decide) rfl (fun ls hl => ?_)
  refine q_ald_n cx dX12_swapsCell_7 rfl (lv_at hl 1 rfl) ?_
  refine q_gX12_20 cx hB hmo kmo hr0 dX12_swapsCell_8 (fun hb12 kb12 => ?_)
  refine q_ild_n cx dX12_swapsCell_11 rfl (lv_at hl 2 rfl) ?_
  refine q_ild_n cx dX12_swapsCell_12 rfl (lv_at hl 3 rfl) ?_
  refine q_sast cx hB hsr ksr (by omega) (by omega) ⟨by omega, by omega⟩ (q_inWi (lo := 11) (hi := 83) (by decide) (by omega) (by omega)) dX12_swapsCell_13 (fun H locs f13 ef13 z14 hB => ?_)
  have z15 : q_ir (q_r f13 mo 13) sr := by rw [ef13, q_setr (Or.inl (fun q => by rw [q, ksr] at kmo; exact absurd kmo (by decide)))]; exact hr0
  have g16 : q_gr f13 sr := q_gr_put hgr ef13 z14 (q_egn (n := xn) (w := 1) (by omega) (by omega) (by omega) (by decide)) (by omega) (by omega)
  refine q_ild_n cx dX12_swapsCell_14 rfl (lv_at hl 0 rfl) ?_
  refine q_iret cx hr hlk hB dX12_swapsCell_15 ⟨by omega, by omega⟩ ?_
  exact ⟨(by omega), (by omega), g16⟩
set_option maxHeartbeats 4000000 in
set_option maxRecDepth 100000 in
theorem r_swapsCell8 (l : Launch) (g : q_G) {K : Nat → Nat} {L : List Nat} (hN : L.Nodup) {f : Nat → va_E} (hT : q_Ty g K L f) (mo : Nat) (hmo : mo ∈ L) (kmo : K mo = 12) (a0 : Int) (la0 : 8 ≤ a0) (ua0 : a0 ≤ 8) (b0 : Int) (lb0 : 0 ≤ b0) (ub0 : b0 ≤ 9) (sr : Nat) (hsr : sr ∈ L) (ksr : K sr = 151) (hr0 : q_ir (q_r f mo 13) sr) (hgr : q_gr f sr) : q_Ct l g K L yX12_swapsCell cX12_swapsCell 4 (some .int) 0 0 [.ref mo, .int (q_i a0), .int (q_i b0)] f [(151, 8, 8)] (q_Pi (fun (z : Int) (f1 : Nat → va_E) => 0 ≤ z ∧ z ≤ 9 ∧ q_gr f1 sr)) := by
  obtain rfl : a0 = 8 := by omega
  refine q_ofb (by decide +kernel) hN hT (Nat.le_of_ble_eq_true rfl) ?_
  intro p e s m below meth c ls cx hr hlk hB hl
  have hl : lv_has ls 4 [(0, .ref mo), (1, .int (q_i 8)), (2, .int (q_i b0))] := hl
  obtain ⟨H, hH⟩ : ∃ H : Heap, H = s.heap := ⟨_, rfl⟩
  obtain ⟨locs, hlocs⟩ : ∃ z : List Loc, z = [] := ⟨_, rfl⟩
  rw [← hH, ← hlocs] at hB
  rw [← hH, ← hlocs]
  refine q_ald_n cx dX12_swapsCell_0 rfl (lv_at hl 0 rfl) ?_
  refine q_gX12_20 cx hB hmo kmo hr0 dX12_swapsCell_1 (fun hb9 kb9 => ?_)
  refine q_ild_n cx dX12_swapsCell_4 rfl (lv_at hl 1 rfl) ?_
  obtain ⟨x10, ex10⟩ : ∃ zz, q_is (q_z f sr (Int.toNat 8)) zz := ⟨_, q_isr _⟩
  refine q_sald cx hB hsr ksr (by decide) (by decide) ex10 dX12_swapsCell_5 (fun rx10 => ?_)
  obtain ⟨lx10, ux10⟩ : 0 ≤ x10 ∧ x10 ≤ 9 := q_isb ex10 (q_gr_at hgr (by decide) rfl)
  refine lv_istore_n (lv' := [(3, .int (q_i x10)), (0, .ref mo), (1, .int (q_i 8)), (2, .int (q_i b0))]) cx.1 cx.2.1 dX12_swapsCell_6 rfl hl (by decide) rfl (fun ls hl => ?_)
  refine q_ald_n cx dX12_swapsCell_7 rfl (lv_at hl 1 rfl) ?_
  refine q_gX12_20 cx hB hmo kmo hr0 dX12_swapsCell_8 (fun hb12 kb12 => ?_)
  refine q_ild_n cx dX12_swapsCell_11 rfl (lv_at hl 2 rfl) ?_
  refine q_ild_n cx dX12_swapsCell_12 rfl (lv_at hl 3 rfl) ?_
  refine q_sast cx hB hsr ksr (by decide) (by decide) ⟨by omega, by omega⟩ rfl dX12_swapsCell_13 (fun H locs f13 ef13 z14 hB => ?_)
  have z15 : q_ir (q_r f13 mo 13) sr := by rw [ef13, q_setr (Or.inr (by decide))]; exact hr0
  have g16 : q_gr f13 sr := q_gr_put hgr ef13 z14 rfl (by omega) (by omega)
  refine q_ild_n cx dX12_swapsCell_14 rfl (lv_at hl 0 rfl) ?_
  refine q_iret cx hr hlk hB dX12_swapsCell_15 ⟨by omega, by omega⟩ ?_
  exact ⟨(by omega), (by omega), g16⟩
set_option maxHeartbeats 4000000 in
set_option maxRecDepth 100000 in
theorem r_charges (l : Launch) (g : q_G) {K : Nat → Nat} {L : List Nat} (hN : L.Nodup) {f : Nat → va_E} (hT : q_Ty g K L f) (mo : Nat) (hmo : mo ∈ L) (kmo : K mo = 12) (a0 : Int) (la0 : 0 ≤ a0) (ua0 : a0 ≤ 9) (b0 : Int) (lb0 : 1 ≤ b0) (ub0 : b0 ≤ 999) (sr : Nat) (hsr : sr ∈ L) (ksr : K sr = 151) (hr0 : q_ir (q_r f mo 13) sr) (hgr : q_gr f sr) : q_Ct l g K L yX12_charges cX12_charges 3 (some .int) 2 44 [.ref mo, .int (q_i a0), .int (q_i b0)] f [(151, 12, 84)] (q_Pi (fun (z : Int) (f1 : Nat → va_E) => (-198) ≤ z ∧ z ≤ 9999 ∧ q_gr f1 sr)) := by
  refine q_ofb (by decide +kernel) hN hT (Nat.le_of_ble_eq_true rfl) ?_
  intro p e s m below meth c ls cx hr hlk hB hl
  have hl : lv_has ls 3 [(0, .ref mo), (1, .int (q_i a0)), (2, .int (q_i b0))] := hl
  obtain ⟨H, hH⟩ : ∃ H : Heap, H = s.heap := ⟨_, rfl⟩
  obtain ⟨locs, hlocs⟩ : ∃ z : List Loc, z = [] := ⟨_, rfl⟩
  rw [← hH, ← hlocs] at hB
  rw [← hH, ← hlocs]
  refine q_ald_n cx dX12_charges_0 rfl (lv_at hl 0 rfl) ?_
  refine q_ild_n cx dX12_charges_1 rfl (lv_at hl 1 rfl) ?_
  refine q_iconst cx dX12_charges_2 ?_
  refine q_sipush cx dX12_charges_3 rfl ?_
  refine q_ald_n cx dX12_charges_6 rfl (lv_at hl 0 rfl) ?_
  refine q_ild_n cx dX12_charges_7 rfl (lv_at hl 1 rfl) ?_
  refine q_iconst cx dX12_charges_8 ?_
  refine q_cVi (As := [.int (q_i a0), .int (q_i 2)]) (rest := [.int (q_i 9999), .int (q_i 2), .int (q_i a0), .ref mo]) cx hB (fun _ h => h) hN hmo kmo (by decide) rfl (r_ofNode2 l g hN hB.2.1 mo hmo kmo a0 (by omega) (by omega) 2 (by decide) (by decide) sr hsr ksr hr0 hgr) q_cX12_256 q_dX12_ofNode (by decide) rfl rfl hl.1 rfl (Nat.le_of_ble_eq_true rfl) dX12_charges_9 (fun y35 H locs f34 ry35 h36 hF hB => ?_)
  obtain ⟨rfl, ly35, uy35, t37⟩ := h36
  refine q_ild_n cx dX12_charges_12 rfl (lv_at hl 2 rfl) ?_
  refine q_iadd cx dX12_charges_13 ?_
  refine q_cSi (As := [.int (q_i 9999), .int (q_i (y35 + b0))]) (rest := [.int (q_i 2), .int (q_i a0), .ref mo]) cx hB (fun _ h => h) hN (r_lesser l g hN hB.2.1 9999 (by decide) (by decide) (y35 + b0) (by omega) (by omega)) q_cX12_292 q_dX12_lesser (by decide) rfl rfl hl.1 rfl (Nat.le_of_ble_eq_true rfl) dX12_charges_14 (fun y39 H locs f38 ry39 h40 hF hB => ?_)
  rcases h40 with h41 | h42
  · obtain ⟨rfl, qy39, t43⟩ := h41
    subst qy39
    refine q_cVv (As := [.int (q_i a0), .int (q_i 2), .int (q_i 9999)]) (rest := []) cx hB (fun _ h => h) hN hmo kmo (by decide) rfl (r_setsNode2 l g hN hB.2.1 mo hmo kmo a0 (by omega) (by omega) 2 (by decide) (by decide) 9999 (by decide) (by decide) sr hsr ksr hr0 hgr) q_cX12_202 q_dX12_setsNode (by decide) rfl rfl hl.1 rfl (Nat.le_of_ble_eq_true rfl) dX12_charges_17 (fun H locs f44 h46 hF hB => ?_)
    obtain ⟨t47, t48, g49⟩ := h46
    have z50 : q_ir (q_r f44 mo 13) sr := Eq.trans (hF.r hmo (by rw [kmo]; rfl)) hr0
    refine q_ald_n cx dX12_charges_20 rfl (lv_at hl 0 rfl) ?_
    refine q_ild_n cx dX12_charges_21 rfl (lv_at hl 1 rfl) ?_
    refine q_iconst cx dX12_charges_22 ?_
    refine q_cVi (As := [.int (q_i a0), .int (q_i 2)]) (rest := []) cx hB (fun _ h => h) hN hmo kmo (by decide) rfl (r_ofNode2 l g hN hB.2.1 mo hmo kmo a0 (by omega) (by omega) 2 (by decide) (by decide) sr hsr ksr z50 g49) q_cX12_256 q_dX12_ofNode (by decide) rfl rfl hl.1 rfl (Nat.le_of_ble_eq_true rfl) dX12_charges_23 (fun y52 H locs f51 ry52 h53 hF hB => ?_)
    obtain ⟨rfl, ly52, uy52, t54⟩ := h53
    refine q_iret cx hr hlk hB dX12_charges_26 ⟨by omega, by omega⟩ ?_
    exact ⟨(by omega), (by omega), g49⟩
  · obtain ⟨rfl, qy39, t55⟩ := h42
    refine q_cVv (As := [.int (q_i a0), .int (q_i 2), .int (q_i y39)]) (rest := []) cx hB (fun _ h => h) hN hmo kmo (by decide) rfl (r_setsNode2 l g hN hB.2.1 mo hmo kmo a0 (by omega) (by omega) 2 (by decide) (by decide) y39 (by omega) (by omega) sr hsr ksr hr0 hgr) q_cX12_202 q_dX12_setsNode (by decide) rfl rfl hl.1 rfl (Nat.le_of_ble_eq_true rfl) dX12_charges_17 (fun H locs f56 h58 hF hB => ?_)
    obtain ⟨t59, t60, g61⟩ := h58
    have z62 : q_ir (q_r f56 mo 13) sr := Eq.trans (hF.r hmo (by rw [kmo]; rfl)) hr0
    refine q_ald_n cx dX12_charges_20 rfl (lv_at hl 0 rfl) ?_
    refine q_ild_n cx dX12_charges_21 rfl (lv_at hl 1 rfl) ?_
    refine q_iconst cx dX12_charges_22 ?_
    refine q_cVi (As := [.int (q_i a0), .int (q_i 2)]) (rest := []) cx hB (fun _ h => h) hN hmo kmo (by decide) rfl (r_ofNode2 l g hN hB.2.1 mo hmo kmo a0 (by omega) (by omega) 2 (by decide) (by decide) sr hsr ksr z62 g61) q_cX12_256 q_dX12_ofNode (by decide) rfl rfl hl.1 rfl (Nat.le_of_ble_eq_true rfl) dX12_charges_23 (fun y64 H locs f63 ry64 h65 hF hB => ?_)
    obtain ⟨rfl, ly64, uy64, t66⟩ := h65
    refine q_iret cx hr hlk hB dX12_charges_26 ⟨by omega, by omega⟩ ?_
    exact ⟨(by omega), (by omega), g61⟩
set_option maxHeartbeats 4000000 in
set_option maxRecDepth 100000 in
theorem r_tick (l : Launch) (g : q_G) {K : Nat → Nat} {L : List Nat} (hN : L.Nodup) {f : Nat → va_E} (hT : q_Ty g K L f) (mo : Nat) (hmo : mo ∈ L) (kmo : K mo = 12) (a0 : Int) (la0 : (-2147483648) ≤ a0) (ua0 : a0 ≤ 2147483647) (sr : Nat) (hsr : sr ∈ L) (ksr : K sr = 151) (hp : Nat) (hhp : hp ∈ L) (khp : K hp = 159) (dy : Nat) (hdy : dy ∈ L) (kdy : K dy = 160) (as : Nat) (has : as ∈ L) (kas : K as = 153) (pa : Nat) (hpa : pa ∈ L) (kpa : K pa = 155) (xt : Int) (lxt : 0 ≤ xt) (uxt : xt ≤ 9999) (xm : Int) (lxm : 0 ≤ xm) (uxm : xm ≤ 60) (xc : Int) (lxc : 0 ≤ xc) (uxc : xc ≤ 10) (hf0 : q_is (q_z f sr 3) xt) (hf1 : q_is (q_z f sr 4) xm) (hf2 : q_is (q_z f sr 0) xc) (hr0 : q_ir (q_r f mo 13) sr) (hr1 : q_ir (q_r f mo 24) hp) (hr2 : q_ir (q_r f mo 25) dy) (hr3 : q_ir (q_r f mo 15) as) (hr4 : q_ir (q_r f mo 17) pa) (hgr : q_gr f sr) (hpk : q_pk f mo pa) (hpc : q_pc f mo pa xc) : q_Ct l g K L yX12_tick cX12_tick 3 (some .int) 10 228 [.ref mo, .int (q_i a0)] f [(12, 0, 0), (12, 21, 21), (12, 26, 28), (151, 3, 3), (151, 9, 9), (151, 11, 87), (151, 92, 169), (151, 172, 657), (153, 0, 657), (155, 0, 3947), (159, 0, 9), (160, 0, 9)] (q_Pi (fun (z : Int) (f1 : Nat → va_E) => 0 ≤ q_z f1 sr 3 ∧ q_z f1 sr 3 ≤ 9999 ∧ 0 ≤ q_z f1 sr 4 ∧ q_z f1 sr 4 ≤ 60 ∧ q_is (q_z f1 sr 0) xc ∧ q_gr f1 sr ∧ (q_pk f1 mo pa) ∧ (q_pc f1 mo pa xc))) := by
  refine q_ofb (by decide +kernel) hN hT (Nat.le_of_ble_eq_true rfl) ?_
  intro p e s m below meth c ls cx hr hlk hB hl
  have hl : lv_has ls 3 [(0, .ref mo), (1, .int (q_i a0))] := hl
  obtain ⟨H, hH⟩ : ∃ H : Heap, H = s.heap := ⟨_, rfl⟩
  obtain ⟨locs, hlocs⟩ : ∃ z : List Loc, z = [] := ⟨_, rfl⟩
  rw [← hH, ← hlocs] at hB
  rw [← hH, ← hlocs]
  refine q_ild_n cx dX12_tick_0 rfl (lv_at hl 1 rfl) ?_
  refine q_cSi (As := [.int (q_i a0)]) (rest := []) cx hB (fun _ h => h) hN (r_areTicks l g hN hB.2.1 a0 (by omega) (by omega)) q_cX12_446 q_dX12_areTicks (by decide) rfl rfl hl.1 rfl (Nat.le_of_ble_eq_true rfl) dX12_tick_1 (fun y117 H locs f116 ry117 h118 hF hB => ?_)
  rcases h118 with h119 | h120
  · obtain ⟨rfl, qy117, t121, t122⟩ := h119
    subst qy117
    refine lv_istore_n (lv' := [(2, .int (q_i 1)), (0, .ref mo), (1, .int (q_i a0))]) cx.1 cx.2.1 dX12_tick_4 rfl hl (by decide) rfl (fun ls hl => ?_)
    refine q_ald_n cx dX12_tick_5 rfl (lv_at hl 1 rfl) ?_
    refine q_ild_n cx dX12_tick_6 rfl (lv_at hl 0 rfl) ?_
    refine q_ild_n cx dX12_tick_7 rfl (lv_at hl 0 rfl) ?_
    refine q_ifeq (tgt := 29) cx ⟨by decide, by decide⟩ dX12_tick_8 (by decide) (fun c123 => ?_) (fun c123 => ?_)
    · exact absurd c123 (by omega)
    · refine q_ald_n cx dX12_tick_11 rfl (lv_at hl 1 rfl) ?_
      refine q_gX12_20 cx hB hmo kmo hr0 dX12_tick_12 (fun hb124 kb124 => ?_)
      refine q_iconst cx dX12_tick_15 ?_
      refine q_iald (lo := (-2147483648)) (hi := 2147483647) (n := 658) cx hB hsr ksr (by decide) rfl rfl (by decide) (by decide) (by decide) rfl hf0 dX12_tick_16 (fun lb126 ub126 => ?_)
      refine q_ild_n cx dX12_tick_17 rfl (lv_at hl 2 rfl) ?_
      refine q_iadd cx dX12_tick_18 ?_
      refine q_sipush cx dX12_tick_19 rfl ?_
      refine q_icgt (tgt := 29) cx ⟨by omega, by omega⟩ ⟨by decide, by decide⟩ dX12_tick_22 (by decide) (fun c127 => ?_) (fun c127 => ?_)
      · refine q_iconst cx dX12_tick_29 ?_
        refine q_cVi (As := [.int (q_i 1), .int (q_i 0)]) (rest := []) cx hB (fun _ h => h) hN hmo kmo (by decide) rfl (r_goesBoth1 l g hN hB.2.1 mo hmo kmo 1 (by decide) (by decide) 0 (by decide) (by decide)) q_cX12_358 q_dX12_goesBoth (by decide) rfl rfl hl.1 rfl (Nat.le_of_ble_eq_true rfl) dX12_tick_30 (fun y129 H locs f128 ry129 h130 hF hB => ?_)
        obtain ⟨qy129, z131⟩ := h130
        have z132 : q_is (q_z f128 sr 3) xt := Eq.trans (hF.z hsr (by rw [ksr]; rfl)) hf0
        have z133 : q_is (q_z f128 sr 4) xm := Eq.trans (hF.z hsr (by rw [ksr]; rfl)) hf1
        have z134 : q_is (q_z f128 sr 0) xc := Eq.trans (hF.z hsr (by rw [ksr]; rfl)) hf2
        have z135 : q_ir (q_r f128 mo 13) sr := Eq.trans (hF.r hmo (by rw [kmo]; rfl)) hr0
        have z136 : q_ir (q_r f128 mo 24) hp := Eq.trans (hF.r hmo (by rw [kmo]; rfl)) hr1
        have z137 : q_ir (q_r f128 mo 25) dy := Eq.trans (hF.r hmo (by rw [kmo]; rfl)) hr2
        have z138 : q_ir (q_r f128 mo 15) as := Eq.trans (hF.r hmo (by rw [kmo]; rfl)) hr3
        have z139 : q_ir (q_r f128 mo 17) pa := Eq.trans (hF.r hmo (by rw [kmo]; rfl)) hr4
        have g140 : q_gr f128 sr := q_gr_fr hgr (fun i9 _ => hF.z hsr (by rw [ksr]; rfl))
        have g141 : q_pk f128 mo pa := q_pk_tr hpk (hF.z hmo (by rw [kmo]; rfl)) (fun i9 => hF.z hpa (by rw [kpa]; rfl))
        have g142 : q_pc f128 mo pa xc := q_pc_tr hpc (hF.z hmo (by rw [kmo]; rfl)) (fun i9 => hF.z hpa (by rw [kpa]; rfl))
        subst qy129
        refine q_ifne (tgt := 38) cx ⟨by decide, by decide⟩ dX12_tick_33 (by decide) (fun c143 => ?_) (fun c143 => ?_)
        · exact absurd c143 (by omega)
        · refine q_iconst cx dX12_tick_36 ?_
          refine q_iret cx hr hlk hB dX12_tick_37 ⟨by decide, by decide⟩ ?_
          exact ⟨(q_isl z132 (by omega)), (q_isu z132 (by omega)), (q_isl z133 (by omega)), (q_isu z133 (by omega)), z134, g140, g141, g142⟩
      · refine q_iconst cx dX12_tick_25 ?_
        refine lv_goto (tgt := 30) cx.1 cx.2.1 dX12_tick_26 (by decide) ?_
        refine q_cVi (As := [.int (q_i 1), .int (q_i 1)]) (rest := []) cx hB (fun _ h => h) hN hmo kmo (by decide) rfl (r_goesBoth2 l g hN hB.2.1 mo hmo kmo 1 (by decide) (by decide) 1 (by decide) (by decide)) q_cX12_358 q_dX12_goesBoth (by decide) rfl rfl hl.1 rfl (Nat.le_of_ble_eq_true rfl) dX12_tick_30 (fun y145 H locs f144 ry145 h146 hF hB => ?_)
        obtain ⟨qy145, z147⟩ := h146
        have z148 : q_is (q_z f144 sr 3) xt := Eq.trans (hF.z hsr (by rw [ksr]; rfl)) hf0
        have z149 : q_is (q_z f144 sr 4) xm := Eq.trans (hF.z hsr (by rw [ksr]; rfl)) hf1
        have z150 : q_is (q_z f144 sr 0) xc := Eq.trans (hF.z hsr (by rw [ksr]; rfl)) hf2
        have z151 : q_ir (q_r f144 mo 13) sr := Eq.trans (hF.r hmo (by rw [kmo]; rfl)) hr0
        have z152 : q_ir (q_r f144 mo 24) hp := Eq.trans (hF.r hmo (by rw [kmo]; rfl)) hr1
        have z153 : q_ir (q_r f144 mo 25) dy := Eq.trans (hF.r hmo (by rw [kmo]; rfl)) hr2
        have z154 : q_ir (q_r f144 mo 15) as := Eq.trans (hF.r hmo (by rw [kmo]; rfl)) hr3
        have z155 : q_ir (q_r f144 mo 17) pa := Eq.trans (hF.r hmo (by rw [kmo]; rfl)) hr4
        have g156 : q_gr f144 sr := q_gr_fr hgr (fun i9 _ => hF.z hsr (by rw [ksr]; rfl))
        have g157 : q_pk f144 mo pa := q_pk_tr hpk (hF.z hmo (by rw [kmo]; rfl)) (fun i9 => hF.z hpa (by rw [kpa]; rfl))
        have g158 : q_pc f144 mo pa xc := q_pc_tr hpc (hF.z hmo (by rw [kmo]; rfl)) (fun i9 => hF.z hpa (by rw [kpa]; rfl))
        subst qy145
        refine q_ifne (tgt := 38) cx ⟨by decide, by decide⟩ dX12_tick_33 (by decide) (fun c159 => ?_) (fun c159 => ?_)
        · refine q_ald_n cx dX12_tick_38 rfl (lv_at hl 1 rfl) ?_
          refine q_cVv (As := []) (rest := []) cx hB (fun _ h => h) hN hmo kmo (by decide) rfl (r_laysAside l g hN hB.2.1 mo hmo kmo sr hsr ksr as has kas xt (by omega) (by omega) xm (by omega) (by omega) xc (by omega) (by omega) z148 z149 z150 z151 z154 g156) q_cX12_247 q_dX12_laysAside (by decide) rfl rfl hl.1 rfl (Nat.le_of_ble_eq_true rfl) dX12_tick_39 (fun H locs f160 h162 hF hB => ?_)
          obtain ⟨lz163, uz163, z164⟩ := h162
          have z165 : q_is (q_z f160 sr 3) xt := Eq.trans (hF.z hsr (by rw [ksr]; rfl)) z148
          have z166 : q_is (q_z f160 sr 4) xm := Eq.trans (hF.z hsr (by rw [ksr]; rfl)) z149
          have z167 : q_is (q_z f160 sr 0) xc := Eq.trans (hF.z hsr (by rw [ksr]; rfl)) z150
          have z168 : q_is (q_z f160 mo 0) 0 := Eq.trans (hF.z hmo (by rw [kmo]; rfl)) z147
          have z169 : q_ir (q_r f160 mo 13) sr := Eq.trans (hF.r hmo (by rw [kmo]; rfl)) z151
          have z170 : q_ir (q_r f160 mo 24) hp := Eq.trans (hF.r hmo (by rw [kmo]; rfl)) z152
          have z171 : q_ir (q_r f160 mo 25) dy := Eq.trans (hF.r hmo (by rw [kmo]; rfl)) z153
          have z172 : q_ir (q_r f160 mo 15) as := Eq.trans (hF.r hmo (by rw [kmo]; rfl)) z154
          have z173 : q_ir (q_r f160 mo 17) pa := Eq.trans (hF.r hmo (by rw [kmo]; rfl)) z155
          have g174 : q_gr f160 sr := q_gr_fr g156 (fun i9 _ => hF.z hsr (by rw [ksr]; rfl))
          have g175 : q_pk f160 mo pa := q_pk_tr g157 (hF.z hmo (by rw [kmo]; rfl)) (fun i9 => hF.z hpa (by rw [kpa]; rfl))
          have g176 : q_pc f160 mo pa xc := q_pc_tr g158 (hF.z hmo (by rw [kmo]; rfl)) (fun i9 => hF.z hpa (by rw [kpa]; rfl))
          obtain ⟨x177, ex177⟩ : ∃ zz, q_is (q_z f160 as 2) zz := ⟨_, q_isr _⟩
          obtain ⟨lx177, ux177⟩ := q_isb ex177 ⟨lz163, uz163⟩
          refine q_ald_n cx dX12_tick_42 rfl (lv_at hl 1 rfl) ?_
          refine q_ald_n cx dX12_tick_43 rfl (lv_at hl 1 rfl) ?_
          refine q_ild_n cx dX12_tick_44 rfl (lv_at hl 2 rfl) ?_
          refine q_cVi (As := [.int (q_i a0)]) (rest := [.ref mo]) cx hB (fun _ h => h) hN hmo kmo (by decide) rfl (r_ticksOn l g hN hB.2.1 mo hmo kmo a0 (by omega) (by omega) sr hsr ksr hp hhp khp dy hdy kdy xt (by omega) (by omega) xm (by omega) (by omega) z165 z166 z169 z170 z171 g174) q_cX12_427 q_dX12_ticksOn (by decide) rfl rfl hl.1 rfl (Nat.le_of_ble_eq_true rfl) dX12_tick_45 (fun y179 H locs f178 ry179 h180 hF hB => ?_)
          obtain ⟨z181, z182, g183⟩ := h180
          have z184 : q_is (q_z f178 sr 4) xm := Eq.trans (hF.z hsr (by rw [ksr]; rfl)) z166
          have z185 : q_is (q_z f178 sr 0) xc := Eq.trans (hF.z hsr (by rw [ksr]; rfl)) z167
          have z186 : q_is (q_z f178 mo 0) 0 := Eq.trans (hF.z hmo (by rw [kmo]; rfl)) z168
          have z187 : q_is (q_z f178 as 2) x177 := Eq.trans (hF.z has (by rw [kas]; rfl)) ex177
          have z188 : q_is (q_z f178 as 0) xc := Eq.trans (hF.z has (by rw [kas]; rfl)) z164
          have z189 : q_ir (q_r f178 mo 13) sr := Eq.trans (hF.r hmo (by rw [kmo]; rfl)) z169
          have z190 : q_ir (q_r f178 mo 24) hp := Eq.trans (hF.r hmo (by rw [kmo]; rfl)) z170
          have z191 : q_ir (q_r f178 mo 25) dy := Eq.trans (hF.r hmo (by rw [kmo]; rfl)) z171
          have z192 : q_ir (q_r f178 mo 15) as := Eq.trans (hF.r hmo (by rw [kmo]; rfl)) z172
          have z193 : q_ir (q_r f178 mo 17) pa := Eq.trans (hF.r hmo (by rw [kmo]; rfl)) z173
          have g194 : q_pk f178 mo pa := q_pk_tr g175 (hF.z hmo (by rw [kmo]; rfl)) (fun i9 => hF.z hpa (by rw [kpa]; rfl))
          have g195 : q_pc f178 mo pa xc := q_pc_tr g176 (hF.z hmo (by rw [kmo]; rfl)) (fun i9 => hF.z hpa (by rw [kpa]; rfl))
          refine q_cVi (As := [.int (q_i y179)]) (rest := []) cx hB (fun _ h => h) hN hmo kmo (by decide) rfl (r_kept l g hN hB.2.1 mo hmo kmo y179 (by omega) (by omega) as has kas pa hpa kpa x177 (by omega) (by omega) xc (by omega) (by omega) z187 z188 z192 z193 g194 g195) q_cX12_449 q_dX12_kept (by decide) rfl rfl hl.1 rfl (Nat.le_of_ble_eq_true rfl) dX12_tick_48 (fun y197 H locs f196 ry197 h198 hF hB => ?_)
          obtain ⟨qy197, g199, g200⟩ := h198
          have z201 : q_is (q_z f196 sr 4) xm := Eq.trans (hF.z hsr (by rw [ksr]; rfl)) z182
          have z202 : q_is (q_z f196 sr 0) xc := Eq.trans (hF.z hsr (by rw [ksr]; rfl)) z185
          have z203 : q_is (q_z f196 mo 0) 0 := Eq.trans (hF.z hmo (by rw [kmo]; rfl)) z186
          have z204 : q_is (q_z f196 as 2) x177 := Eq.trans (hF.z has (by rw [kas]; rfl)) z187
          have z205 : q_is (q_z f196 as 0) xc := Eq.trans (hF.z has (by rw [kas]; rfl)) z188
          have z206 : q_is (q_z f196 sr 3) (xt + a0) := Eq.trans (hF.z hsr (by rw [ksr]; rfl)) z181
          have z207 : q_ir (q_r f196 mo 13) sr := Eq.trans (hF.r hmo (by rw [kmo]; rfl)) z189
          have z208 : q_ir (q_r f196 mo 24) hp := Eq.trans (hF.r hmo (by rw [kmo]; rfl)) z190
          have z209 : q_ir (q_r f196 mo 25) dy := Eq.trans (hF.r hmo (by rw [kmo]; rfl)) z191
          have z210 : q_ir (q_r f196 mo 15) as := Eq.trans (hF.r hmo (by rw [kmo]; rfl)) z192
          have z211 : q_ir (q_r f196 mo 17) pa := Eq.trans (hF.r hmo (by rw [kmo]; rfl)) z193
          have g212 : q_gr f196 sr := q_gr_fr g183 (fun i9 _ => hF.z hsr (by rw [ksr]; rfl))
          refine q_iret cx hr hlk hB dX12_tick_51 ⟨by omega, by omega⟩ ?_
          exact ⟨(q_isl z206 (by omega)), (q_isu z206 (by omega)), (q_isl z201 (by omega)), (q_isu z201 (by omega)), z202, g212, g199, g200⟩
        · exact absurd c159 (by omega)
  · obtain ⟨rfl, qy117, t213⟩ := h120
    subst qy117
    refine lv_istore_n (lv' := [(2, .int (q_i 0)), (0, .ref mo), (1, .int (q_i a0))]) cx.1 cx.2.1 dX12_tick_4 rfl hl (by decide) rfl (fun ls hl => ?_)
    refine q_ald_n cx dX12_tick_5 rfl (lv_at hl 1 rfl) ?_
    refine q_ild_n cx dX12_tick_6 rfl (lv_at hl 0 rfl) ?_
    refine q_ild_n cx dX12_tick_7 rfl (lv_at hl 0 rfl) ?_
    refine q_ifeq (tgt := 29) cx ⟨by decide, by decide⟩ dX12_tick_8 (by decide) (fun c214 => ?_) (fun c214 => ?_)
    · refine q_iconst cx dX12_tick_29 ?_
      refine q_cVi (As := [.int (q_i 0), .int (q_i 0)]) (rest := []) cx hB (fun _ h => h) hN hmo kmo (by decide) rfl (r_goesBoth0 l g hN hB.2.1 mo hmo kmo 0 (by decide) (by decide) 0 (by decide) (by decide)) q_cX12_358 q_dX12_goesBoth (by decide) rfl rfl hl.1 rfl (Nat.le_of_ble_eq_true rfl) dX12_tick_30 (fun y216 H locs f215 ry216 h217 hF hB => ?_)
      obtain ⟨qy216, z218⟩ := h217
      have z219 : q_is (q_z f215 sr 3) xt := Eq.trans (hF.z hsr (by rw [ksr]; rfl)) hf0
      have z220 : q_is (q_z f215 sr 4) xm := Eq.trans (hF.z hsr (by rw [ksr]; rfl)) hf1
      have z221 : q_is (q_z f215 sr 0) xc := Eq.trans (hF.z hsr (by rw [ksr]; rfl)) hf2
      have z222 : q_ir (q_r f215 mo 13) sr := Eq.trans (hF.r hmo (by rw [kmo]; rfl)) hr0
      have z223 : q_ir (q_r f215 mo 24) hp := Eq.trans (hF.r hmo (by rw [kmo]; rfl)) hr1
      have z224 : q_ir (q_r f215 mo 25) dy := Eq.trans (hF.r hmo (by rw [kmo]; rfl)) hr2
      have z225 : q_ir (q_r f215 mo 15) as := Eq.trans (hF.r hmo (by rw [kmo]; rfl)) hr3
      have z226 : q_ir (q_r f215 mo 17) pa := Eq.trans (hF.r hmo (by rw [kmo]; rfl)) hr4
      have g227 : q_gr f215 sr := q_gr_fr hgr (fun i9 _ => hF.z hsr (by rw [ksr]; rfl))
      have g228 : q_pk f215 mo pa := q_pk_tr hpk (hF.z hmo (by rw [kmo]; rfl)) (fun i9 => hF.z hpa (by rw [kpa]; rfl))
      have g229 : q_pc f215 mo pa xc := q_pc_tr hpc (hF.z hmo (by rw [kmo]; rfl)) (fun i9 => hF.z hpa (by rw [kpa]; rfl))
      subst qy216
      refine q_ifne (tgt := 38) cx ⟨by decide, by decide⟩ dX12_tick_33 (by decide) (fun c230 => ?_) (fun c230 => ?_)
      · exact absurd c230 (by omega)
      · refine q_iconst cx dX12_tick_36 ?_
        refine q_iret cx hr hlk hB dX12_tick_37 ⟨by decide, by decide⟩ ?_
        exact ⟨(q_isl z219 (by omega)), (q_isu z219 (by omega)), (q_isl z220 (by omega)), (q_isu z220 (by omega)), z221, g227, g228, g229⟩
    · exact absurd c214 (by omega)
