set_option maxHeartbeats 4000000 in
set_option maxRecDepth 100000 in
theorem r_passesAll (l : Launch) (g : q_G) {K : Nat → Nat} {L : List Nat} (hN : L.Nodup) {f : Nat → va_E} (hT : q_Ty g K L f) (mo : Nat) (hmo : mo ∈ L) (kmo : K mo = 12) (a0 : Int) (la0 : 0 ≤ a0) (ua0 : a0 ≤ 1) (sr : Nat) (hsr : sr ∈ L) (ksr : K sr = 151) (hp : Nat) (hhp : hp ∈ L) (khp : K hp = 159) (hr0 : q_ir (q_r f mo 13) sr) (hr1 : q_ir (q_r f mo 24) hp) (hgr : q_gr f sr) : q_Ct l g K L yX12_passesAll cX12_passesAll 4 (some .int) 7 161 [.ref mo, .int (q_i a0)] f [(12, 27, 28), (151, 12, 87), (151, 172, 657), (159, 0, 9)] (q_Pi (fun (z : Int) (f1 : Nat → va_E) => q_gr f1 sr)) := by
  refine q_ofb (by decide +kernel) hN hT (Nat.le_of_ble_eq_true rfl) ?_
  intro p e s m below meth c ls cx hr hlk hB hl
  have hl : lv_has ls 4 [(0, .ref mo), (1, .int (q_i a0))] := hl
  have J4 : ∀ (n : Nat) (f4 : Nat → va_E) (v4_2 : Int) (lv4_2 : (-2147483648) ≤ v4_2) (uv4_2 : v4_2 ≤ 2147483647) (v4_3 : Int) (lv4_3 : 0 ≤ v4_3) (uv4_3 : v4_3 ≤ 61) (hq_mo_13 : q_ir (q_r f4 mo 13) sr) (hq_mo_24 : q_ir (q_r f4 mo 24) hp) (hgr4 : q_gr f4 sr) (hmu : (Int.toNat (2147483647 - v4_3)) < n) (H : Heap) (locs : List Loc) (hB : q_B g K L (fun q => q ∈ L) [(12, 27, 28), (151, 12, 87), (151, 172, 657), (159, 0, 9)] f f4 s H locs) (ls : Array Slot) (hl : lv_has ls 4 [(0, .ref mo), (1, .int (q_i a0)), (2, .int (q_i v4_2)), (3, .int (q_i v4_3))]), W p l e { frames := 7, cells := 0, slots := 0, locals := 161 } s m ([.ref mo, .int (q_i a0)] : List Value).toArray below meth c H locs 0 0 (MQ below (q_Q g K L [(12, 27, 28), (151, 12, 87), (151, 172, 657), (159, 0, 9)] f (q_Pi (fun (z : Int) (f1 : Nat → va_E) => q_gr f1 sr))) ([.ref mo, .int (q_i a0)] : List Value).toArray s 0 0 (fun q => q ∈ L)) (F0 m 4 ls []) := by
    intro n
    induction n with
    | zero =>
      intro f4 v4_2 lv4_2 uv4_2 v4_3 lv4_3 uv4_3 hq_mo_13 hq_mo_24 hgr4 hmu
      exact absurd hmu (Nat.not_lt_zero _)
    | succ n ih4 =>
      intro f4 v4_2 lv4_2 uv4_2 v4_3 lv4_3 uv4_3 hq_mo_13 hq_mo_24 hgr4 hmu H locs hB ls hl
      refine q_ild_n cx dX12_passesAll_4 rfl (lv_at hl 3 rfl) ?_
      refine q_ald_n cx dX12_passesAll_5 rfl (lv_at hl 0 rfl) ?_
      refine q_gX12_20 cx hB hmo kmo hq_mo_13 dX12_passesAll_6 (fun hb975 kb975 => ?_)
      refine q_iconst cx dX12_passesAll_9 ?_
      obtain ⟨x976, ex976⟩ : ∃ zz, q_is (q_z f4 sr (Int.toNat 4)) zz := ⟨_, q_isr _⟩
      refine q_sald cx hB hsr ksr (by decide) (by decide) ex976 dX12_passesAll_10 (fun rx976 => ?_)
      obtain ⟨lx976, ux976⟩ : 0 ≤ x976 ∧ x976 ≤ 61 := q_isb ex976 (q_gr_at hgr4 (by decide) rfl)
      refine q_icge (tgt := 50) cx ⟨by omega, by omega⟩ ⟨by omega, by omega⟩ dX12_passesAll_11 (by decide) (fun c978 => ?_) (fun c978 => ?_)
      · refine q_ild_n cx dX12_passesAll_50 rfl (lv_at hl 2 rfl) ?_
        refine q_iret cx hr hlk hB dX12_passesAll_51 ⟨by omega, by omega⟩ ?_
        exact hgr4
      · refine q_ald_n cx dX12_passesAll_14 rfl (lv_at hl 0 rfl) ?_
        refine q_ild_n cx dX12_passesAll_15 rfl (lv_at hl 3 rfl) ?_
        refine q_iconst cx dX12_passesAll_16 ?_
        refine q_cVi (As := [.int (q_i v4_3), .int (q_i 3)]) (rest := []) cx hB (fun _ h => h) hN hmo kmo (by decide) rfl (r_ofMessage3 l g hN hB.2.1 mo hmo kmo v4_3 (by omega) (by omega) 3 (by decide) (by decide) sr hsr ksr hq_mo_13 hgr4) q_cX12_308 q_dX12_ofMessage (by decide) rfl rfl hl.1 rfl (Nat.le_of_ble_eq_true rfl) dX12_passesAll_17 (fun y980 H locs f979 ry980 h981 hF hB => ?_)
        obtain ⟨rfl, ly980, uy980, t982⟩ := h981
        refine q_ifne (tgt := 44) cx ⟨by omega, by omega⟩ dX12_passesAll_20 (by decide) (fun c983 => ?_) (fun c983 => ?_)
        · refine q_iinc (lv' := [(3, .int (q_i (v4_3 + 1))), (0, .ref mo), (1, .int (q_i a0)), (2, .int (q_i v4_2))]) cx dX12_passesAll_44 hl (k := 3) rfl (by decide) rfl (fun ls hl => ?_)
          refine lv_goto (tgt := 4) cx.1 cx.2.1 dX12_passesAll_47 (by decide) ?_
          exact ih4 f4 v4_2 (by omega) (by omega) (v4_3 + 1) (by omega) (by omega) hq_mo_13 hq_mo_24 hgr4 (by omega) H locs hB ls (lv_sub hl [1, 2, 3, 0] rfl)
        · refine q_ald_n cx dX12_passesAll_23 rfl (lv_at hl 0 rfl) ?_
          refine q_ild_n cx dX12_passesAll_24 rfl (lv_at hl 3 rfl) ?_
          refine q_iconst cx dX12_passesAll_25 ?_
          refine q_cVi (As := [.int (q_i v4_3), .int (q_i 5)]) (rest := []) cx hB (fun _ h => h) hN hmo kmo (by decide) rfl (r_ofMessage5 l g hN hB.2.1 mo hmo kmo v4_3 (by omega) (by omega) 5 (by decide) (by decide) sr hsr ksr hq_mo_13 hgr4) q_cX12_308 q_dX12_ofMessage (by decide) rfl rfl hl.1 rfl (Nat.le_of_ble_eq_true rfl) dX12_passesAll_26 (fun y985 H locs f984 ry985 h986 hF hB => ?_)
          obtain ⟨rfl, ly985, uy985⟩ := h986
          refine q_ild_n cx dX12_passesAll_29 rfl (lv_at hl 1 rfl) ?_
          refine q_icne (tgt := 44) cx ⟨by omega, by omega⟩ ⟨by omega, by omega⟩ dX12_passesAll_30 (by decide) (fun c987 => ?_) (fun c987 => ?_)
          · refine q_iinc (lv' := [(3, .int (q_i (v4_3 + 1))), (0, .ref mo), (1, .int (q_i a0)), (2, .int (q_i v4_2))]) cx dX12_passesAll_44 hl (k := 3) rfl (by decide) rfl (fun ls hl => ?_)
            refine lv_goto (tgt := 4) cx.1 cx.2.1 dX12_passesAll_47 (by decide) ?_
            exact ih4 f4 v4_2 (by omega) (by omega) (v4_3 + 1) (by omega) (by omega) hq_mo_13 hq_mo_24 hgr4 (by omega) H locs hB ls (lv_sub hl [1, 2, 3, 0] rfl)
          · refine q_ild_n cx dX12_passesAll_33 rfl (lv_at hl 2 rfl) ?_
            refine q_ald_n cx dX12_passesAll_34 rfl (lv_at hl 0 rfl) ?_
            refine q_ild_n cx dX12_passesAll_35 rfl (lv_at hl 3 rfl) ?_
            refine q_cVi (As := [.int (q_i v4_3)]) (rest := [.int (q_i v4_2)]) cx hB (fun _ h => h) hN hmo kmo (by decide) rfl (r_passes l g hN hB.2.1 mo hmo kmo v4_3 (by omega) (by omega) sr hsr ksr hp hhp khp hq_mo_13 hq_mo_24 hgr4) q_cX12_323 q_dX12_passes (by decide) rfl rfl hl.1 rfl (Nat.le_of_ble_eq_true rfl) dX12_passesAll_36 (fun y989 H locs f988 ry989 h990 hF hB => ?_)
            obtain ⟨ly989, uy989, g991⟩ := h990
            have z992 : q_is (q_z f988 sr 4) x976 := Eq.trans (hF.z hsr (by rw [ksr]; rfl)) ex976
            have z993 : q_ir (q_r f988 mo 13) sr := Eq.trans (hF.r hmo (by rw [kmo]; rfl)) hq_mo_13
            have z994 : q_ir (q_r f988 mo 24) hp := Eq.trans (hF.r hmo (by rw [kmo]; rfl)) hq_mo_24
            by_cases c995 : y989 ≤ 0
            · refine q_cSi (As := [.int (q_i y989)]) (rest := [.int (q_i v4_2)]) cx hB (fun _ h => h) hN (r_truth0 l g hN hB.2.1 y989 (by omega) (by omega)) q_cX12_78 q_dX12_truth (by decide) rfl rfl hl.1 rfl (Nat.le_of_ble_eq_true rfl) dX12_passesAll_39 (fun y997 H locs f996 ry997 h998 hF hB => ?_)
              obtain ⟨rfl, qy997⟩ := h998
              subst qy997
              refine q_iadd cx dX12_passesAll_42 ?_
              refine lv_istore_n (lv' := [(2, .int (q_i (v4_2 + 0))), (0, .ref mo), (1, .int (q_i a0)), (3, .int (q_i v4_3))]) cx.1 cx.2.1 dX12_passesAll_43 rfl hl (by decide) rfl (fun ls hl => ?_)
              refine q_iinc (lv' := [(3, .int (q_i (v4_3 + 1))), (2, .int (q_i (v4_2 + 0))), (0, .ref mo), (1, .int (q_i a0))]) cx dX12_passesAll_44 hl (k := 3) rfl (by decide) rfl (fun ls hl => ?_)
              refine lv_goto (tgt := 4) cx.1 cx.2.1 dX12_passesAll_47 (by decide) ?_
              exact ih4 f988 (v4_2 + 0) (by omega) (by omega) (v4_3 + 1) (by omega) (by omega) z993 z994 g991 (by omega) H locs hB ls (lv_sub hl [2, 3, 1, 0] rfl)
            · refine q_cSi (As := [.int (q_i y989)]) (rest := [.int (q_i v4_2)]) cx hB (fun _ h => h) hN (r_truth1 l g hN hB.2.1 y989 (by omega) (by omega)) q_cX12_78 q_dX12_truth (by decide) rfl rfl hl.1 rfl (Nat.le_of_ble_eq_true rfl) dX12_passesAll_39 (fun y1000 H locs f999 ry1000 h1001 hF hB => ?_)
              obtain ⟨rfl, qy1000⟩ := h1001
              subst qy1000
              refine q_iadd cx dX12_passesAll_42 ?_
              refine q_any (fun y1002 ry1002 ey1002 => ?_)
              refine lv_istore_n (lv' := [(2, .int (q_i y1002)), (0, .ref mo), (1, .int (q_i a0)), (3, .int (q_i v4_3))]) cx.1 cx.2.1 dX12_passesAll_43 rfl hl (by decide) rfl (fun ls hl => ?_)
              refine q_iinc (lv' := [(3, .int (q_i (v4_3 + 1))), (2, .int (q_i y1002)), (0, .ref mo), (1, .int (q_i a0))]) cx dX12_passesAll_44 hl (k := 3) rfl (by decide) rfl (fun ls hl => ?_)
              refine lv_goto (tgt := 4) cx.1 cx.2.1 dX12_passesAll_47 (by decide) ?_
              exact ih4 f988 y1002 (by omega) (by omega) (v4_3 + 1) (by omega) (by omega) z993 z994 g991 (by omega) H locs hB ls (lv_sub hl [2, 3, 1, 0] rfl)
  obtain ⟨H, hH⟩ : ∃ H : Heap, H = s.heap := ⟨_, rfl⟩
  obtain ⟨locs, hlocs⟩ : ∃ z : List Loc, z = [] := ⟨_, rfl⟩
  rw [← hH, ← hlocs] at hB
  rw [← hH, ← hlocs]
  refine q_iconst cx dX12_passesAll_0 ?_
  refine lv_istore_n (lv' := [(2, .int (q_i 0)), (0, .ref mo), (1, .int (q_i a0))]) cx.1 cx.2.1 dX12_passesAll_1 rfl hl (by decide) rfl (fun ls hl => ?_)
  refine q_iconst cx dX12_passesAll_2 ?_
  refine lv_istore_n (lv' := [(3, .int (q_i 0)), (2, .int (q_i 0)), (0, .ref mo), (1, .int (q_i a0))]) cx.1 cx.2.1 dX12_passesAll_3 rfl hl (by decide) rfl (fun ls hl => ?_)
  exact J4 ((Int.toNat (2147483647 - 0)) + 1) f 0 (by decide) (by decide) 0 (by decide) (by decide) hr0 hr1 hgr (Nat.lt_succ_self _) H locs hB ls (lv_sub hl [2, 3, 1, 0] rfl)
set_option maxHeartbeats 4000000 in
set_option maxRecDepth 100000 in
theorem r_loses (l : Launch) (g : q_G) {K : Nat → Nat} {L : List Nat} (hN : L.Nodup) {f : Nat → va_E} (hT : q_Ty g K L f) (mo : Nat) (hmo : mo ∈ L) (kmo : K mo = 12) (sr : Nat) (hsr : sr ∈ L) (ksr : K sr = 151) (hr0 : q_ir (q_r f mo 13) sr) (hgr : q_gr f sr) : q_Ct l g K L yX12_loses cX12_loses 2 none 3 64 [.ref mo] f [(151, 173, 653)] (q_Pv (fun (f1 : Nat → va_E) => q_gr f1 sr)) := by
  refine q_ofb (by decide +kernel) hN hT (Nat.le_of_ble_eq_true rfl) ?_
  intro p e s m below meth c ls cx hr hlk hB hl
  have hl : lv_has ls 2 [(0, .ref mo)] := hl
  have J2 : ∀ (n : Nat) (f2 : Nat → va_E) (v2_1 : Int) (lv2_1 : 0 ≤ v2_1) (uv2_1 : v2_1 ≤ 61) (hq_mo_13 : q_ir (q_r f2 mo 13) sr) (hgr2 : q_gr f2 sr) (hmu : (Int.toNat (2147483647 - v2_1)) < n) (H : Heap) (locs : List Loc) (hB : q_B g K L (fun q => q ∈ L) [(151, 173, 653)] f f2 s H locs) (ls : Array Slot) (hl : lv_has ls 2 [(0, .ref mo), (1, .int (q_i v2_1))]), W p l e { frames := 3, cells := 0, slots := 0, locals := 64 } s m ([.ref mo] : List Value).toArray below meth c H locs 0 0 (MQ below (q_Q g K L [(151, 173, 653)] f (q_Pv (fun (f1 : Nat → va_E) => q_gr f1 sr))) ([.ref mo] : List Value).toArray s 0 0 (fun q => q ∈ L)) (F0 m 2 ls []) := by
    intro n
    induction n with
    | zero =>
      intro f2 v2_1 lv2_1 uv2_1 hq_mo_13 hgr2 hmu
      exact absurd hmu (Nat.not_lt_zero _)
    | succ n ih2 =>
      intro f2 v2_1 lv2_1 uv2_1 hq_mo_13 hgr2 hmu H locs hB ls hl
      refine q_ild_n cx dX12_loses_2 rfl (lv_at hl 1 rfl) ?_
      refine q_ald_n cx dX12_loses_3 rfl (lv_at hl 0 rfl) ?_
      refine q_gX12_20 cx hB hmo kmo hq_mo_13 dX12_loses_4 (fun hb484 kb484 => ?_)
      refine q_iconst cx dX12_loses_7 ?_
      obtain ⟨x485, ex485⟩ : ∃ zz, q_is (q_z f2 sr (Int.toNat 4)) zz := ⟨_, q_isr _⟩
      refine q_sald cx hB hsr ksr (by decide) (by decide) ex485 dX12_loses_8 (fun rx485 => ?_)
      obtain ⟨lx485, ux485⟩ : 0 ≤ x485 ∧ x485 ≤ 61 := q_isb ex485 (q_gr_at hgr2 (by decide) rfl)
      refine q_icge (tgt := 47) cx ⟨by omega, by omega⟩ ⟨by omega, by omega⟩ dX12_loses_9 (by decide) (fun c487 => ?_) (fun c487 => ?_)
      · refine q_vret cx hr hlk hB dX12_loses_47 ?_
        exact hgr2
      · refine q_ald_n cx dX12_loses_12 rfl (lv_at hl 0 rfl) ?_
        refine q_ild_n cx dX12_loses_13 rfl (lv_at hl 1 rfl) ?_
        refine q_iconst cx dX12_loses_14 ?_
        refine q_cVi (As := [.int (q_i v2_1), .int (q_i 3)]) (rest := []) cx hB (fun _ h => h) hN hmo kmo (by decide) rfl (r_ofMessage3 l g hN hB.2.1 mo hmo kmo v2_1 (by omega) (by omega) 3 (by decide) (by decide) sr hsr ksr hq_mo_13 hgr2) q_cX12_308 q_dX12_ofMessage (by decide) rfl rfl hl.1 rfl (Nat.le_of_ble_eq_true rfl) dX12_loses_15 (fun y489 H locs f488 ry489 h490 hF hB => ?_)
        obtain ⟨rfl, ly489, uy489, t491⟩ := h490
        refine q_ifne (tgt := 41) cx ⟨by omega, by omega⟩ dX12_loses_18 (by decide) (fun c492 => ?_) (fun c492 => ?_)
        · refine q_iinc (lv' := [(1, .int (q_i (v2_1 + 1))), (0, .ref mo)]) cx dX12_loses_41 hl (k := 1) rfl (by decide) rfl (fun ls hl => ?_)
          refine lv_goto (tgt := 2) cx.1 cx.2.1 dX12_loses_44 (by decide) ?_
          exact ih2 f2 (v2_1 + 1) (by omega) (by omega) hq_mo_13 hgr2 (by omega) H locs hB ls (lv_sub hl [1, 0] rfl)
        · refine q_ald_n cx dX12_loses_21 rfl (lv_at hl 0 rfl) ?_
          refine q_ald_n cx dX12_loses_22 rfl (lv_at hl 0 rfl) ?_
          refine q_ild_n cx dX12_loses_23 rfl (lv_at hl 1 rfl) ?_
          refine q_iconst cx dX12_loses_24 ?_
          refine q_cVi (As := [.int (q_i v2_1), .int (q_i 2)]) (rest := [.ref mo]) cx hB (fun _ h => h) hN hmo kmo (by decide) rfl (r_ofMessage2 l g hN hB.2.1 mo hmo kmo v2_1 (by omega) (by omega) 2 (by decide) (by decide) sr hsr ksr hq_mo_13 hgr2) q_cX12_308 q_dX12_ofMessage (by decide) rfl rfl hl.1 rfl (Nat.le_of_ble_eq_true rfl) dX12_loses_25 (fun y494 H locs f493 ry494 h495 hF hB => ?_)
          obtain ⟨rfl, ly494, uy494, t496⟩ := h495
          refine q_cVi (As := [.int (q_i y494)]) (rest := []) cx hB (fun _ h => h) hN hmo kmo (by decide) rfl (r_isOut l g hN hB.2.1 mo hmo kmo y494 (by omega) (by omega) sr hsr ksr hq_mo_13 hgr2) q_cX12_271 q_dX12_isOut (by decide) rfl rfl hl.1 rfl (Nat.le_of_ble_eq_true rfl) dX12_loses_28 (fun y498 H locs f497 ry498 h499 hF hB => ?_)
          obtain ⟨rfl, ly498, uy498⟩ := h499
          refine q_ifeq (tgt := 41) cx ⟨by omega, by omega⟩ dX12_loses_31 (by decide) (fun c500 => ?_) (fun c500 => ?_)
          · refine q_iinc (lv' := [(1, .int (q_i (v2_1 + 1))), (0, .ref mo)]) cx dX12_loses_41 hl (k := 1) rfl (by decide) rfl (fun ls hl => ?_)
            refine lv_goto (tgt := 2) cx.1 cx.2.1 dX12_loses_44 (by decide) ?_
            exact ih2 f2 (v2_1 + 1) (by omega) (by omega) hq_mo_13 hgr2 (by omega) H locs hB ls (lv_sub hl [1, 0] rfl)
          · refine q_ald_n cx dX12_loses_34 rfl (lv_at hl 0 rfl) ?_
            refine q_ild_n cx dX12_loses_35 rfl (lv_at hl 1 rfl) ?_
            refine q_iconst cx dX12_loses_36 ?_
            refine q_iconst cx dX12_loses_37 ?_
            refine q_cVv (As := [.int (q_i v2_1), .int (q_i 3), .int (q_i 2)]) (rest := []) cx hB (fun _ h => h) hN hmo kmo (by decide) rfl (r_setsMessage3 l g hN hB.2.1 mo hmo kmo v2_1 (by omega) (by omega) 3 (by decide) (by decide) 2 (by decide) (by decide) sr hsr ksr hq_mo_13 hgr2) q_cX12_320 q_dX12_setsMessage (by decide) rfl rfl hl.1 rfl (Nat.le_of_ble_eq_true rfl) dX12_loses_38 (fun H locs f501 h503 hF hB => ?_)
            have g504 := h503
            have z505 : q_is (q_z f501 sr 4) x485 := Eq.trans (hF.z hsr (by rw [ksr]; rfl)) ex485
            have z506 : q_ir (q_r f501 mo 13) sr := Eq.trans (hF.r hmo (by rw [kmo]; rfl)) hq_mo_13
            refine q_iinc (lv' := [(1, .int (q_i (v2_1 + 1))), (0, .ref mo)]) cx dX12_loses_41 hl (k := 1) rfl (by decide) rfl (fun ls hl => ?_)
            refine lv_goto (tgt := 2) cx.1 cx.2.1 dX12_loses_44 (by decide) ?_
            exact ih2 f501 (v2_1 + 1) (by omega) (by omega) z506 g504 (by omega) H locs hB ls (lv_sub hl [1, 0] rfl)
  obtain ⟨H, hH⟩ : ∃ H : Heap, H = s.heap := ⟨_, rfl⟩
  obtain ⟨locs, hlocs⟩ : ∃ z : List Loc, z = [] := ⟨_, rfl⟩
  rw [← hH, ← hlocs] at hB
  rw [← hH, ← hlocs]
  refine q_iconst cx dX12_loses_0 ?_
  refine lv_istore_n (lv' := [(1, .int (q_i 0)), (0, .ref mo)]) cx.1 cx.2.1 dX12_loses_1 rfl hl (by decide) rfl (fun ls hl => ?_)
  exact J2 ((Int.toNat (2147483647 - 0)) + 1) f 0 (by decide) (by decide) hr0 hgr (Nat.lt_succ_self _) H locs hB ls (lv_sub hl [1, 0] rfl)
set_option maxHeartbeats 4000000 in
set_option maxRecDepth 100000 in
theorem r_ticksOnce (l : Launch) (g : q_G) {K : Nat → Nat} {L : List Nat} (hN : L.Nodup) {f : Nat → va_E} (hT : q_Ty g K L f) (mo : Nat) (hmo : mo ∈ L) (kmo : K mo = 12) (sr : Nat) (hsr : sr ∈ L) (ksr : K sr = 151) (hp : Nat) (hhp : hp ∈ L) (khp : K hp = 159) (dy : Nat) (hdy : dy ∈ L) (kdy : K dy = 160) (xt : Int) (lxt : 0 ≤ xt) (uxt : xt ≤ 19999) (xm : Int) (lxm : 0 ≤ xm) (uxm : xm ≤ 61) (hf0 : q_is (q_z f sr 3) xt) (hf1 : q_is (q_z f sr 4) xm) (hr0 : q_ir (q_r f mo 13) sr) (hr1 : q_ir (q_r f mo 24) hp) (hr2 : q_ir (q_r f mo 25) dy) (hgr : q_gr f sr) : q_Ct l g K L yX12_ticksOnce cX12_ticksOnce 2 (some .int) 8 184 [.ref mo] f [(12, 26, 28), (151, 3, 3), (151, 9, 9), (151, 11, 87), (151, 92, 169), (151, 172, 657), (159, 0, 9), (160, 0, 9)] (q_Pi (fun (z : Int) (f1 : Nat → va_E) => q_is (q_z f1 sr 3) (xt + 1) ∧ q_is (q_z f1 sr 4) xm ∧ q_gr f1 sr)) := by
  refine q_ofb (by decide +kernel) hN hT (Nat.le_of_ble_eq_true rfl) ?_
  intro p e s m below meth c ls cx hr hlk hB hl
  have hl : lv_has ls 2 [(0, .ref mo)] := hl
  have J16 : ∀ (n : Nat) (f16 : Nat → va_E) (v16_1 : Int) (lv16_1 : 0 ≤ v16_1) (uv16_1 : v16_1 ≤ 16) (hj_sr_4 : q_is (q_z f16 sr 4) xm) (hj_sr_3 : q_is (q_z f16 sr 3) (xt + 1)) (hq_mo_13 : q_ir (q_r f16 mo 13) sr) (hq_mo_24 : q_ir (q_r f16 mo 24) hp) (hq_mo_25 : q_ir (q_r f16 mo 25) dy) (hgr16 : q_gr f16 sr) (hmu : (Int.toNat (2147483647 - v16_1)) < n) (H : Heap) (locs : List Loc) (hB : q_B g K L (fun q => q ∈ L) [(12, 26, 28), (151, 3, 3), (151, 9, 9), (151, 11, 87), (151, 92, 169), (151, 172, 657), (159, 0, 9), (160, 0, 9)] f f16 s H locs) (ls : Array Slot) (hl : lv_has ls 2 [(0, .ref mo), (1, .int (q_i v16_1))]), W p l e { frames := 8, cells := 0, slots := 0, locals := 184 } s m ([.ref mo] : List Value).toArray below meth c H locs 0 0 (MQ below (q_Q g K L [(12, 26, 28), (151, 3, 3), (151, 9, 9), (151, 11, 87), (151, 92, 169), (151, 172, 657), (159, 0, 9), (160, 0, 9)] f (q_Pi (fun (z : Int) (f1 : Nat → va_E) => q_is (q_z f1 sr 3) (xt + 1) ∧ q_is (q_z f1 sr 4) xm ∧ q_gr f1 sr))) ([.ref mo] : List Value).toArray s 0 0 (fun q => q ∈ L)) (F0 m 16 ls []) := by
    intro n
    induction n with
    | zero =>
      intro f16 v16_1 lv16_1 uv16_1 hj_sr_4 hj_sr_3 hq_mo_13 hq_mo_24 hq_mo_25 hgr16 hmu
      exact absurd hmu (Nat.not_lt_zero _)
    | succ n ih16 =>
      intro f16 v16_1 lv16_1 uv16_1 hj_sr_4 hj_sr_3 hq_mo_13 hq_mo_24 hq_mo_25 hgr16 hmu H locs hB ls hl
      refine q_ild_n cx dX12_ticksOnce_16 rfl (lv_at hl 1 rfl) ?_
      refine q_ald_n cx dX12_ticksOnce_17 rfl (lv_at hl 0 rfl) ?_
      refine q_gX12_20 cx hB hmo kmo hq_mo_13 dX12_ticksOnce_18 (fun hb916 kb916 => ?_)
      refine q_iconst cx dX12_ticksOnce_21 ?_
      obtain ⟨x917, ex917⟩ : ∃ zz, q_is (q_z f16 sr (Int.toNat 1)) zz := ⟨_, q_isr _⟩
      refine q_iald (lo := 0) (hi := 16) (n := 658) cx hB hsr ksr (by decide) rfl rfl (by decide) (by decide) (by decide) rfl ex917 dX12_ticksOnce_22 (fun lb918 ub918 => ?_)
      refine q_icge (tgt := 37) cx ⟨by omega, by omega⟩ ⟨by omega, by omega⟩ dX12_ticksOnce_23 (by decide) (fun c919 => ?_) (fun c919 => ?_)
      · refine q_ald_n cx dX12_ticksOnce_37 rfl (lv_at hl 0 rfl) ?_
        refine q_iconst cx dX12_ticksOnce_38 ?_
        refine q_pX12_314 cx hB hmo kmo ⟨by decide, by decide⟩ (by decide) (by decide) rfl dX12_ticksOnce_39 (fun H locs f920 ef920 z921 hB => ?_)
        have z922 : q_is (q_z f920 sr 4) xm := by rw [ef920, q_setz (Or.inr (by decide))]; exact hj_sr_4
        have z923 : q_is (q_z f920 sr 3) (xt + 1) := by rw [ef920, q_setz (Or.inr (by decide))]; exact hj_sr_3
        have z924 : q_is (q_z f920 sr 1) x917 := by rw [ef920, q_setz (Or.inr (by decide))]; exact ex917
        have z925 : q_ir (q_r f920 mo 13) sr := by rw [ef920, q_setr (Or.inr (by decide))]; exact hq_mo_13
        have z926 : q_ir (q_r f920 mo 24) hp := by rw [ef920, q_setr (Or.inr (by decide))]; exact hq_mo_24
        have z927 : q_ir (q_r f920 mo 25) dy := by rw [ef920, q_setr (Or.inr (by decide))]; exact hq_mo_25
        have g928 : q_gr f920 sr := q_gr_ne hgr16 ef920 (fun q => q_kne (k := 151) (k2 := 12) (by decide) ksr kmo q)
        refine q_ald_n cx dX12_ticksOnce_42 rfl (lv_at hl 0 rfl) ?_
        refine q_iconst cx dX12_ticksOnce_43 ?_
        refine q_pX12_317 cx hB hmo kmo ⟨by decide, by decide⟩ (by decide) (by decide) rfl dX12_ticksOnce_44 (fun H locs f929 ef929 z930 hB => ?_)
        have z931 : q_is (q_z f929 sr 4) xm := by rw [ef929, q_setz (Or.inr (by decide))]; exact z922
        have z932 : q_is (q_z f929 sr 3) (xt + 1) := by rw [ef929, q_setz (Or.inr (by decide))]; exact z923
        have z933 : q_is (q_z f929 sr 1) x917 := by rw [ef929, q_setz (Or.inr (by decide))]; exact z924
        have z934 : q_is (q_z f929 mo 27) 0 := by rw [ef929, q_setz (Or.inr (by decide))]; exact z921
        have z935 : q_ir (q_r f929 mo 13) sr := by rw [ef929, q_setr (Or.inr (by decide))]; exact z925
        have z936 : q_ir (q_r f929 mo 24) hp := by rw [ef929, q_setr (Or.inr (by decide))]; exact z926
        have z937 : q_ir (q_r f929 mo 25) dy := by rw [ef929, q_setr (Or.inr (by decide))]; exact z927
        have g938 : q_gr f929 sr := q_gr_ne g928 ef929 (fun q => q_kne (k := 151) (k2 := 12) (by decide) ksr kmo q)
        refine q_ald_n cx dX12_ticksOnce_47 rfl (lv_at hl 0 rfl) ?_
        refine q_iconst cx dX12_ticksOnce_48 ?_
        refine q_cVi (As := [.int (q_i 1)]) (rest := []) cx hB (fun _ h => h) hN hmo kmo (by decide) rfl (r_passesAll l g hN hB.2.1 mo hmo kmo 1 (by decide) (by decide) sr hsr ksr hp hhp khp z935 z936 g938) q_cX12_332 q_dX12_passesAll (by decide) rfl rfl hl.1 rfl (Nat.le_of_ble_eq_true rfl) dX12_ticksOnce_49 (fun y940 H locs f939 ry940 h941 hF hB => ?_)
        have g942 := h941
        have z943 : q_is (q_z f939 sr 4) xm := Eq.trans (hF.z hsr (by rw [ksr]; rfl)) z931
        have z944 : q_is (q_z f939 sr 3) (xt + 1) := Eq.trans (hF.z hsr (by rw [ksr]; rfl)) z932
        have z945 : q_is (q_z f939 sr 1) x917 := Eq.trans (hF.z hsr (by rw [ksr]; rfl)) z933
        have z946 : q_ir (q_r f939 mo 13) sr := Eq.trans (hF.r hmo (by rw [kmo]; rfl)) z935
        have z947 : q_ir (q_r f939 mo 24) hp := Eq.trans (hF.r hmo (by rw [kmo]; rfl)) z936
        have z948 : q_ir (q_r f939 mo 25) dy := Eq.trans (hF.r hmo (by rw [kmo]; rfl)) z937
        refine lv_istore_n (lv' := [(1, .int (q_i y940)), (0, .ref mo)]) cx.1 cx.2.1 dX12_ticksOnce_52 rfl hl (by decide) rfl (fun ls hl => ?_)
        refine q_ild_n cx dX12_ticksOnce_53 rfl (lv_at hl 0 rfl) ?_
        refine q_ald_n cx dX12_ticksOnce_54 rfl (lv_at hl 1 rfl) ?_
        refine q_iconst cx dX12_ticksOnce_55 ?_
        refine q_cVi (As := [.int (q_i 0)]) (rest := [.int (q_i y940)]) cx hB (fun _ h => h) hN hmo kmo (by decide) rfl (r_passesAll l g hN hB.2.1 mo hmo kmo 0 (by decide) (by decide) sr hsr ksr hp hhp khp z946 z947 g942) q_cX12_332 q_dX12_passesAll (by decide) rfl rfl hl.1 rfl (Nat.le_of_ble_eq_true rfl) dX12_ticksOnce_56 (fun y950 H locs f949 ry950 h951 hF hB => ?_)
        have g952 := h951
        have z953 : q_is (q_z f949 sr 4) xm := Eq.trans (hF.z hsr (by rw [ksr]; rfl)) z943
        have z954 : q_is (q_z f949 sr 3) (xt + 1) := Eq.trans (hF.z hsr (by rw [ksr]; rfl)) z944
        have z955 : q_is (q_z f949 sr 1) x917 := Eq.trans (hF.z hsr (by rw [ksr]; rfl)) z945
        have z956 : q_ir (q_r f949 mo 13) sr := Eq.trans (hF.r hmo (by rw [kmo]; rfl)) z946
        have z957 : q_ir (q_r f949 mo 24) hp := Eq.trans (hF.r hmo (by rw [kmo]; rfl)) z947
        have z958 : q_ir (q_r f949 mo 25) dy := Eq.trans (hF.r hmo (by rw [kmo]; rfl)) z948
        refine q_iadd cx dX12_ticksOnce_59 ?_
        refine q_any (fun y959 ry959 ey959 => ?_)
        refine lv_istore_n (lv' := [(1, .int (q_i y959)), (0, .ref mo)]) cx.1 cx.2.1 dX12_ticksOnce_60 rfl hl (by decide) rfl (fun ls hl => ?_)
        refine q_ald_n cx dX12_ticksOnce_61 rfl (lv_at hl 1 rfl) ?_
        refine q_cVv (As := []) (rest := []) cx hB (fun _ h => h) hN hmo kmo (by decide) rfl (r_loses l g hN hB.2.1 mo hmo kmo sr hsr ksr z956 g952) q_cX12_335 q_dX12_loses (by decide) rfl rfl hl.1 rfl (Nat.le_of_ble_eq_true rfl) dX12_ticksOnce_62 (fun H locs f960 h962 hF hB => ?_)
        have g963 := h962
        have z964 : q_is (q_z f960 sr 4) xm := Eq.trans (hF.z hsr (by rw [ksr]; rfl)) z953
        have z965 : q_is (q_z f960 sr 3) (xt + 1) := Eq.trans (hF.z hsr (by rw [ksr]; rfl)) z954
        have z966 : q_is (q_z f960 sr 1) x917 := Eq.trans (hF.z hsr (by rw [ksr]; rfl)) z955
        have z967 : q_ir (q_r f960 mo 13) sr := Eq.trans (hF.r hmo (by rw [kmo]; rfl)) z956
        have z968 : q_ir (q_r f960 mo 24) hp := Eq.trans (hF.r hmo (by rw [kmo]; rfl)) z957
        have z969 : q_ir (q_r f960 mo 25) dy := Eq.trans (hF.r hmo (by rw [kmo]; rfl)) z958
        refine q_ild_n cx dX12_ticksOnce_65 rfl (lv_at hl 0 rfl) ?_
        refine q_iret cx hr hlk hB dX12_ticksOnce_66 ⟨by omega, by omega⟩ ?_
        exact ⟨z965, z964, g963⟩
      · refine q_ald_n cx dX12_ticksOnce_26 rfl (lv_at hl 0 rfl) ?_
        refine q_ild_n cx dX12_ticksOnce_27 rfl (lv_at hl 1 rfl) ?_
        refine q_cVv (As := [.int (q_i v16_1)]) (rest := []) cx hB (fun _ h => h) hN hmo kmo (by decide) rfl (r_looksAt l g hN hB.2.1 mo hmo kmo v16_1 (by omega) (by omega) sr hsr ksr dy hdy kdy hq_mo_13 hq_mo_25 hgr16) q_cX12_329 q_dX12_looksAt (by decide) rfl rfl hl.1 rfl (Nat.le_of_ble_eq_true rfl) dX12_ticksOnce_28 (fun H locs f970 h972 hF hB => ?_)
        have g973 := h972
        have z974 : q_is (q_z f970 sr 4) xm := Eq.trans (hF.z hsr (by rw [ksr]; rfl)) hj_sr_4
        have z975 : q_is (q_z f970 sr 3) (xt + 1) := Eq.trans (hF.z hsr (by rw [ksr]; rfl)) hj_sr_3
        have z976 : q_is (q_z f970 sr 1) x917 := Eq.trans (hF.z hsr (by rw [ksr]; rfl)) ex917
        have z977 : q_ir (q_r f970 mo 13) sr := Eq.trans (hF.r hmo (by rw [kmo]; rfl)) hq_mo_13
        have z978 : q_ir (q_r f970 mo 24) hp := Eq.trans (hF.r hmo (by rw [kmo]; rfl)) hq_mo_24
        have z979 : q_ir (q_r f970 mo 25) dy := Eq.trans (hF.r hmo (by rw [kmo]; rfl)) hq_mo_25
        refine q_iinc (lv' := [(1, .int (q_i (v16_1 + 1))), (0, .ref mo)]) cx dX12_ticksOnce_31 hl (k := 1) rfl (by decide) rfl (fun ls hl => ?_)
        refine lv_goto (tgt := 16) cx.1 cx.2.1 dX12_ticksOnce_34 (by decide) ?_
        exact ih16 f970 (v16_1 + 1) (by omega) (by omega) z974 z975 z977 z978 z979 g973 (by omega) H locs hB ls (lv_sub hl [1, 0] rfl)
  obtain ⟨H, hH⟩ : ∃ H : Heap, H = s.heap := ⟨_, rfl⟩
  obtain ⟨locs, hlocs⟩ : ∃ z : List Loc, z = [] := ⟨_, rfl⟩
  rw [← hH, ← hlocs] at hB
  rw [← hH, ← hlocs]
  refine q_ald_n cx dX12_ticksOnce_0 rfl (lv_at hl 0 rfl) ?_
  refine q_gX12_20 cx hB hmo kmo hr0 dX12_ticksOnce_1 (fun hb980 kb980 => ?_)
  refine q_iconst cx dX12_ticksOnce_4 ?_
  refine lv_dup2_11 cx.1 cx.2.1 dX12_ticksOnce_5 rfl rfl ?_
  refine q_iald (lo := (-2147483648)) (hi := 2147483647) (n := 658) cx hB hsr ksr (by decide) rfl rfl (by decide) (by decide) (by decide) rfl hf0 dX12_ticksOnce_6 (fun lb982 ub982 => ?_)
  refine q_iconst cx dX12_ticksOnce_7 ?_
  refine q_iadd cx dX12_ticksOnce_8 ?_
  refine q_sast cx hB hsr ksr (by decide) (by decide) ⟨by omega, by omega⟩ rfl dX12_ticksOnce_9 (fun H locs f983 ef983 z984 hB => ?_)
  have z985 : q_is (q_z f983 sr 4) xm := by rw [ef983, q_setz (Or.inr (by decide))]; exact hf1
  have z986 : q_ir (q_r f983 mo 13) sr := by rw [ef983, q_setr (Or.inr (by decide))]; exact hr0
  have z987 : q_ir (q_r f983 mo 24) hp := by rw [ef983, q_setr (Or.inr (by decide))]; exact hr1
  have z988 : q_ir (q_r f983 mo 25) dy := by rw [ef983, q_setr (Or.inr (by decide))]; exact hr2
  have g989 : q_gr f983 sr := q_gr_put hgr ef983 z984 rfl (by omega) (by omega)
  refine q_ald_n cx dX12_ticksOnce_10 rfl (lv_at hl 0 rfl) ?_
  refine q_cVv (As := []) (rest := []) cx hB (fun _ h => h) hN hmo kmo (by decide) rfl (r_wakes l g hN hB.2.1 mo hmo kmo sr hsr ksr dy hdy kdy z986 z988 g989) q_cX12_326 q_dX12_wakes (by decide) rfl rfl hl.1 rfl (Nat.le_of_ble_eq_true rfl) dX12_ticksOnce_11 (fun H locs f990 h992 hF hB => ?_)
  have g993 := h992
  have z994 : q_is (q_z f990 sr 4) xm := Eq.trans (hF.z hsr (by rw [ksr]; rfl)) z985
  have z995 : q_is (q_z f990 sr 3) (xt + 1) := Eq.trans (hF.z hsr (by rw [ksr]; rfl)) z984
  have z996 : q_ir (q_r f990 mo 13) sr := Eq.trans (hF.r hmo (by rw [kmo]; rfl)) z986
  have z997 : q_ir (q_r f990 mo 24) hp := Eq.trans (hF.r hmo (by rw [kmo]; rfl)) z987
  have z998 : q_ir (q_r f990 mo 25) dy := Eq.trans (hF.r hmo (by rw [kmo]; rfl)) z988
  refine q_iconst cx dX12_ticksOnce_14 ?_
  refine lv_istore_n (lv' := [(1, .int (q_i 0)), (0, .ref mo)]) cx.1 cx.2.1 dX12_ticksOnce_15 rfl hl (by decide) rfl (fun ls hl => ?_)
  exact J16 ((Int.toNat (2147483647 - 0)) + 1) f990 0 (by decide) (by decide) z994 z995 z996 z997 z998 g993 (Nat.lt_succ_self _) H locs hB ls (lv_sub hl [1, 0] rfl)
set_option maxHeartbeats 4000000 in
set_option maxRecDepth 100000 in
theorem r_ticksOn (l : Launch) (g : q_G) {K : Nat → Nat} {L : List Nat} (hN : L.Nodup) {f : Nat → va_E} (hT : q_Ty g K L f) (mo : Nat) (hmo : mo ∈ L) (kmo : K mo = 12) (a0 : Int) (la0 : 0 ≤ a0) (ua0 : a0 ≤ 200) (sr : Nat) (hsr : sr ∈ L) (ksr : K sr = 151) (hp : Nat) (hhp : hp ∈ L) (khp : K hp = 159) (dy : Nat) (hdy : dy ∈ L) (kdy : K dy = 160) (xt : Int) (lxt : 0 ≤ xt) (uxt : xt ≤ 9999) (xm : Int) (lxm : 0 ≤ xm) (uxm : xm ≤ 61) (hf0 : q_is (q_z f sr 3) xt) (hf1 : q_is (q_z f sr 4) xm) (hr0 : q_ir (q_r f mo 13) sr) (hr1 : q_ir (q_r f mo 24) hp) (hr2 : q_ir (q_r f mo 25) dy) (hgr : q_gr f sr) : q_Ct l g K L yX12_ticksOn cX12_ticksOn 4 (some .int) 9 205 [.ref mo, .int (q_i a0)] f [(12, 26, 28), (151, 3, 3), (151, 9, 9), (151, 11, 87), (151, 92, 169), (151, 172, 657), (159, 0, 9), (160, 0, 9)] (q_Pi (fun (z : Int) (f1 : Nat → va_E) => q_is (q_z f1 sr 3) (xt + a0) ∧ q_is (q_z f1 sr 4) xm ∧ q_gr f1 sr)) := by
  refine q_ofb (by decide +kernel) hN hT (Nat.le_of_ble_eq_true rfl) ?_
  intro p e s m below meth c ls cx hr hlk hB hl
  have hl : lv_has ls 4 [(0, .ref mo), (1, .int (q_i a0))] := hl
  have J4 : ∀ (n : Nat) (f4 : Nat → va_E) (v4_2 : Int) (lv4_2 : (-2147483648) ≤ v4_2) (uv4_2 : v4_2 ≤ 2147483647) (v4_3 : Int) (lv4_3 : 0 ≤ v4_3) (uv4_3 : v4_3 ≤ 200) (w4_sr_4 : Int) (lw4_sr_4 : 0 ≤ w4_sr_4) (uw4_sr_4 : w4_sr_4 ≤ 61) (w4_sr_3 : Int) (lw4_sr_3 : 0 ≤ w4_sr_3) (uw4_sr_3 : w4_sr_3 ≤ 10199) (hj_sr_4 : q_is (q_z f4 sr 4) w4_sr_4) (hj_sr_3 : q_is (q_z f4 sr 3) w4_sr_3) (hq_mo_13 : q_ir (q_r f4 mo 13) sr) (hq_mo_24 : q_ir (q_r f4 mo 24) hp) (hq_mo_25 : q_ir (q_r f4 mo 25) dy) (hgr4 : q_gr f4 sr) (hrl4_0 : 0 ≤ 1 * w4_sr_3 + -1 * xt + -1 * v4_3 + 0 ∧ 1 * w4_sr_3 + -1 * xt + -1 * v4_3 + 0 ≤ 0) (hrl4_1 : 1 * v4_3 + -1 * a0 + 0 ≤ 0) (hrl4_2 : 0 ≤ 1 * w4_sr_4 + -1 * xm + 0 ∧ 1 * w4_sr_4 + -1 * xm + 0 ≤ 0) (hmu : (Int.toNat (2147483647 - v4_3)) < n) (H : Heap) (locs : List Loc) (hB : q_B g K L (fun q => q ∈ L) [(12, 26, 28), (151, 3, 3), (151, 9, 9), (151, 11, 87), (151, 92, 169), (151, 172, 657), (159, 0, 9), (160, 0, 9)] f f4 s H locs) (ls : Array Slot) (hl : lv_has ls 4 [(0, .ref mo), (1, .int (q_i a0)), (2, .int (q_i v4_2)), (3, .int (q_i v4_3))]), W p l e { frames := 9, cells := 0, slots := 0, locals := 205 } s m ([.ref mo, .int (q_i a0)] : List Value).toArray below meth c H locs 0 0 (MQ below (q_Q g K L [(12, 26, 28), (151, 3, 3), (151, 9, 9), (151, 11, 87), (151, 92, 169), (151, 172, 657), (159, 0, 9), (160, 0, 9)] f (q_Pi (fun (z : Int) (f1 : Nat → va_E) => q_is (q_z f1 sr 3) (xt + a0) ∧ q_is (q_z f1 sr 4) xm ∧ q_gr f1 sr))) ([.ref mo, .int (q_i a0)] : List Value).toArray s 0 0 (fun q => q ∈ L)) (F0 m 4 ls []) := by
    intro n
    induction n with
    | zero =>
      intro f4 v4_2 lv4_2 uv4_2 v4_3 lv4_3 uv4_3 w4_sr_4 lw4_sr_4 uw4_sr_4 w4_sr_3 lw4_sr_3 uw4_sr_3 hj_sr_4 hj_sr_3 hq_mo_13 hq_mo_24 hq_mo_25 hgr4 hrl4_0 hrl4_1 hrl4_2 hmu
      exact absurd hmu (Nat.not_lt_zero _)
    | succ n ih4 =>
      intro f4 v4_2 lv4_2 uv4_2 v4_3 lv4_3 uv4_3 w4_sr_4 lw4_sr_4 uw4_sr_4 w4_sr_3 lw4_sr_3 uw4_sr_3 hj_sr_4 hj_sr_3 hq_mo_13 hq_mo_24 hq_mo_25 hgr4 hrl4_0 hrl4_1 hrl4_2 hmu H locs hB ls hl
      refine q_ild_n cx dX12_ticksOn_4 rfl (lv_at hl 3 rfl) ?_
      refine q_ild_n cx dX12_ticksOn_5 rfl (lv_at hl 1 rfl) ?_
      refine q_icge (tgt := 22) cx ⟨by omega, by omega⟩ ⟨by omega, by omega⟩ dX12_ticksOn_6 (by decide) (fun c24 => ?_) (fun c24 => ?_)
      · refine q_ild_n cx dX12_ticksOn_22 rfl (lv_at hl 2 rfl) ?_
        refine q_iret cx hr hlk hB dX12_ticksOn_23 ⟨by omega, by omega⟩ ?_
        exact ⟨(Eq.trans hj_sr_3 (by omega)), (Eq.trans hj_sr_4 (by omega)), hgr4⟩
      · refine q_ild_n cx dX12_ticksOn_9 rfl (lv_at hl 2 rfl) ?_
        refine q_ald_n cx dX12_ticksOn_10 rfl (lv_at hl 0 rfl) ?_
        refine q_cVi (As := []) (rest := [.int (q_i v4_2)]) cx hB (fun _ h => h) hN hmo kmo (by decide) rfl (r_ticksOnce l g hN hB.2.1 mo hmo kmo sr hsr ksr hp hhp khp dy hdy kdy w4_sr_3 (by omega) (by omega) w4_sr_4 (by omega) (by omega) hj_sr_3 hj_sr_4 hq_mo_13 hq_mo_24 hq_mo_25 hgr4) q_cX12_338 q_dX12_ticksOnce (by decide) rfl rfl hl.1 rfl (Nat.le_of_ble_eq_true rfl) dX12_ticksOn_11 (fun y26 H locs f25 ry26 h27 hF hB => ?_)
        obtain ⟨z28, z29, g30⟩ := h27
        have z31 : q_is (q_z f25 sr 4) w4_sr_4 := Eq.trans (hF.z hsr (by rw [ksr]; rfl)) hj_sr_4
        have z32 : q_ir (q_r f25 mo 13) sr := Eq.trans (hF.r hmo (by rw [kmo]; rfl)) hq_mo_13
        have z33 : q_ir (q_r f25 mo 24) hp := Eq.trans (hF.r hmo (by rw [kmo]; rfl)) hq_mo_24
        have z34 : q_ir (q_r f25 mo 25) dy := Eq.trans (hF.r hmo (by rw [kmo]; rfl)) hq_mo_25
        refine q_iadd cx dX12_ticksOn_14 ?_
        refine q_any (fun y35 ry35 ey35 => ?_)
        refine lv_istore_n (lv' := [(2, .int (q_i y35)), (0, .ref mo), (1, .int (q_i a0)), (3, .int (q_i v4_3))]) cx.1 cx.2.1 dX12_ticksOn_15 rfl hl (by decide) rfl (fun ls hl => ?_)
        refine q_iinc (lv' := [(3, .int (q_i (v4_3 + 1))), (2, .int (q_i y35)), (0, .ref mo), (1, .int (q_i a0))]) cx dX12_ticksOn_16 hl (k := 3) rfl (by decide) rfl (fun ls hl => ?_)
        refine lv_goto (tgt := 4) cx.1 cx.2.1 dX12_ticksOn_19 (by decide) ?_
        exact ih4 f25 y35 (by omega) (by omega) (v4_3 + 1) (by omega) (by omega) w4_sr_4 (by omega) (by omega) (w4_sr_3 + 1) (by omega) (by omega) z29 z28 z32 z33 z34 g30 (by omega) (by omega) (by omega) (by omega) H locs hB ls (lv_sub hl [2, 3, 1, 0] rfl)
  obtain ⟨H, hH⟩ : ∃ H : Heap, H = s.heap := ⟨_, rfl⟩
  obtain ⟨locs, hlocs⟩ : ∃ z : List Loc, z = [] := ⟨_, rfl⟩
  rw [← hH, ← hlocs] at hB
  rw [← hH, ← hlocs]
  refine q_iconst cx dX12_ticksOn_0 ?_
  refine lv_istore_n (lv' := [(2, .int (q_i 0)), (0, .ref mo), (1, .int (q_i a0))]) cx.1 cx.2.1 dX12_ticksOn_1 rfl hl (by decide) rfl (fun ls hl => ?_)
  refine q_iconst cx dX12_ticksOn_2 ?_
  refine lv_istore_n (lv' := [(3, .int (q_i 0)), (2, .int (q_i 0)), (0, .ref mo), (1, .int (q_i a0))]) cx.1 cx.2.1 dX12_ticksOn_3 rfl hl (by decide) rfl (fun ls hl => ?_)
  exact J4 ((Int.toNat (2147483647 - 0)) + 1) f 0 (by decide) (by decide) 0 (by decide) (by decide) xm (by omega) (by omega) xt (by omega) (by omega) hf1 hf0 hr0 hr1 hr2 hgr (by omega) (by omega) (by omega) (Nat.lt_succ_self _) H locs hB ls (lv_sub hl [2, 3, 1, 0] rfl)
