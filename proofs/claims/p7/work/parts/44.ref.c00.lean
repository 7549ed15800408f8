set_option maxHeartbeats 4000000 in
set_option maxRecDepth 100000 in
theorem r_isNode (l : Launch) (g : q_G) {K : Nat → Nat} {L : List Nat} (hN : L.Nodup) {f : Nat → va_E} (hT : q_Ty g K L f) (mo : Nat) (hmo : mo ∈ L) (kmo : K mo = 12) (a0 : Int) (la0 : (-2147483648) ≤ a0) (ua0 : a0 ≤ 2147483647) (sr : Nat) (hsr : sr ∈ L) (ksr : K sr = 151) (hr0 : q_ir (q_r f mo 13) sr) : q_Ct l g K L yX12_isNode cX12_isNode 2 (some .boolean) 1 25 [.ref mo, .int (q_i a0)] f [] (q_Pi (fun (z : Int) (f1 : Nat → va_E) => (f = f1 ∧ z = 1 ∧ (0 ≤ a0) ∧ (a0 ≤ 9)) ∨ (f = f1 ∧ z = 0))) := by
  refine q_ofb (by decide +kernel) hN hT (Nat.le_of_ble_eq_true rfl) ?_
  intro p e s m below meth c ls cx hr hlk hB hl
  have hl : lv_has ls 2 [(0, .ref mo), (1, .int (q_i a0))] := hl
  obtain ⟨H, hH⟩ : ∃ H : Heap, H = s.heap := ⟨_, rfl⟩
  obtain ⟨locs, hlocs⟩ : ∃ z : List Loc, z = [] := ⟨_, rfl⟩
  rw [← hH, ← hlocs] at hB
  rw [← hH, ← hlocs]
  refine q_ild_n cx dX12_isNode_0 rfl (lv_at hl 1 rfl) ?_
  refine q_i2l cx ⟨by omega, by omega⟩ dX12_isNode_1 ?_
  refine q_lconst (z := 0) cx (by decide) dX12_isNode_2 ?_
  refine q_ald_n cx dX12_isNode_3 rfl (lv_at hl 0 rfl) ?_
  refine q_gX12_20 cx hB hmo kmo hr0 dX12_isNode_4 (fun hb12 kb12 => ?_)
  refine q_iconst cx dX12_isNode_7 ?_
  obtain ⟨x13, ex13⟩ : ∃ zz, q_is (q_z f sr (Int.toNat 0)) zz := ⟨_, q_isr _⟩
  refine q_iald (lo := 0) (hi := 10) (n := 658) cx hB hsr ksr (by decide) rfl rfl (by decide) (by decide) (by decide) rfl ex13 dX12_isNode_8 (fun lb14 ub14 => ?_)
  refine q_iconst cx dX12_isNode_9 ?_
  refine q_isub cx dX12_isNode_10 ?_
  refine q_i2l cx ⟨by omega, by omega⟩ dX12_isNode_11 ?_
  refine q_cSi (As := [.long (q_l a0), .long (q_l 0), .long (q_l (x13 - 1))]) (rest := []) cx hB (fun _ h => h) hN (r_isIn l g hN hB.2.1 a0 (by omega) (by omega) 0 (by decide) (by decide) (x13 - 1) (by omega) (by omega)) q_cX12_93 q_dX12_isIn (by decide) rfl rfl hl.1 rfl (Nat.le_of_ble_eq_true rfl) dX12_isNode_12 (fun y16 H locs f15 ry16 h17 hF hB => ?_)
  rcases h17 with h18 | h19
  · obtain ⟨rfl, qy16, t20, t21⟩ := h18
    subst qy16
    refine q_zret cx hr hlk hB dX12_isNode_15 (by decide) (by decide) ?_
    exact (Or.inl ⟨rfl, rfl, (by omega), (by omega)⟩)
  · obtain ⟨rfl, qy16, t22⟩ := h19
    subst qy16
    refine q_zret cx hr hlk hB dX12_isNode_15 (by decide) (by decide) ?_
    exact (Or.inr ⟨rfl, rfl⟩)
set_option maxHeartbeats 4000000 in
set_option maxRecDepth 100000 in
theorem r_isMessage (l : Launch) (g : q_G) {K : Nat → Nat} {L : List Nat} (hN : L.Nodup) {f : Nat → va_E} (hT : q_Ty g K L f) (mo : Nat) (hmo : mo ∈ L) (kmo : K mo = 12) (a0 : Int) (la0 : (-2147483648) ≤ a0) (ua0 : a0 ≤ 2147483647) (sr : Nat) (hsr : sr ∈ L) (ksr : K sr = 151) (xm : Int) (lxm : 0 ≤ xm) (uxm : xm ≤ 60) (hf0 : q_is (q_z f sr 4) xm) (hr0 : q_ir (q_r f mo 13) sr) (hgr : q_gr f sr) : q_Ct l g K L yX12_isMessage cX12_isMessage 2 (some .boolean) 1 25 [.ref mo, .int (q_i a0)] f [] (q_Pi (fun (z : Int) (f1 : Nat → va_E) => (f = f1 ∧ z = 1 ∧ (0 ≤ a0) ∧ (a0 ≤ 59)) ∨ (f = f1 ∧ z = 0))) := by
  refine q_ofb (by decide +kernel) hN hT (Nat.le_of_ble_eq_true rfl) ?_
  intro p e s m below meth c ls cx hr hlk hB hl
  have hl : lv_has ls 2 [(0, .ref mo), (1, .int (q_i a0))] := hl
  obtain ⟨H, hH⟩ : ∃ H : Heap, H = s.heap := ⟨_, rfl⟩
  obtain ⟨locs, hlocs⟩ : ∃ z : List Loc, z = [] := ⟨_, rfl⟩
  rw [← hH, ← hlocs] at hB
  rw [← hH, ← hlocs]
  refine q_ild_n cx dX12_isMessage_0 rfl (lv_at hl 1 rfl) ?_
  refine q_i2l cx ⟨by omega, by omega⟩ dX12_isMessage_1 ?_
  refine q_lconst (z := 0) cx (by decide) dX12_isMessage_2 ?_
  refine q_ald_n cx dX12_isMessage_3 rfl (lv_at hl 0 rfl) ?_
  refine q_gX12_20 cx hB hmo kmo hr0 dX12_isMessage_4 (fun hb12 kb12 => ?_)
  refine q_iconst cx dX12_isMessage_7 ?_
  refine q_iald (lo := (-2147483648)) (hi := 2147483647) (n := 658) cx hB hsr ksr (by decide) rfl rfl (by decide) (by decide) (by decide) rfl hf0 dX12_isMessage_8 (fun lb14 ub14 => ?_)
  refine q_iconst cx dX12_isMessage_9 ?_
  refine q_isub cx dX12_isMessage_10 ?_
  refine q_i2l cx ⟨by omega, by omega⟩ dX12_isMessage_11 ?_
  refine q_cSi (As := [.long (q_l a0), .long (q_l 0), .long (q_l (xm - 1))]) (rest := []) cx hB (fun _ h => h) hN (r_isIn l g hN hB.2.1 a0 (by omega) (by omega) 0 (by decide) (by decide) (xm - 1) (by omega) (by omega)) q_cX12_93 q_dX12_isIn (by decide) rfl rfl hl.1 rfl (Nat.le_of_ble_eq_true rfl) dX12_isMessage_12 (fun y16 H locs f15 ry16 h17 hF hB => ?_)
  rcases h17 with h18 | h19
  · obtain ⟨rfl, qy16, t20, t21⟩ := h18
    subst qy16
    refine q_zret cx hr hlk hB dX12_isMessage_15 (by decide) (by decide) ?_
    exact (Or.inl ⟨rfl, rfl, (by omega), (by omega)⟩)
  · obtain ⟨rfl, qy16, t22⟩ := h19
    subst qy16
    refine q_zret cx hr hlk hB dX12_isMessage_15 (by decide) (by decide) ?_
    exact (Or.inr ⟨rfl, rfl⟩)
set_option maxHeartbeats 4000000 in
set_option maxRecDepth 100000 in
theorem r_isDay (l : Launch) (g : q_G) {K : Nat → Nat} {L : List Nat} (hN : L.Nodup) {f : Nat → va_E} (hT : q_Ty g K L f) (mo : Nat) (hmo : mo ∈ L) (kmo : K mo = 12) (a0 : Int) (la0 : (-2147483648) ≤ a0) (ua0 : a0 ≤ 2147483647) (sr : Nat) (hsr : sr ∈ L) (ksr : K sr = 151) (hr0 : q_ir (q_r f mo 13) sr) (hgr : q_gr f sr) : q_Ct l g K L yX12_isDay cX12_isDay 2 (some .boolean) 1 25 [.ref mo, .int (q_i a0)] f [] (q_Pi (fun (z : Int) (f1 : Nat → va_E) => (f = f1 ∧ z = 1 ∧ (0 ≤ a0) ∧ (a0 ≤ 59)) ∨ (f = f1 ∧ z = 0))) := by
  refine q_ofb (by decide +kernel) hN hT (Nat.le_of_ble_eq_true rfl) ?_
  intro p e s m below meth c ls cx hr hlk hB hl
  have hl : lv_has ls 2 [(0, .ref mo), (1, .int (q_i a0))] := hl
  obtain ⟨H, hH⟩ : ∃ H : Heap, H = s.heap := ⟨_, rfl⟩
  obtain ⟨locs, hlocs⟩ : ∃ z : List Loc, z = [] := ⟨_, rfl⟩
  rw [← hH, ← hlocs] at hB
  rw [← hH, ← hlocs]
  refine q_ild_n cx dX12_isDay_0 rfl (lv_at hl 1 rfl) ?_
  refine q_i2l cx ⟨by omega, by omega⟩ dX12_isDay_1 ?_
  refine q_lconst (z := 0) cx (by decide) dX12_isDay_2 ?_
  refine q_ald_n cx dX12_isDay_3 rfl (lv_at hl 0 rfl) ?_
  refine q_gX12_20 cx hB hmo kmo hr0 dX12_isDay_4 (fun hb12 kb12 => ?_)
  refine q_iconst cx dX12_isDay_7 ?_
  obtain ⟨x13, ex13⟩ : ∃ zz, q_is (q_z f sr (Int.toNat 2)) zz := ⟨_, q_isr _⟩
  refine q_sald cx hB hsr ksr (by decide) (by decide) ex13 dX12_isDay_8 (fun rx13 => ?_)
  obtain ⟨lx13, ux13⟩ : 4 ≤ x13 ∧ x13 ≤ 60 := q_isb ex13 (q_gr_at hgr (by decide) rfl)
  refine q_iconst cx dX12_isDay_9 ?_
  refine q_isub cx dX12_isDay_10 ?_
  refine q_i2l cx ⟨by omega, by omega⟩ dX12_isDay_11 ?_
  refine q_cSi (As := [.long (q_l a0), .long (q_l 0), .long (q_l (x13 - 1))]) (rest := []) cx hB (fun _ h => h) hN (r_isIn l g hN hB.2.1 a0 (by omega) (by omega) 0 (by decide) (by decide) (x13 - 1) (by omega) (by omega)) q_cX12_93 q_dX12_isIn (by decide) rfl rfl hl.1 rfl (Nat.le_of_ble_eq_true rfl) dX12_isDay_12 (fun y16 H locs f15 ry16 h17 hF hB => ?_)
  rcases h17 with h18 | h19
  · obtain ⟨rfl, qy16, t20, t21⟩ := h18
    subst qy16
    refine q_zret cx hr hlk hB dX12_isDay_15 (by decide) (by decide) ?_
    exact (Or.inl ⟨rfl, rfl, (by omega), (by omega)⟩)
  · obtain ⟨rfl, qy16, t22⟩ := h19
    subst qy16
    refine q_zret cx hr hlk hB dX12_isDay_15 (by decide) (by decide) ?_
    exact (Or.inr ⟨rfl, rfl⟩)
set_option maxHeartbeats 4000000 in
set_option maxRecDepth 100000 in
theorem r_inState (l : Launch) (g : q_G) {K : Nat → Nat} {L : List Nat} (hN : L.Nodup) {f : Nat → va_E} (hT : q_Ty g K L f) (mo : Nat) (hmo : mo ∈ L) (kmo : K mo = 12) (a0 : Int) (la0 : (-2147483648) ≤ a0) (ua0 : a0 ≤ 2147483647) (sr : Nat) (hsr : sr ∈ L) (ksr : K sr = 151) (hr0 : q_ir (q_r f mo 13) sr) (hgr : q_gr f sr) : q_Ct l g K L yX12_inState cX12_inState 4 (some .int) 1 22 [.ref mo, .int (q_i a0)] f [] (q_Pi (fun (z : Int) (f1 : Nat → va_E) => f = f1)) := by
  refine q_ofb (by decide +kernel) hN hT (Nat.le_of_ble_eq_true rfl) ?_
  intro p e s m below meth c ls cx hr hlk hB hl
  have hl : lv_has ls 4 [(0, .ref mo), (1, .int (q_i a0))] := hl
  have J4 : ∀ (n : Nat) (v4_2 : Int) (lv4_2 : (-2147483648) ≤ v4_2) (uv4_2 : v4_2 ≤ 2147483647) (v4_3 : Int) (lv4_3 : 0 ≤ v4_3) (uv4_3 : v4_3 ≤ 61) (hq_mo_13 : q_ir (q_r f mo 13) sr) (hgr4 : q_gr f sr) (hmu : (Int.toNat (2147483647 - v4_3)) < n) (H : Heap) (locs : List Loc) (hB : q_B g K L (fun q => q ∈ L) [] f f s H locs) (ls : Array Slot) (hl : lv_has ls 4 [(0, .ref mo), (1, .int (q_i a0)), (2, .int (q_i v4_2)), (3, .int (q_i v4_3))]), W p l e { frames := 1, cells := 0, slots := 0, locals := 22 } s m ([.ref mo, .int (q_i a0)] : List Value).toArray below meth c H locs 0 0 (MQ below (q_Q g K L [] f (q_Pi (fun (z : Int) (f1 : Nat → va_E) => f = f1))) ([.ref mo, .int (q_i a0)] : List Value).toArray s 0 0 (fun q => q ∈ L)) (F0 m 4 ls []) := by
    intro n
    induction n with
    | zero =>
      intro v4_2 lv4_2 uv4_2 v4_3 lv4_3 uv4_3 hq_mo_13 hgr4 hmu
      exact absurd hmu (Nat.not_lt_zero _)
    | succ n ih4 =>
      intro v4_2 lv4_2 uv4_2 v4_3 lv4_3 uv4_3 hq_mo_13 hgr4 hmu H locs hB ls hl
      refine q_ild_n cx dX12_inState_4 rfl (lv_at hl 3 rfl) ?_
      refine q_ald_n cx dX12_inState_5 rfl (lv_at hl 0 rfl) ?_
      refine q_gX12_20 cx hB hmo kmo hq_mo_13 dX12_inState_6 (fun hb543 kb543 => ?_)
      refine q_iconst cx dX12_inState_9 ?_
      obtain ⟨x544, ex544⟩ : ∃ zz, q_is (q_z f sr (Int.toNat 4)) zz := ⟨_, q_isr _⟩
      refine q_sald cx hB hsr ksr (by decide) (by decide) ex544 dX12_inState_10 (fun rx544 => ?_)
      obtain ⟨lx544, ux544⟩ : 0 ≤ x544 ∧ x544 ≤ 61 := q_isb ex544 (q_gr_at hgr4 (by decide) rfl)
      refine q_icge (tgt := 41) cx ⟨by omega, by omega⟩ ⟨by omega, by omega⟩ dX12_inState_11 (by decide) (fun c546 => ?_) (fun c546 => ?_)
      · refine q_ild_n cx dX12_inState_41 rfl (lv_at hl 2 rfl) ?_
        refine q_iret cx hr hlk hB dX12_inState_42 ⟨by omega, by omega⟩ ?_
        exact rfl
      · refine q_ild_n cx dX12_inState_14 rfl (lv_at hl 2 rfl) ?_
        refine q_ald_n cx dX12_inState_15 rfl (lv_at hl 0 rfl) ?_
        refine q_ild_n cx dX12_inState_16 rfl (lv_at hl 3 rfl) ?_
        refine q_iconst cx dX12_inState_17 ?_
        refine q_cVi (As := [.int (q_i v4_3), .int (q_i 3)]) (rest := [.int (q_i v4_2)]) cx hB (fun _ h => h) hN hmo kmo (by decide) rfl (r_ofMessage3 l g hN hB.2.1 mo hmo kmo v4_3 (by omega) (by omega) 3 (by decide) (by decide) sr hsr ksr hq_mo_13 hgr4) q_cX12_308 q_dX12_ofMessage (by decide) rfl rfl hl.1 rfl (Nat.le_of_ble_eq_true rfl) dX12_inState_18 (fun y548 H locs f547 ry548 h549 hF hB => ?_)
        obtain ⟨rfl, ly548, uy548, t550⟩ := h549
        refine q_ild_n cx dX12_inState_21 rfl (lv_at hl 1 rfl) ?_
        refine q_icne (tgt := 29) cx ⟨by omega, by omega⟩ ⟨by omega, by omega⟩ dX12_inState_22 (by decide) (fun c551 => ?_) (fun c551 => ?_)
        · refine q_iconst cx dX12_inState_29 ?_
          refine q_cSi (As := [.int (q_i 0)]) (rest := [.int (q_i v4_2)]) cx hB (fun _ h => h) hN (r_truth0 l g hN hB.2.1 0 (by decide) (by decide)) q_cX12_78 q_dX12_truth (by decide) rfl rfl hl.1 rfl (Nat.le_of_ble_eq_true rfl) dX12_inState_30 (fun y553 H locs f552 ry553 h554 hF hB => ?_)
          obtain ⟨rfl, qy553⟩ := h554
          subst qy553
          refine q_iadd cx dX12_inState_33 ?_
          refine lv_istore_n (lv' := [(2, .int (q_i (v4_2 + 0))), (0, .ref mo), (1, .int (q_i a0)), (3, .int (q_i v4_3))]) cx.1 cx.2.1 dX12_inState_34 rfl hl (by decide) rfl (fun ls hl => ?_)
          refine q_iinc (lv' := [(3, .int (q_i (v4_3 + 1))), (2, .int (q_i (v4_2 + 0))), (0, .ref mo), (1, .int (q_i a0))]) cx dX12_inState_35 hl (k := 3) rfl (by decide) rfl (fun ls hl => ?_)
          refine lv_goto (tgt := 4) cx.1 cx.2.1 dX12_inState_38 (by decide) ?_
          exact ih4 (v4_2 + 0) (by omega) (by omega) (v4_3 + 1) (by omega) (by omega) hq_mo_13 hgr4 (by omega) H locs hB ls (lv_sub hl [2, 3, 1, 0] rfl)
        · refine q_iconst cx dX12_inState_25 ?_
          refine lv_goto (tgt := 30) cx.1 cx.2.1 dX12_inState_26 (by decide) ?_
          refine q_cSi (As := [.int (q_i 1)]) (rest := [.int (q_i v4_2)]) cx hB (fun _ h => h) hN (r_truth1 l g hN hB.2.1 1 (by decide) (by decide)) q_cX12_78 q_dX12_truth (by decide) rfl rfl hl.1 rfl (Nat.le_of_ble_eq_true rfl) dX12_inState_30 (fun y556 H locs f555 ry556 h557 hF hB => ?_)
          obtain ⟨rfl, qy556⟩ := h557
          subst qy556
          refine q_iadd cx dX12_inState_33 ?_
          refine q_any (fun y558 ry558 ey558 => ?_)
          refine lv_istore_n (lv' := [(2, .int (q_i y558)), (0, .ref mo), (1, .int (q_i a0)), (3, .int (q_i v4_3))]) cx.1 cx.2.1 dX12_inState_34 rfl hl (by decide) rfl (fun ls hl => ?_)
          refine q_iinc (lv' := [(3, .int (q_i (v4_3 + 1))), (2, .int (q_i y558)), (0, .ref mo), (1, .int (q_i a0))]) cx dX12_inState_35 hl (k := 3) rfl (by decide) rfl (fun ls hl => ?_)
          refine lv_goto (tgt := 4) cx.1 cx.2.1 dX12_inState_38 (by decide) ?_
          exact ih4 y558 (by omega) (by omega) (v4_3 + 1) (by omega) (by omega) hq_mo_13 hgr4 (by omega) H locs hB ls (lv_sub hl [2, 3, 1, 0] rfl)
  obtain ⟨H, hH⟩ : ∃ H : Heap, H = s.heap := ⟨_, rfl⟩
  obtain ⟨locs, hlocs⟩ : ∃ z : List Loc, z = [] := ⟨_, rfl⟩
  rw [← hH, ← hlocs] at hB
  rw [← hH, ← hlocs]
  refine q_iconst cx dX12_inState_0 ?_
  refine lv_istore_n (lv' := [(2, .int (q_i 0)), (0, .ref mo), (1, .int (q_i a0))]) cx.1 cx.2.1 dX12_inState_1 rfl hl (by decide) rfl (fun ls hl => ?_)
  refine q_iconst cx dX12_inState_2 ?_
  refine lv_istore_n (lv' := [(3, .int (q_i 0)), (2, .int (q_i 0)), (0, .ref mo), (1, .int (q_i a0))]) cx.1 cx.2.1 dX12_inState_3 rfl hl (by decide) rfl (fun ls hl => ?_)
  exact J4 ((Int.toNat (2147483647 - 0)) + 1) 0 (by decide) (by decide) 0 (by decide) (by decide) hr0 hgr (Nat.lt_succ_self _) H locs hB ls (lv_sub hl [2, 3, 1, 0] rfl)
set_option maxHeartbeats 4000000 in
set_option maxRecDepth 100000 in
theorem r_inTime (l : Launch) (g : q_G) {K : Nat → Nat} {L : List Nat} (hN : L.Nodup) {f : Nat → va_E} (hT : q_Ty g K L f) (mo : Nat) (hmo : mo ∈ L) (kmo : K mo = 12) (sr : Nat) (hsr : sr ∈ L) (ksr : K sr = 151) (hr0 : q_ir (q_r f mo 13) sr) (hgr : q_gr f sr) : q_Ct l g K L yX12_inTime cX12_inTime 3 (some .int) 1 22 [.ref mo] f [] (q_Pi (fun (z : Int) (f1 : Nat → va_E) => f = f1)) := by
  refine q_ofb (by decide +kernel) hN hT (Nat.le_of_ble_eq_true rfl) ?_
  intro p e s m below meth c ls cx hr hlk hB hl
  have hl : lv_has ls 3 [(0, .ref mo)] := hl
  have J4 : ∀ (n : Nat) (v4_1 : Int) (lv4_1 : (-2147483648) ≤ v4_1) (uv4_1 : v4_1 ≤ 2147483647) (v4_2 : Int) (lv4_2 : 0 ≤ v4_2) (uv4_2 : v4_2 ≤ 61) (hq_mo_13 : q_ir (q_r f mo 13) sr) (hgr4 : q_gr f sr) (hmu : (Int.toNat (2147483647 - v4_2)) < n) (H : Heap) (locs : List Loc) (hB : q_B g K L (fun q => q ∈ L) [] f f s H locs) (ls : Array Slot) (hl : lv_has ls 3 [(0, .ref mo), (1, .int (q_i v4_1)), (2, .int (q_i v4_2))]), W p l e { frames := 1, cells := 0, slots := 0, locals := 22 } s m ([.ref mo] : List Value).toArray below meth c H locs 0 0 (MQ below (q_Q g K L [] f (q_Pi (fun (z : Int) (f1 : Nat → va_E) => f = f1))) ([.ref mo] : List Value).toArray s 0 0 (fun q => q ∈ L)) (F0 m 4 ls []) := by
    intro n
    induction n with
    | zero =>
      intro v4_1 lv4_1 uv4_1 v4_2 lv4_2 uv4_2 hq_mo_13 hgr4 hmu
      exact absurd hmu (Nat.not_lt_zero _)
    | succ n ih4 =>
      intro v4_1 lv4_1 uv4_1 v4_2 lv4_2 uv4_2 hq_mo_13 hgr4 hmu H locs hB ls hl
      refine q_ild_n cx dX12_inTime_4 rfl (lv_at hl 2 rfl) ?_
      refine q_ald_n cx dX12_inTime_5 rfl (lv_at hl 0 rfl) ?_
      refine q_gX12_20 cx hB hmo kmo hq_mo_13 dX12_inTime_6 (fun hb903 kb903 => ?_)
      refine q_iconst cx dX12_inTime_9 ?_
      obtain ⟨x904, ex904⟩ : ∃ zz, q_is (q_z f sr (Int.toNat 4)) zz := ⟨_, q_isr _⟩
      refine q_sald cx hB hsr ksr (by decide) (by decide) ex904 dX12_inTime_10 (fun rx904 => ?_)
      obtain ⟨lx904, ux904⟩ : 0 ≤ x904 ∧ x904 ≤ 61 := q_isb ex904 (q_gr_at hgr4 (by decide) rfl)
      refine q_icge (tgt := 57) cx ⟨by omega, by omega⟩ ⟨by omega, by omega⟩ dX12_inTime_11 (by decide) (fun c906 => ?_) (fun c906 => ?_)
      · refine q_ild_n cx dX12_inTime_57 rfl (lv_at hl 1 rfl) ?_
        refine q_iret cx hr hlk hB dX12_inTime_58 ⟨by omega, by omega⟩ ?_
        exact rfl
      · refine q_ild_n cx dX12_inTime_14 rfl (lv_at hl 1 rfl) ?_
        refine q_ald_n cx dX12_inTime_15 rfl (lv_at hl 0 rfl) ?_
        refine q_ild_n cx dX12_inTime_16 rfl (lv_at hl 2 rfl) ?_
        refine q_iconst cx dX12_inTime_17 ?_
        refine q_cVi (As := [.int (q_i v4_2), .int (q_i 3)]) (rest := [.int (q_i v4_1)]) cx hB (fun _ h => h) hN hmo kmo (by decide) rfl (r_ofMessage3 l g hN hB.2.1 mo hmo kmo v4_2 (by omega) (by omega) 3 (by decide) (by decide) sr hsr ksr hq_mo_13 hgr4) q_cX12_308 q_dX12_ofMessage (by decide) rfl rfl hl.1 rfl (Nat.le_of_ble_eq_true rfl) dX12_inTime_18 (fun y908 H locs f907 ry908 h909 hF hB => ?_)
        obtain ⟨rfl, ly908, uy908, t910⟩ := h909
        refine q_iconst cx dX12_inTime_21 ?_
        refine q_icne (tgt := 45) cx ⟨by omega, by omega⟩ ⟨by decide, by decide⟩ dX12_inTime_22 (by decide) (fun c911 => ?_) (fun c911 => ?_)
        · refine q_iconst cx dX12_inTime_45 ?_
          refine q_cSi (As := [.int (q_i 0)]) (rest := [.int (q_i v4_1)]) cx hB (fun _ h => h) hN (r_truth0 l g hN hB.2.1 0 (by decide) (by decide)) q_cX12_78 q_dX12_truth (by decide) rfl rfl hl.1 rfl (Nat.le_of_ble_eq_true rfl) dX12_inTime_46 (fun y913 H locs f912 ry913 h914 hF hB => ?_)
          obtain ⟨rfl, qy913⟩ := h914
          subst qy913
          refine q_iadd cx dX12_inTime_49 ?_
          refine lv_istore_n (lv' := [(1, .int (q_i (v4_1 + 0))), (0, .ref mo), (2, .int (q_i v4_2))]) cx.1 cx.2.1 dX12_inTime_50 rfl hl (by decide) rfl (fun ls hl => ?_)
          refine q_iinc (lv' := [(2, .int (q_i (v4_2 + 1))), (1, .int (q_i (v4_1 + 0))), (0, .ref mo)]) cx dX12_inTime_51 hl (k := 2) rfl (by decide) rfl (fun ls hl => ?_)
          refine lv_goto (tgt := 4) cx.1 cx.2.1 dX12_inTime_54 (by decide) ?_
          exact ih4 (v4_1 + 0) (by omega) (by omega) (v4_2 + 1) (by omega) (by omega) hq_mo_13 hgr4 (by omega) H locs hB ls (lv_sub hl [2, 1, 0] rfl)
        · refine q_ald_n cx dX12_inTime_25 rfl (lv_at hl 0 rfl) ?_
          refine q_ild_n cx dX12_inTime_26 rfl (lv_at hl 2 rfl) ?_
          refine q_bipush cx dX12_inTime_27 rfl ?_
          refine q_cVi (As := [.int (q_i v4_2), .int (q_i 6)]) (rest := [.int (q_i v4_1)]) cx hB (fun _ h => h) hN hmo kmo (by decide) rfl (r_ofMessage6 l g hN hB.2.1 mo hmo kmo v4_2 (by omega) (by omega) 6 (by decide) (by decide) sr hsr ksr hq_mo_13 hgr4) q_cX12_308 q_dX12_ofMessage (by decide) rfl rfl hl.1 rfl (Nat.le_of_ble_eq_true rfl) dX12_inTime_29 (fun y916 H locs f915 ry916 h917 hF hB => ?_)
          obtain rfl := h917
          refine q_ald_n cx dX12_inTime_32 rfl (lv_at hl 0 rfl) ?_
          refine q_ild_n cx dX12_inTime_33 rfl (lv_at hl 2 rfl) ?_
          refine q_iconst cx dX12_inTime_34 ?_
          refine q_cVi (As := [.int (q_i v4_2), .int (q_i 4)]) (rest := [.int (q_i y916), .int (q_i v4_1)]) cx hB (fun _ h => h) hN hmo kmo (by decide) rfl (r_ofMessage4 l g hN hB.2.1 mo hmo kmo v4_2 (by omega) (by omega) 4 (by decide) (by decide) sr hsr ksr hq_mo_13 hgr4) q_cX12_308 q_dX12_ofMessage (by decide) rfl rfl hl.1 rfl (Nat.le_of_ble_eq_true rfl) dX12_inTime_35 (fun y919 H locs f918 ry919 h920 hF hB => ?_)
          obtain rfl := h920
          refine q_icgt (tgt := 45) cx ⟨by omega, by omega⟩ ⟨by omega, by omega⟩ dX12_inTime_38 (by decide) (fun c921 => ?_) (fun c921 => ?_)
          · refine q_iconst cx dX12_inTime_45 ?_
            refine q_cSi (As := [.int (q_i 0)]) (rest := [.int (q_i v4_1)]) cx hB (fun _ h => h) hN (r_truth0 l g hN hB.2.1 0 (by decide) (by decide)) q_cX12_78 q_dX12_truth (by decide) rfl rfl hl.1 rfl (Nat.le_of_ble_eq_true rfl) dX12_inTime_46 (fun y923 H locs f922 ry923 h924 hF hB => ?_)
            obtain ⟨rfl, qy923⟩ := h924
            subst qy923
            refine q_iadd cx dX12_inTime_49 ?_
            refine lv_istore_n (lv' := [(1, .int (q_i (v4_1 + 0))), (0, .ref mo), (2, .int (q_i v4_2))]) cx.1 cx.2.1 dX12_inTime_50 rfl hl (by decide) rfl (fun ls hl => ?_)
            refine q_iinc (lv' := [(2, .int (q_i (v4_2 + 1))), (1, .int (q_i (v4_1 + 0))), (0, .ref mo)]) cx dX12_inTime_51 hl (k := 2) rfl (by decide) rfl (fun ls hl => ?_)
            refine lv_goto (tgt := 4) cx.1 cx.2.1 dX12_inTime_54 (by decide) ?_
            exact ih4 (v4_1 + 0) (by omega) (by omega) (v4_2 + 1) (by omega) (by omega) hq_mo_13 hgr4 (by omega) H locs hB ls (lv_sub hl [2, 1, 0] rfl)
          · refine q_iconst cx dX12_inTime_41 ?_
            refine lv_goto (tgt := 46) cx.1 cx.2.1 dX12_inTime_42 (by decide) ?_
            refine q_cSi (As := [.int (q_i 1)]) (rest := [.int (q_i v4_1)]) cx hB (fun _ h => h) hN (r_truth1 l g hN hB.2.1 1 (by decide) (by decide)) q_cX12_78 q_dX12_truth (by decide) rfl rfl hl.1 rfl (Nat.le_of_ble_eq_true rfl) dX12_inTime_46 (fun y926 H locs f925 ry926 h927 hF hB => ?_)
            obtain ⟨rfl, qy926⟩ := h927
            subst qy926
            refine q_iadd cx dX12_inTime_49 ?_
            refine q_any (fun y928 ry928 ey928 => ?_)
            refine lv_istore_n (lv' := [(1, .int (q_i y928)), (0, .ref mo), (2, .int (q_i v4_2))]) cx.1 cx.2.1 dX12_inTime_50 rfl hl (by decide) rfl (fun ls hl => ?_)
            refine q_iinc (lv' := [(2, .int (q_i (v4_2 + 1))), (1, .int (q_i y928)), (0, .ref mo)]) cx dX12_inTime_51 hl (k := 2) rfl (by decide) rfl (fun ls hl => ?_)
            refine lv_goto (tgt := 4) cx.1 cx.2.1 dX12_inTime_54 (by decide) ?_
            exact ih4 y928 (by omega) (by omega) (v4_2 + 1) (by omega) (by omega) hq_mo_13 hgr4 (by omega) H locs hB ls (lv_sub hl [2, 1, 0] rfl)
  obtain ⟨H, hH⟩ : ∃ H : Heap, H = s.heap := ⟨_, rfl⟩
  obtain ⟨locs, hlocs⟩ : ∃ z : List Loc, z = [] := ⟨_, rfl⟩
  rw [← hH, ← hlocs] at hB
  rw [← hH, ← hlocs]
  refine q_iconst cx dX12_inTime_0 ?_
  refine lv_istore_n (lv' := [(1, .int (q_i 0)), (0, .ref mo)]) cx.1 cx.2.1 dX12_inTime_1 rfl hl (by decide) rfl (fun ls hl => ?_)
  refine q_iconst cx dX12_inTime_2 ?_
  refine lv_istore_n (lv' := [(2, .int (q_i 0)), (1, .int (q_i 0)), (0, .ref mo)]) cx.1 cx.2.1 dX12_inTime_3 rfl hl (by decide) rfl (fun ls hl => ?_)
  exact J4 ((Int.toNat (2147483647 - 0)) + 1) 0 (by decide) (by decide) 0 (by decide) (by decide) hr0 hgr (Nat.lt_succ_self _) H locs hB ls (lv_sub hl [2, 1, 0] rfl)
set_option maxHeartbeats 4000000 in
set_option maxRecDepth 100000 in
theorem r_notOut (l : Launch) (g : q_G) {K : Nat → Nat} {L : List Nat} (hN : L.Nodup) {f : Nat → va_E} (hT : q_Ty g K L f) (mo : Nat) (hmo : mo ∈ L) (kmo : K mo = 12) (sr : Nat) (hsr : sr ∈ L) (ksr : K sr = 151) (hr0 : q_ir (q_r f mo 13) sr) (hgr : q_gr f sr) : q_Ct l g K L yX12_notOut cX12_notOut 3 (some .int) 3 64 [.ref mo] f [] (q_Pi (fun (z : Int) (f1 : Nat → va_E) => f = f1)) := by
  refine q_ofb (by decide +kernel) hN hT (Nat.le_of_ble_eq_true rfl) ?_
  intro p e s m below meth c ls cx hr hlk hB hl
  have hl : lv_has ls 3 [(0, .ref mo)] := hl
  have J4 : ∀ (n : Nat) (v4_1 : Int) (lv4_1 : (-2147483648) ≤ v4_1) (uv4_1 : v4_1 ≤ 2147483647) (v4_2 : Int) (lv4_2 : 0 ≤ v4_2) (uv4_2 : v4_2 ≤ 10) (hq_mo_13 : q_ir (q_r f mo 13) sr) (hgr4 : q_gr f sr) (hmu : (Int.toNat (2147483647 - v4_2)) < n) (H : Heap) (locs : List Loc) (hB : q_B g K L (fun q => q ∈ L) [] f f s H locs) (ls : Array Slot) (hl : lv_has ls 3 [(0, .ref mo), (1, .int (q_i v4_1)), (2, .int (q_i v4_2))]), W p l e { frames := 3, cells := 0, slots := 0, locals := 64 } s m ([.ref mo] : List Value).toArray below meth c H locs 0 0 (MQ below (q_Q g K L [] f (q_Pi (fun (z : Int) (f1 : Nat → va_E) => f = f1))) ([.ref mo] : List Value).toArray s 0 0 (fun q => q ∈ L)) (F0 m 4 ls []) := by
    intro n
    induction n with
    | zero =>
      intro v4_1 lv4_1 uv4_1 v4_2 lv4_2 uv4_2 hq_mo_13 hgr4 hmu
      exact absurd hmu (Nat.not_lt_zero _)
    | succ n ih4 =>
      intro v4_1 lv4_1 uv4_1 v4_2 lv4_2 uv4_2 hq_mo_13 hgr4 hmu H locs hB ls hl
      refine q_ild_n cx dX12_notOut_4 rfl (lv_at hl 2 rfl) ?_
      refine q_ald_n cx dX12_notOut_5 rfl (lv_at hl 0 rfl) ?_
      refine q_gX12_20 cx hB hmo kmo hq_mo_13 dX12_notOut_6 (fun hb507 kb507 => ?_)
      refine q_iconst cx dX12_notOut_9 ?_
      obtain ⟨x508, ex508⟩ : ∃ zz, q_is (q_z f sr (Int.toNat 0)) zz := ⟨_, q_isr _⟩
      refine q_iald (lo := 0) (hi := 10) (n := 658) cx hB hsr ksr (by decide) rfl rfl (by decide) (by decide) (by decide) rfl ex508 dX12_notOut_10 (fun lb509 ub509 => ?_)
      refine q_icge (tgt := 39) cx ⟨by omega, by omega⟩ ⟨by omega, by omega⟩ dX12_notOut_11 (by decide) (fun c510 => ?_) (fun c510 => ?_)
      · refine q_ild_n cx dX12_notOut_39 rfl (lv_at hl 1 rfl) ?_
        refine q_iret cx hr hlk hB dX12_notOut_40 ⟨by omega, by omega⟩ ?_
        exact rfl
      · refine q_ild_n cx dX12_notOut_14 rfl (lv_at hl 1 rfl) ?_
        refine q_ald_n cx dX12_notOut_15 rfl (lv_at hl 0 rfl) ?_
        refine q_ild_n cx dX12_notOut_16 rfl (lv_at hl 2 rfl) ?_
        refine q_cVi (As := [.int (q_i v4_2)]) (rest := [.int (q_i v4_1)]) cx hB (fun _ h => h) hN hmo kmo (by decide) rfl (r_isOut l g hN hB.2.1 mo hmo kmo v4_2 (by omega) (by omega) sr hsr ksr hq_mo_13 hgr4) q_cX12_271 q_dX12_isOut (by decide) rfl rfl hl.1 rfl (Nat.le_of_ble_eq_true rfl) dX12_notOut_17 (fun y512 H locs f511 ry512 h513 hF hB => ?_)
        obtain ⟨rfl, ly512, uy512⟩ := h513
        refine q_ifne (tgt := 27) cx ⟨by omega, by omega⟩ dX12_notOut_20 (by decide) (fun c514 => ?_) (fun c514 => ?_)
        · refine q_iconst cx dX12_notOut_27 ?_
          refine q_cSi (As := [.int (q_i 0)]) (rest := [.int (q_i v4_1)]) cx hB (fun _ h => h) hN (r_truth0 l g hN hB.2.1 0 (by decide) (by decide)) q_cX12_78 q_dX12_truth (by decide) rfl rfl hl.1 rfl (Nat.le_of_ble_eq_true rfl) dX12_notOut_28 (fun y516 H locs f515 ry516 h517 hF hB => ?_)
          obtain ⟨rfl, qy516⟩ := h517
          subst qy516
          refine q_iadd cx dX12_notOut_31 ?_
          refine lv_istore_n (lv' := [(1, .int (q_i (v4_1 + 0))), (0, .ref mo), (2, .int (q_i v4_2))]) cx.1 cx.2.1 dX12_notOut_32 rfl hl (by decide) rfl (fun ls hl => ?_)
          refine q_iinc (lv' := [(2, .int (q_i (v4_2 + 1))), (1, .int (q_i (v4_1 + 0))), (0, .ref mo)]) cx dX12_notOut_33 hl (k := 2) rfl (by decide) rfl (fun ls hl => ?_)
          refine lv_goto (tgt := 4) cx.1 cx.2.1 dX12_notOut_36 (by decide) ?_
          exact ih4 (v4_1 + 0) (by omega) (by omega) (v4_2 + 1) (by omega) (by omega) hq_mo_13 hgr4 (by omega) H locs hB ls (lv_sub hl [2, 1, 0] rfl)
        · refine q_iconst cx dX12_notOut_23 ?_
          refine lv_goto (tgt := 28) cx.1 cx.2.1 dX12_notOut_24 (by decide) ?_
          refine q_cSi (As := [.int (q_i 1)]) (rest := [.int (q_i v4_1)]) cx hB (fun _ h => h) hN (r_truth1 l g hN hB.2.1 1 (by decide) (by decide)) q_cX12_78 q_dX12_truth (by decide) rfl rfl hl.1 rfl (Nat.le_of_ble_eq_true rfl) dX12_notOut_28 (fun y519 H locs f518 ry519 h520 hF hB => ?_)
          obtain ⟨rfl, qy519⟩ := h520
          subst qy519
          refine q_iadd cx dX12_notOut_31 ?_
          refine q_any (fun y521 ry521 ey521 => ?_)
          refine lv_istore_n (lv' := [(1, .int (q_i y521)), (0, .ref mo), (2, .int (q_i v4_2))]) cx.1 cx.2.1 dX12_notOut_32 rfl hl (by decide) rfl (fun ls hl => ?_)
          refine q_iinc (lv' := [(2, .int (q_i (v4_2 + 1))), (1, .int (q_i y521)), (0, .ref mo)]) cx dX12_notOut_33 hl (k := 2) rfl (by decide) rfl (fun ls hl => ?_)
          refine lv_goto (tgt := 4) cx.1 cx.2.1 dX12_notOut_36 (by decide) ?_
          exact ih4 y521 (by omega) (by omega) (v4_2 + 1) (by omega) (by omega) hq_mo_13 hgr4 (by omega) H locs hB ls (lv_sub hl [2, 1, 0] rfl)
  obtain ⟨H, hH⟩ : ∃ H : Heap, H = s.heap := ⟨_, rfl⟩
  obtain ⟨locs, hlocs⟩ : ∃ z : List Loc, z = [] := ⟨_, rfl⟩
  rw [← hH, ← hlocs] at hB
  rw [← hH, ← hlocs]
  refine q_iconst cx dX12_notOut_0 ?_
  refine lv_istore_n (lv' := [(1, .int (q_i 0)), (0, .ref mo)]) cx.1 cx.2.1 dX12_notOut_1 rfl hl (by decide) rfl (fun ls hl => ?_)
  refine q_iconst cx dX12_notOut_2 ?_
  refine lv_istore_n (lv' := [(2, .int (q_i 0)), (1, .int (q_i 0)), (0, .ref mo)]) cx.1 cx.2.1 dX12_notOut_3 rfl hl (by decide) rfl (fun ls hl => ?_)
  exact J4 ((Int.toNat (2147483647 - 0)) + 1) 0 (by decide) (by decide) 0 (by decide) (by decide) hr0 hgr (Nat.lt_succ_self _) H locs hB ls (lv_sub hl [2, 1, 0] rfl)
set_option maxHeartbeats 4000000 in
set_option maxRecDepth 100000 in
theorem r_isUnderWayAt (l : Launch) (g : q_G) {K : Nat → Nat} {L : List Nat} (hN : L.Nodup) {f : Nat → va_E} (hT : q_Ty g K L f) (mo : Nat) (hmo : mo ∈ L) (kmo : K mo = 12) (a0 : Int) (la0 : 0 ≤ a0) (ua0 : a0 ≤ 60) (b0 : Int) (lb0 : (-2147483648) ≤ b0) (ub0 : b0 ≤ 2147483647) (sr : Nat) (hsr : sr ∈ L) (ksr : K sr = 151) (hr0 : q_ir (q_r f mo 13) sr) (hgr : q_gr f sr) : q_Ct l g K L yX12_isUnderWayAt cX12_isUnderWayAt 3 (some .boolean) 1 22 [.ref mo, .int (q_i a0), .int (q_i b0)] f [] (q_Pi (fun (z : Int) (f1 : Nat → va_E) => (f = f1 ∧ z = 1 ∧ (k_uw f sr a0 b0)) ∨ (f = f1 ∧ z = 0))) := by
  refine q_ofb (by decide +kernel) hN hT (Nat.le_of_ble_eq_true rfl) ?_
  intro p e s m below meth c ls cx hr hlk hB hl
  have hl : lv_has ls 3 [(0, .ref mo), (1, .int (q_i a0)), (2, .int (q_i b0))] := hl
  obtain ⟨H, hH⟩ : ∃ H : Heap, H = s.heap := ⟨_, rfl⟩
  obtain ⟨locs, hlocs⟩ : ∃ z : List Loc, z = [] := ⟨_, rfl⟩
  rw [← hH, ← hlocs] at hB
  rw [← hH, ← hlocs]
  refine q_ald_n cx dX12_isUnderWayAt_0 rfl (lv_at hl 0 rfl) ?_
  refine q_ild_n cx dX12_isUnderWayAt_1 rfl (lv_at hl 1 rfl) ?_
  refine q_iconst cx dX12_isUnderWayAt_2 ?_
  refine q_cVi (As := [.int (q_i a0), .int (q_i 3)]) (rest := []) cx hB (fun _ h => h) hN hmo kmo (by decide) rfl (r_ofMessage3 l g hN hB.2.1 mo hmo kmo a0 (by omega) (by omega) 3 (by decide) (by decide) sr hsr ksr hr0 hgr) q_cX12_308 q_dX12_ofMessage (by decide) rfl rfl hl.1 rfl (Nat.le_of_ble_eq_true rfl) dX12_isUnderWayAt_3 (fun y12 H locs f11 ry12 h13 hF hB => ?_)
  obtain ⟨rfl, ly12, uy12, t14⟩ := h13
  refine q_ifne (tgt := 23) cx ⟨by omega, by omega⟩ dX12_isUnderWayAt_6 (by decide) (fun c15 => ?_) (fun c15 => ?_)
  · refine q_iconst cx dX12_isUnderWayAt_23 ?_
    refine q_zret cx hr hlk hB dX12_isUnderWayAt_24 (by decide) (by decide) ?_
    exact (Or.inr ⟨rfl, rfl⟩)
  · refine q_ald_n cx dX12_isUnderWayAt_9 rfl (lv_at hl 0 rfl) ?_
    refine q_ild_n cx dX12_isUnderWayAt_10 rfl (lv_at hl 1 rfl) ?_
    refine q_iconst cx dX12_isUnderWayAt_11 ?_
    refine q_cVi (As := [.int (q_i a0), .int (q_i 2)]) (rest := []) cx hB (fun _ h => h) hN hmo kmo (by decide) rfl (r_ofMessage2 l g hN hB.2.1 mo hmo kmo a0 (by omega) (by omega) 2 (by decide) (by decide) sr hsr ksr hr0 hgr) q_cX12_308 q_dX12_ofMessage (by decide) rfl rfl hl.1 rfl (Nat.le_of_ble_eq_true rfl) dX12_isUnderWayAt_12 (fun y17 H locs f16 ry17 h18 hF hB => ?_)
    obtain ⟨rfl, ly17, uy17, t19⟩ := h18
    refine q_ild_n cx dX12_isUnderWayAt_15 rfl (lv_at hl 2 rfl) ?_
    refine q_icne (tgt := 23) cx ⟨by omega, by omega⟩ ⟨by omega, by omega⟩ dX12_isUnderWayAt_16 (by decide) (fun c20 => ?_) (fun c20 => ?_)
    · refine q_iconst cx dX12_isUnderWayAt_23 ?_
      refine q_zret cx hr hlk hB dX12_isUnderWayAt_24 (by decide) (by decide) ?_
      exact (Or.inr ⟨rfl, rfl⟩)
    · refine q_iconst cx dX12_isUnderWayAt_19 ?_
      refine lv_goto (tgt := 24) cx.1 cx.2.1 dX12_isUnderWayAt_20 (by decide) ?_
      refine q_zret cx hr hlk hB dX12_isUnderWayAt_24 (by decide) (by decide) ?_
      exact (Or.inl ⟨rfl, rfl, (show _ ∧ _ by omega)⟩)
set_option maxHeartbeats 4000000 in
set_option maxRecDepth 100000 in
theorem r_underWayAt (l : Launch) (g : q_G) {K : Nat → Nat} {L : List Nat} (hN : L.Nodup) {f : Nat → va_E} (hT : q_Ty g K L f) (mo : Nat) (hmo : mo ∈ L) (kmo : K mo = 12) (a0 : Int) (la0 : (-2147483648) ≤ a0) (ua0 : a0 ≤ 2147483647) (sr : Nat) (hsr : sr ∈ L) (ksr : K sr = 151) (hr0 : q_ir (q_r f mo 13) sr) (hgr : q_gr f sr) : q_Ct l g K L yX12_underWayAt cX12_underWayAt 4 (some .int) 2 44 [.ref mo, .int (q_i a0)] f [] (q_Pi (fun (z : Int) (f1 : Nat → va_E) => f = f1)) := by
  refine q_ofb (by decide +kernel) hN hT (Nat.le_of_ble_eq_true rfl) ?_
  intro p e s m below meth c ls cx hr hlk hB hl
  have hl : lv_has ls 4 [(0, .ref mo), (1, .int (q_i a0))] := hl
  have J4 : ∀ (n : Nat) (v4_2 : Int) (lv4_2 : (-2147483648) ≤ v4_2) (uv4_2 : v4_2 ≤ 2147483647) (v4_3 : Int) (lv4_3 : 0 ≤ v4_3) (uv4_3 : v4_3 ≤ 61) (hq_mo_13 : q_ir (q_r f mo 13) sr) (hgr4 : q_gr f sr) (hmu : (Int.toNat (2147483647 - v4_3)) < n) (H : Heap) (locs : List Loc) (hB : q_B g K L (fun q => q ∈ L) [] f f s H locs) (ls : Array Slot) (hl : lv_has ls 4 [(0, .ref mo), (1, .int (q_i a0)), (2, .int (q_i v4_2)), (3, .int (q_i v4_3))]), W p l e { frames := 2, cells := 0, slots := 0, locals := 44 } s m ([.ref mo, .int (q_i a0)] : List Value).toArray below meth c H locs 0 0 (MQ below (q_Q g K L [] f (q_Pi (fun (z : Int) (f1 : Nat → va_E) => f = f1))) ([.ref mo, .int (q_i a0)] : List Value).toArray s 0 0 (fun q => q ∈ L)) (F0 m 4 ls []) := by
    intro n
    induction n with
    | zero =>
      intro v4_2 lv4_2 uv4_2 v4_3 lv4_3 uv4_3 hq_mo_13 hgr4 hmu
      exact absurd hmu (Nat.not_lt_zero _)
    | succ n ih4 =>
      intro v4_2 lv4_2 uv4_2 v4_3 lv4_3 uv4_3 hq_mo_13 hgr4 hmu H locs hB ls hl
      refine q_ild_n cx dX12_underWayAt_4 rfl (lv_at hl 3 rfl) ?_
      refine q_ald_n cx dX12_underWayAt_5 rfl (lv_at hl 0 rfl) ?_
      refine q_gX12_20 cx hB hmo kmo hq_mo_13 dX12_underWayAt_6 (fun hb579 kb579 => ?_)
      refine q_iconst cx dX12_underWayAt_9 ?_
      obtain ⟨x580, ex580⟩ : ∃ zz, q_is (q_z f sr (Int.toNat 4)) zz := ⟨_, q_isr _⟩
      refine q_sald cx hB hsr ksr (by decide) (by decide) ex580 dX12_underWayAt_10 (fun rx580 => ?_)
      obtain ⟨lx580, ux580⟩ : 0 ≤ x580 ∧ x580 ≤ 61 := q_isb ex580 (q_gr_at hgr4 (by decide) rfl)
      refine q_icge (tgt := 32) cx ⟨by omega, by omega⟩ ⟨by omega, by omega⟩ dX12_underWayAt_11 (by decide) (fun c582 => ?_) (fun c582 => ?_)
      · refine q_ild_n cx dX12_underWayAt_32 rfl (lv_at hl 2 rfl) ?_
        refine q_iret cx hr hlk hB dX12_underWayAt_33 ⟨by omega, by omega⟩ ?_
        exact rfl
      · refine q_ild_n cx dX12_underWayAt_14 rfl (lv_at hl 2 rfl) ?_
        refine q_ald_n cx dX12_underWayAt_15 rfl (lv_at hl 0 rfl) ?_
        refine q_ild_n cx dX12_underWayAt_16 rfl (lv_at hl 3 rfl) ?_
        refine q_ild_n cx dX12_underWayAt_17 rfl (lv_at hl 1 rfl) ?_
        refine q_cVi (As := [.int (q_i v4_3), .int (q_i a0)]) (rest := [.int (q_i v4_2)]) cx hB (fun _ h => h) hN hmo kmo (by decide) rfl (r_isUnderWayAt l g hN hB.2.1 mo hmo kmo v4_3 (by omega) (by omega) a0 (by omega) (by omega) sr hsr ksr hq_mo_13 hgr4) q_cX12_352 q_dX12_isUnderWayAt (by decide) rfl rfl hl.1 rfl (Nat.le_of_ble_eq_true rfl) dX12_underWayAt_18 (fun y584 H locs f583 ry584 h585 hF hB => ?_)
        rcases h585 with h586 | h587
        · obtain ⟨rfl, qy584, t588⟩ := h586
          subst qy584
          refine q_cSi (As := [.int (q_i 1)]) (rest := [.int (q_i v4_2)]) cx hB (fun _ h => h) hN (r_truth1 l g hN hB.2.1 1 (by decide) (by decide)) q_cX12_78 q_dX12_truth (by decide) rfl rfl hl.1 rfl (Nat.le_of_ble_eq_true rfl) dX12_underWayAt_21 (fun y590 H locs f589 ry590 h591 hF hB => ?_)
          obtain ⟨rfl, qy590⟩ := h591
          subst qy590
          refine q_iadd cx dX12_underWayAt_24 ?_
          refine q_any (fun y592 ry592 ey592 => ?_)
          refine lv_istore_n (lv' := [(2, .int (q_i y592)), (0, .ref mo), (1, .int (q_i a0)), (3, .int (q_i v4_3))]) cx.1 cx.2.1 dX12_underWayAt_25 rfl hl (by decide) rfl (fun ls hl => ?_)
          refine q_iinc (lv' := [(3, .int (q_i (v4_3 + 1))), (2, .int (q_i y592)), (0, .ref mo), (1, .int (q_i a0))]) cx dX12_underWayAt_26 hl (k := 3) rfl (by decide) rfl (fun ls hl => ?_)
          refine lv_goto (tgt := 4) cx.1 cx.2.1 dX12_underWayAt_29 (by decide) ?_
          exact ih4 y592 (by omega) (by omega) (v4_3 + 1) (by omega) (by omega) hq_mo_13 hgr4 (by omega) H locs hB ls (lv_sub hl [2, 3, 1, 0] rfl)
        · obtain ⟨rfl, qy584⟩ := h587
          subst qy584
          refine q_cSi (As := [.int (q_i 0)]) (rest := [.int (q_i v4_2)]) cx hB (fun _ h => h) hN (r_truth0 l g hN hB.2.1 0 (by decide) (by decide)) q_cX12_78 q_dX12_truth (by decide) rfl rfl hl.1 rfl (Nat.le_of_ble_eq_true rfl) dX12_underWayAt_21 (fun y594 H locs f593 ry594 h595 hF hB => ?_)
          obtain ⟨rfl, qy594⟩ := h595
          subst qy594
          refine q_iadd cx dX12_underWayAt_24 ?_
          refine lv_istore_n (lv' := [(2, .int (q_i (v4_2 + 0))), (0, .ref mo), (1, .int (q_i a0)), (3, .int (q_i v4_3))]) cx.1 cx.2.1 dX12_underWayAt_25 rfl hl (by decide) rfl (fun ls hl => ?_)
          refine q_iinc (lv' := [(3, .int (q_i (v4_3 + 1))), (2, .int (q_i (v4_2 + 0))), (0, .ref mo), (1, .int (q_i a0))]) cx dX12_underWayAt_26 hl (k := 3) rfl (by decide) rfl (fun ls hl => ?_)
          refine lv_goto (tgt := 4) cx.1 cx.2.1 dX12_underWayAt_29 (by decide) ?_
          exact ih4 (v4_2 + 0) (by omega) (by omega) (v4_3 + 1) (by omega) (by omega) hq_mo_13 hgr4 (by omega) H locs hB ls (lv_sub hl [2, 3, 1, 0] rfl)
  obtain ⟨H, hH⟩ : ∃ H : Heap, H = s.heap := ⟨_, rfl⟩
  obtain ⟨locs, hlocs⟩ : ∃ z : List Loc, z = [] := ⟨_, rfl⟩
  rw [← hH, ← hlocs] at hB
  rw [← hH, ← hlocs]
  refine q_iconst cx dX12_underWayAt_0 ?_
  refine lv_istore_n (lv' := [(2, .int (q_i 0)), (0, .ref mo), (1, .int (q_i a0))]) cx.1 cx.2.1 dX12_underWayAt_1 rfl hl (by decide) rfl (fun ls hl => ?_)
  refine q_iconst cx dX12_underWayAt_2 ?_
  refine lv_istore_n (lv' := [(3, .int (q_i 0)), (2, .int (q_i 0)), (0, .ref mo), (1, .int (q_i a0))]) cx.1 cx.2.1 dX12_underWayAt_3 rfl hl (by decide) rfl (fun ls hl => ?_)
  exact J4 ((Int.toNat (2147483647 - 0)) + 1) 0 (by decide) (by decide) 0 (by decide) (by decide) hr0 hgr (Nat.lt_succ_self _) H locs hB ls (lv_sub hl [2, 3, 1, 0] rfl)
set_option maxHeartbeats 4000000 in
set_option maxRecDepth 100000 in
theorem r_lettersOf (l : Launch) (g : q_G) {K : Nat → Nat} {L : List Nat} (hN : L.Nodup) {f : Nat → va_E} (hT : q_Ty g K L f) (a0 : Int64) : q_Ct l g K L yX12_lettersOf cX12_lettersOf 5 (some .int) 0 0 [.long a0] f [] (q_Pi (fun (z : Int) (f1 : Nat → va_E) => f = f1 ∧ 0 ≤ z ∧ z ≤ 13)) := by
  refine q_ofb (by decide +kernel) hN hT (Nat.le_of_ble_eq_true rfl) ?_
  intro p e s m below meth c ls cx hr hlk hB hl
  have hl : lv_has ls 5 [(0, .long a0)] := hl
  have J4 : ∀ (n : Nat) (v4_2 : Int) (lv4_2 : 0 ≤ v4_2) (uv4_2 : v4_2 ≤ 13) (v4_3 : Int64) (hlb : k_lb v4_2 v4_3) (hmu : (Int.toNat (14 - v4_2)) < n) (H : Heap) (locs : List Loc) (hB : q_B g K L (fun q => q ∈ L) [] f f s H locs) (ls : Array Slot) (hl : lv_has ls 5 [(2, .int (q_i v4_2)), (3, .long v4_3)]), W p l e { frames := 0, cells := 0, slots := 0, locals := 0 } s m ([.long a0] : List Value).toArray below meth c H locs 0 0 (MQ below (q_Q g K L [] f (q_Pi (fun (z : Int) (f1 : Nat → va_E) => f = f1 ∧ 0 ≤ z ∧ z ≤ 13))) ([.long a0] : List Value).toArray s 0 0 (fun q => q ∈ L)) (F0 m 4 ls []) := by
    intro n
    induction n with
    | zero =>
      intro v4_2 lv4_2 uv4_2 v4_3 hlb hmu
      exact absurd hmu (Nat.not_lt_zero _)
    | succ n ih4 =>
      intro v4_2 lv4_2 uv4_2 v4_3 hlb hmu H locs hB ls hl
      refine q_lld_n cx dX12_lettersOf_4 rfl (lv_at hl 1 rfl) ?_
      refine q_lconst (z := 0) cx (by decide) dX12_lettersOf_5 ?_
      refine q_lcmp cx dX12_lettersOf_6 (fun y4 ly4 uy4 ey4 gy4 hy4 => ?_)
      rw [q_lInt ⟨by decide, by decide⟩] at ey4 hy4
      refine q_ifle (tgt := 20) cx ⟨by omega, by omega⟩ dX12_lettersOf_7 (by decide) (fun c5 => ?_) (fun c5 => ?_)
      · refine q_ild_n cx dX12_lettersOf_20 rfl (lv_at hl 0 rfl) ?_
        refine q_iret cx hr hlk hB dX12_lettersOf_21 ⟨by omega, by omega⟩ ?_
        exact ⟨rfl, (by omega), (by omega)⟩
      · have h13 := k_lb13 hlb (by omega)
        refine q_iinc (lv' := [(2, .int (q_i (v4_2 + 1))), (3, .long v4_3)]) cx dX12_lettersOf_10 hl (k := 0) rfl (by decide) rfl (fun ls hl => ?_)
        refine q_lld_n cx dX12_lettersOf_13 rfl (lv_at hl 1 rfl) ?_
        refine q_iconst cx dX12_lettersOf_14 ?_
        refine lv_lshr cx.1 cx.2.1 dX12_lettersOf_15 rfl ?_
        refine lv_topl (fun j6 ej6 => ?_)
        refine lv_lstore_n (lv' := [(3, .long j6), (2, .int (q_i (v4_2 + 1)))]) cx.1 cx.2.1 dX12_lettersOf_16 rfl hl (by decide) rfl (fun ls hl => ?_)
        refine lv_goto (tgt := 4) cx.1 cx.2.1 dX12_lettersOf_17 (by decide) ?_
        exact ih4 (v4_2 + 1) (by omega) (by omega) j6 (k_lb1 hlb (by omega) ej6).1 (by omega) H locs hB ls (lv_sub hl [1, 0] rfl)
  obtain ⟨H, hH⟩ : ∃ H : Heap, H = s.heap := ⟨_, rfl⟩
  obtain ⟨locs, hlocs⟩ : ∃ z : List Loc, z = [] := ⟨_, rfl⟩
  rw [← hH, ← hlocs] at hB
  rw [← hH, ← hlocs]
  refine q_iconst cx dX12_lettersOf_0 ?_
  refine lv_istore_n (lv' := [(2, .int (q_i 0)), (0, .long a0)]) cx.1 cx.2.1 dX12_lettersOf_1 rfl hl (by decide) rfl (fun ls hl => ?_)
  refine q_lld_n cx dX12_lettersOf_2 rfl (lv_at hl 1 rfl) ?_
  refine lv_lstore_n (lv' := [(3, .long a0), (2, .int (q_i 0)), (0, .long a0)]) cx.1 cx.2.1 dX12_lettersOf_3 rfl hl (by decide) rfl (fun ls hl => ?_)
  exact J4 ((Int.toNat (14 - 0)) + 1) 0 (by decide) (by decide) a0 (k_lb0 _) (Nat.lt_succ_self _) H locs hB ls (lv_sub hl [1, 0] rfl)
set_option maxHeartbeats 4000000 in
set_option maxRecDepth 100000 in
theorem r_letterOf (l : Launch) (g : q_G) {K : Nat → Nat} {L : List Nat} (hN : L.Nodup) {f : Nat → va_E} (hT : q_Ty g K L f) (a0 : Int64) (b0 : Int) (lb0 : (-2147483648) ≤ b0) (ub0 : b0 ≤ 2147483647) : q_Ct l g K L yX12_letterOf cX12_letterOf 4 (some .int) 1 25 [.long a0, .int (q_i b0)] f [] (q_Pi (fun (z : Int) (f1 : Nat → va_E) => f = f1)) := by
  refine q_ofb (by decide +kernel) hN hT (Nat.le_of_ble_eq_true rfl) ?_
  intro p e s m below meth c ls cx hr hlk hB hl
  have hl : lv_has ls 4 [(0, .long a0), (2, .int (q_i b0))] := hl
  obtain ⟨H, hH⟩ : ∃ H : Heap, H = s.heap := ⟨_, rfl⟩
  obtain ⟨locs, hlocs⟩ : ∃ z : List Loc, z = [] := ⟨_, rfl⟩
  rw [← hH, ← hlocs] at hB
  rw [← hH, ← hlocs]
  refine q_lld_n cx dX12_letterOf_0 rfl (lv_at hl 0 rfl) ?_
  refine q_cSi (As := [.long a0]) (rest := []) cx hB (fun _ h => h) hN (r_lettersOf l g hN hB.2.1 a0) q_cX12_378 q_dX12_lettersOf (by decide) rfl rfl hl.1 rfl (Nat.le_of_ble_eq_true rfl) dX12_letterOf_1 (fun y19 H locs f18 ry19 h20 hF hB => ?_)
  obtain ⟨rfl, ly19, uy19⟩ := h20
  refine lv_istore_n (lv' := [(3, .int (q_i y19)), (0, .long a0), (2, .int (q_i b0))]) cx.1 cx.2.1 dX12_letterOf_4 rfl hl (by decide) rfl (fun ls hl => ?_)
  refine q_ild_n cx dX12_letterOf_5 rfl (lv_at hl 2 rfl) ?_
  refine q_i2l cx ⟨by omega, by omega⟩ dX12_letterOf_6 ?_
  refine q_lconst (z := 0) cx (by decide) dX12_letterOf_7 ?_
  refine q_ild_n cx dX12_letterOf_8 rfl (lv_at hl 0 rfl) ?_
  refine q_iconst cx dX12_letterOf_9 ?_
  refine q_isub cx dX12_letterOf_10 ?_
  refine q_i2l cx ⟨by omega, by omega⟩ dX12_letterOf_11 ?_
  refine q_cSi (As := [.long (q_l b0), .long (q_l 0), .long (q_l (y19 - 1))]) (rest := []) cx hB (fun _ h => h) hN (r_isIn l g hN hB.2.1 b0 (by omega) (by omega) 0 (by decide) (by decide) (y19 - 1) (by omega) (by omega)) q_cX12_93 q_dX12_isIn (by decide) rfl rfl hl.1 rfl (Nat.le_of_ble_eq_true rfl) dX12_letterOf_12 (fun y22 H locs f21 ry22 h23 hF hB => ?_)
  rcases h23 with h24 | h25
  · obtain ⟨rfl, qy22, t26, t27⟩ := h24
    subst qy22
    refine q_ifeq (tgt := 38) cx ⟨by decide, by decide⟩ dX12_letterOf_15 (by decide) (fun c28 => ?_) (fun c28 => ?_)
    · exact absurd c28 (by omega)
    · refine q_lld_n cx dX12_letterOf_18 rfl (lv_at hl 1 rfl) ?_
      refine q_iconst cx dX12_letterOf_19 ?_
      refine q_ild_n cx dX12_letterOf_20 rfl (lv_at hl 0 rfl) ?_
      refine q_iconst cx dX12_letterOf_21 ?_
      refine q_isub cx dX12_letterOf_22 ?_
      refine q_ild_n cx dX12_letterOf_23 rfl (lv_at hl 2 rfl) ?_
      refine q_isub cx dX12_letterOf_24 ?_
      refine q_imul cx dX12_letterOf_25 ?_
      refine lv_lshr cx.1 cx.2.1 dX12_letterOf_26 rfl ?_
      refine lv_topl (fun j29 ej29 => ?_)
      refine lv_ldc2 (v := q_l 31) cx.1 cx.2.1 cx.2.2.2.1 (cx.2.2.2.2 _ q_h1952) dX12_letterOf_27 ?_
      refine lv_land cx.1 cx.2.1 dX12_letterOf_30 ?_
      refine lv_topl (fun j30 ej30 => ?_)
      refine q_l2i cx dX12_letterOf_31 (fun y31 ry31 ey31 => ?_)
      refine q_bipush cx dX12_letterOf_32 rfl ?_
      refine q_iadd cx dX12_letterOf_34 ?_
      refine q_any (fun y32 ry32 ey32 => ?_)
      refine lv_goto (tgt := 39) cx.1 cx.2.1 dX12_letterOf_35 (by decide) ?_
      refine q_iret cx hr hlk hB dX12_letterOf_39 ⟨by omega, by omega⟩ ?_
      exact rfl
  · obtain ⟨rfl, qy22, t33⟩ := h25
    subst qy22
    refine q_ifeq (tgt := 38) cx ⟨by decide, by decide⟩ dX12_letterOf_15 (by decide) (fun c34 => ?_) (fun c34 => ?_)
    · refine q_iconst cx dX12_letterOf_38 ?_
      refine q_iret cx hr hlk hB dX12_letterOf_39 ⟨by decide, by decide⟩ ?_
      exact rfl
    · exact absurd c34 (by omega)
set_option maxHeartbeats 4000000 in
set_option maxRecDepth 100000 in
theorem r_areIn (l : Launch) (g : q_G) {K : Nat → Nat} {L : List Nat} (hN : L.Nodup) {f : Nat → va_E} (hT : q_Ty g K L f) (mo : Nat) (hmo : mo ∈ L) (kmo : K mo = 12) (a0 : Int) (la0 : 0 ≤ a0) (ua0 : a0 ≤ 9) (b0 : Int) (lb0 : 0 ≤ b0) (ub0 : b0 ≤ 9) (sr : Nat) (hsr : sr ∈ L) (ksr : K sr = 151) (hr0 : q_ir (q_r f mo 13) sr) (hgr : q_gr f sr) : q_Ct l g K L yX12_areIn cX12_areIn 3 (some .boolean) 3 64 [.ref mo, .int (q_i a0), .int (q_i b0)] f [] (q_Pi (fun (z : Int) (f1 : Nat → va_E) => f = f1 ∧ 0 ≤ z ∧ z ≤ 1)) := by
  refine q_ofb (by decide +kernel) hN hT (Nat.le_of_ble_eq_true rfl) ?_
  intro p e s m below meth c ls cx hr hlk hB hl
  have hl : lv_has ls 3 [(0, .ref mo), (1, .int (q_i a0)), (2, .int (q_i b0))] := hl
  obtain ⟨H, hH⟩ : ∃ H : Heap, H = s.heap := ⟨_, rfl⟩
  obtain ⟨locs, hlocs⟩ : ∃ z : List Loc, z = [] := ⟨_, rfl⟩
  rw [← hH, ← hlocs] at hB
  rw [← hH, ← hlocs]
  refine q_ald_n cx dX12_areIn_0 rfl (lv_at hl 0 rfl) ?_
  refine q_ild_n cx dX12_areIn_1 rfl (lv_at hl 1 rfl) ?_
  refine q_cVi (As := [.int (q_i a0)]) (rest := []) cx hB (fun _ h => h) hN hmo kmo (by decide) rfl (r_isOut l g hN hB.2.1 mo hmo kmo a0 (by omega) (by omega) sr hsr ksr hr0 hgr) q_cX12_271 q_dX12_isOut (by decide) rfl rfl hl.1 rfl (Nat.le_of_ble_eq_true rfl) dX12_areIn_2 (fun y10 H locs f9 ry10 h11 hF hB => ?_)
  obtain ⟨rfl, ly10, uy10⟩ := h11
  refine q_ifne (tgt := 20) cx ⟨by omega, by omega⟩ dX12_areIn_5 (by decide) (fun c12 => ?_) (fun c12 => ?_)
  · refine q_iconst cx dX12_areIn_20 ?_
    refine q_zret cx hr hlk hB dX12_areIn_21 (by decide) (by decide) ?_
    exact ⟨rfl, (by decide), (by decide)⟩
  · refine q_ald_n cx dX12_areIn_8 rfl (lv_at hl 0 rfl) ?_
    refine q_ild_n cx dX12_areIn_9 rfl (lv_at hl 2 rfl) ?_
    refine q_cVi (As := [.int (q_i b0)]) (rest := []) cx hB (fun _ h => h) hN hmo kmo (by decide) rfl (r_isOut l g hN hB.2.1 mo hmo kmo b0 (by omega) (by omega) sr hsr ksr hr0 hgr) q_cX12_271 q_dX12_isOut (by decide) rfl rfl hl.1 rfl (Nat.le_of_ble_eq_true rfl) dX12_areIn_10 (fun y14 H locs f13 ry14 h15 hF hB => ?_)
    obtain ⟨rfl, ly14, uy14⟩ := h15
    refine q_ifne (tgt := 20) cx ⟨by omega, by omega⟩ dX12_areIn_13 (by decide) (fun c16 => ?_) (fun c16 => ?_)
    · refine q_iconst cx dX12_areIn_20 ?_
      refine q_zret cx hr hlk hB dX12_areIn_21 (by decide) (by decide) ?_
      exact ⟨rfl, (by decide), (by decide)⟩
    · refine q_iconst cx dX12_areIn_16 ?_
      refine lv_goto (tgt := 21) cx.1 cx.2.1 dX12_areIn_17 (by decide) ?_
      refine q_zret cx hr hlk hB dX12_areIn_21 (by decide) (by decide) ?_
      exact ⟨rfl, (by decide), (by decide)⟩
set_option maxHeartbeats 4000000 in
set_option maxRecDepth 100000 in
theorem r_lateness (l : Launch) (g : q_G) {K : Nat → Nat} {L : List Nat} (hN : L.Nodup) {f : Nat → va_E} (hT : q_Ty g K L f) (mo : Nat) (hmo : mo ∈ L) (kmo : K mo = 12) (a0 : Int) (la0 : 0 ≤ a0) (ua0 : a0 ≤ 9) (b0 : Int) (lb0 : 0 ≤ b0) (ub0 : b0 ≤ 9) (sr : Nat) (hsr : sr ∈ L) (ksr : K sr = 151) (hr0 : q_ir (q_r f mo 13) sr) (hgr : q_gr f sr) : q_Ct l g K L yX12_lateness cX12_lateness 4 (some .int) 6 135 [.ref mo, .int (q_i a0), .int (q_i b0)] f [] (q_Pi (fun (z : Int) (f1 : Nat → va_E) => f = f1 ∧ 0 ≤ z ∧ z ≤ 1000)) := by
  refine q_ofb (by decide +kernel) hN hT (Nat.le_of_ble_eq_true rfl) ?_
  intro p e s m below meth c ls cx hr hlk hB hl
  have hl : lv_has ls 4 [(0, .ref mo), (1, .int (q_i a0)), (2, .int (q_i b0))] := hl
  obtain ⟨H, hH⟩ : ∃ H : Heap, H = s.heap := ⟨_, rfl⟩
  obtain ⟨locs, hlocs⟩ : ∃ z : List Loc, z = [] := ⟨_, rfl⟩
  rw [← hH, ← hlocs] at hB
  rw [← hH, ← hlocs]
  refine q_ald_n cx dX12_lateness_0 rfl (lv_at hl 0 rfl) ?_
  refine q_ild_n cx dX12_lateness_1 rfl (lv_at hl 1 rfl) ?_
  refine q_ild_n cx dX12_lateness_2 rfl (lv_at hl 2 rfl) ?_
  refine q_cVi (As := [.int (q_i a0), .int (q_i b0)]) (rest := []) cx hB (fun _ h => h) hN hmo kmo (by decide) rfl (r_meeting l g hN hB.2.1 mo hmo kmo a0 (by omega) (by omega) b0 (by omega) (by omega) sr hsr ksr hr0 hgr) q_cX12_393 q_dX12_meeting (by decide) rfl rfl hl.1 rfl (Nat.le_of_ble_eq_true rfl) dX12_lateness_3 (fun y6 H locs f5 ry6 h7 hF hB => ?_)
  obtain ⟨rfl, ly6, uy6⟩ := h7
  refine lv_istore_n (lv' := [(3, .int (q_i y6)), (0, .ref mo), (1, .int (q_i a0)), (2, .int (q_i b0))]) cx.1 cx.2.1 dX12_lateness_6 rfl hl (by decide) rfl (fun ls hl => ?_)
  refine q_ild_n cx dX12_lateness_7 rfl (lv_at hl 0 rfl) ?_
  refine q_iconst cx dX12_lateness_8 ?_
  refine q_icne (tgt := 18) cx ⟨by omega, by omega⟩ ⟨by decide, by decide⟩ dX12_lateness_9 (by decide) (fun c8 => ?_) (fun c8 => ?_)
  · refine q_ild_n cx dX12_lateness_18 rfl (lv_at hl 0 rfl) ?_
    refine q_iret cx hr hlk hB dX12_lateness_19 ⟨by omega, by omega⟩ ?_
    exact ⟨rfl, (by omega), (by omega)⟩
  · refine q_sipush cx dX12_lateness_12 rfl ?_
    refine lv_goto (tgt := 19) cx.1 cx.2.1 dX12_lateness_15 (by decide) ?_
    refine q_iret cx hr hlk hB dX12_lateness_19 ⟨by decide, by decide⟩ ?_
    exact ⟨rfl, (by decide), (by decide)⟩
set_option maxHeartbeats 4000000 in
set_option maxRecDepth 100000 in
theorem r_there (l : Launch) (g : q_G) {K : Nat → Nat} {L : List Nat} (hN : L.Nodup) {f : Nat → va_E} (hT : q_Ty g K L f) (mo : Nat) (hmo : mo ∈ L) (kmo : K mo = 12) (a0 : Int) (la0 : 0 ≤ a0) (ua0 : a0 ≤ 60) (sr : Nat) (hsr : sr ∈ L) (ksr : K sr = 151) (hp : Nat) (hhp : hp ∈ L) (khp : K hp = 159) (dy : Nat) (hdy : dy ∈ L) (kdy : K dy = 160) (xt : Int) (lxt : 0 ≤ xt) (uxt : xt ≤ 9999) (xm : Int) (lxm : 0 ≤ xm) (uxm : xm ≤ 61) (hf0 : q_is (q_z f sr 3) xt) (hf1 : q_is (q_z f sr 4) xm) (hr0 : q_ir (q_r f mo 13) sr) (hr1 : q_ir (q_r f mo 24) hp) (hr2 : q_ir (q_r f mo 25) dy) (hgr : q_gr f sr) : q_Ct l g K L yX12_there cX12_there 4 (some .int) 9 205 [.ref mo, .int (q_i a0)] f [(12, 26, 28), (151, 3, 3), (151, 9, 9), (151, 11, 87), (151, 92, 169), (151, 172, 657), (159, 0, 9), (160, 0, 9)] (q_Pi (fun (z : Int) (f1 : Nat → va_E) => (-1) ≤ z ∧ z ≤ 200 ∧ q_is (q_z f1 sr 4) xm ∧ q_gr f1 sr)) := by
  refine q_ofb (by decide +kernel) hN hT (Nat.le_of_ble_eq_true rfl) ?_
  intro p e s m below meth c ls cx hr hlk hB hl
  have hl : lv_has ls 4 [(0, .ref mo), (1, .int (q_i a0))] := hl
  have J4 : ∀ (n : Nat) (f4 : Nat → va_E) (v4_2 : Int) (lv4_2 : 0 ≤ v4_2) (uv4_2 : v4_2 ≤ 200) (v4_3 : Int) (lv4_3 : (-2147483648) ≤ v4_3) (uv4_3 : v4_3 ≤ 2147483647) (w4_sr_3 : Int) (lw4_sr_3 : 0 ≤ w4_sr_3) (uw4_sr_3 : w4_sr_3 ≤ 10199) (hj_sr_4 : q_is (q_z f4 sr 4) xm) (hj_sr_3 : q_is (q_z f4 sr 3) w4_sr_3) (hq_mo_13 : q_ir (q_r f4 mo 13) sr) (hq_mo_24 : q_ir (q_r f4 mo 24) hp) (hq_mo_25 : q_ir (q_r f4 mo 25) dy) (hgr4 : q_gr f4 sr) (hrl4_0 : 0 ≤ 1 * w4_sr_3 + -1 * xt + -1 * v4_2 + 0 ∧ 1 * w4_sr_3 + -1 * xt + -1 * v4_2 + 0 ≤ 0) (hrl4_1 : 0 ≤ 1 * v4_2 + 0 ∧ 1 * v4_2 + 0 ≤ 200) (hmu : (Int.toNat (201 - v4_2)) < n) (H : Heap) (locs : List Loc) (hB : q_B g K L (fun q => q ∈ L) [(12, 26, 28), (151, 3, 3), (151, 9, 9), (151, 11, 87), (151, 92, 169), (151, 172, 657), (159, 0, 9), (160, 0, 9)] f f4 s H locs) (ls : Array Slot) (hl : lv_has ls 4 [(0, .ref mo), (1, .int (q_i a0)), (2, .int (q_i v4_2)), (3, .int (q_i v4_3))]), W p l e { frames := 9, cells := 0, slots := 0, locals := 205 } s m ([.ref mo, .int (q_i a0)] : List Value).toArray below meth c H locs 0 0 (MQ below (q_Q g K L [(12, 26, 28), (151, 3, 3), (151, 9, 9), (151, 11, 87), (151, 92, 169), (151, 172, 657), (159, 0, 9), (160, 0, 9)] f (q_Pi (fun (z : Int) (f1 : Nat → va_E) => (-1) ≤ z ∧ z ≤ 200 ∧ q_is (q_z f1 sr 4) xm ∧ q_gr f1 sr))) ([.ref mo, .int (q_i a0)] : List Value).toArray s 0 0 (fun q => q ∈ L)) (F0 m 4 ls []) := by
    intro n
    induction n with
    | zero =>
      intro f4 v4_2 lv4_2 uv4_2 v4_3 lv4_3 uv4_3 w4_sr_3 lw4_sr_3 uw4_sr_3 hj_sr_4 hj_sr_3 hq_mo_13 hq_mo_24 hq_mo_25 hgr4 hrl4_0 hrl4_1 hmu
      exact absurd hmu (Nat.not_lt_zero _)
    | succ n ih4 =>
      intro f4 v4_2 lv4_2 uv4_2 v4_3 lv4_3 uv4_3 w4_sr_3 lw4_sr_3 uw4_sr_3 hj_sr_4 hj_sr_3 hq_mo_13 hq_mo_24 hq_mo_25 hgr4 hrl4_0 hrl4_1 hmu H locs hB ls hl
      refine q_ild_n cx dX12_there_4 rfl (lv_at hl 2 rfl) ?_
      refine q_sipush cx dX12_there_5 rfl ?_
      refine q_icge (tgt := 33) cx ⟨by omega, by omega⟩ ⟨by decide, by decide⟩ dX12_there_8 (by decide) (fun c54 => ?_) (fun c54 => ?_)
      · refine q_ald_n cx dX12_there_33 rfl (lv_at hl 0 rfl) ?_
        refine q_ild_n cx dX12_there_34 rfl (lv_at hl 1 rfl) ?_
        refine q_iconst cx dX12_there_35 ?_
        refine q_cVi (As := [.int (q_i a0), .int (q_i 3)]) (rest := []) cx hB (fun _ h => h) hN hmo kmo (by decide) rfl (r_ofMessage3 l g hN hB.2.1 mo hmo kmo a0 (by omega) (by omega) 3 (by decide) (by decide) sr hsr ksr hq_mo_13 hgr4) q_cX12_308 q_dX12_ofMessage (by decide) rfl rfl hl.1 rfl (Nat.le_of_ble_eq_true rfl) dX12_there_36 (fun y56 H locs f55 ry56 h57 hF hB => ?_)
        obtain ⟨rfl, ly56, uy56, t58⟩ := h57
        refine q_iconst cx dX12_there_39 ?_
        refine q_icne (tgt := 47) cx ⟨by omega, by omega⟩ ⟨by decide, by decide⟩ dX12_there_40 (by decide) (fun c59 => ?_) (fun c59 => ?_)
        · refine q_iconst cx dX12_there_47 ?_
          refine q_iret cx hr hlk hB dX12_there_48 ⟨by decide, by decide⟩ ?_
          exact ⟨(by decide), (by decide), hj_sr_4, hgr4⟩
        · refine q_ild_n cx dX12_there_43 rfl (lv_at hl 2 rfl) ?_
          refine lv_goto (tgt := 48) cx.1 cx.2.1 dX12_there_44 (by decide) ?_
          refine q_iret cx hr hlk hB dX12_there_48 ⟨by omega, by omega⟩ ?_
          exact ⟨(by omega), (by omega), hj_sr_4, hgr4⟩
      · refine q_ald_n cx dX12_there_11 rfl (lv_at hl 0 rfl) ?_
        refine q_ild_n cx dX12_there_12 rfl (lv_at hl 1 rfl) ?_
        refine q_iconst cx dX12_there_13 ?_
        refine q_cVi (As := [.int (q_i a0), .int (q_i 3)]) (rest := []) cx hB (fun _ h => h) hN hmo kmo (by decide) rfl (r_ofMessage3 l g hN hB.2.1 mo hmo kmo a0 (by omega) (by omega) 3 (by decide) (by decide) sr hsr ksr hq_mo_13 hgr4) q_cX12_308 q_dX12_ofMessage (by decide) rfl rfl hl.1 rfl (Nat.le_of_ble_eq_true rfl) dX12_there_14 (fun y61 H locs f60 ry61 h62 hF hB => ?_)
        obtain ⟨rfl, ly61, uy61, t63⟩ := h62
        refine q_ifne (tgt := 33) cx ⟨by omega, by omega⟩ dX12_there_17 (by decide) (fun c64 => ?_) (fun c64 => ?_)
        · refine q_ald_n cx dX12_there_33 rfl (lv_at hl 0 rfl) ?_
          refine q_ild_n cx dX12_there_34 rfl (lv_at hl 1 rfl) ?_
          refine q_iconst cx dX12_there_35 ?_
          refine q_cVi (As := [.int (q_i a0), .int (q_i 3)]) (rest := []) cx hB (fun _ h => h) hN hmo kmo (by decide) rfl (r_ofMessage3 l g hN hB.2.1 mo hmo kmo a0 (by omega) (by omega) 3 (by decide) (by decide) sr hsr ksr hq_mo_13 hgr4) q_cX12_308 q_dX12_ofMessage (by decide) rfl rfl hl.1 rfl (Nat.le_of_ble_eq_true rfl) dX12_there_36 (fun y66 H locs f65 ry66 h67 hF hB => ?_)
          obtain ⟨rfl, ly66, uy66, t68⟩ := h67
          refine q_iconst cx dX12_there_39 ?_
          refine q_icne (tgt := 47) cx ⟨by omega, by omega⟩ ⟨by decide, by decide⟩ dX12_there_40 (by decide) (fun c69 => ?_) (fun c69 => ?_)
          · refine q_iconst cx dX12_there_47 ?_
            refine q_iret cx hr hlk hB dX12_there_48 ⟨by decide, by decide⟩ ?_
            exact ⟨(by decide), (by decide), hj_sr_4, hgr4⟩
          · refine q_ild_n cx dX12_there_43 rfl (lv_at hl 2 rfl) ?_
            refine lv_goto (tgt := 48) cx.1 cx.2.1 dX12_there_44 (by decide) ?_
            refine q_iret cx hr hlk hB dX12_there_48 ⟨by omega, by omega⟩ ?_
            exact ⟨(by omega), (by omega), hj_sr_4, hgr4⟩
        · refine q_ild_n cx dX12_there_20 rfl (lv_at hl 3 rfl) ?_
          refine q_ald_n cx dX12_there_21 rfl (lv_at hl 0 rfl) ?_
          refine q_cVi (As := []) (rest := [.int (q_i v4_3)]) cx hB (fun _ h => h) hN hmo kmo (by decide) rfl (r_ticksOnce l g hN hB.2.1 mo hmo kmo sr hsr ksr hp hhp khp dy hdy kdy w4_sr_3 (by omega) (by omega) xm (by omega) (by omega) hj_sr_3 hj_sr_4 hq_mo_13 hq_mo_24 hq_mo_25 hgr4) q_cX12_338 q_dX12_ticksOnce (by decide) rfl rfl hl.1 rfl (Nat.le_of_ble_eq_true rfl) dX12_there_22 (fun y71 H locs f70 ry71 h72 hF hB => ?_)
          obtain ⟨z73, z74, g75⟩ := h72
          have z76 : q_is (q_z f70 sr 4) xm := Eq.trans (hF.z hsr (by rw [ksr]; rfl)) hj_sr_4
          have z77 : q_ir (q_r f70 mo 13) sr := Eq.trans (hF.r hmo (by rw [kmo]; rfl)) hq_mo_13
          have z78 : q_ir (q_r f70 mo 24) hp := Eq.trans (hF.r hmo (by rw [kmo]; rfl)) hq_mo_24
          have z79 : q_ir (q_r f70 mo 25) dy := Eq.trans (hF.r hmo (by rw [kmo]; rfl)) hq_mo_25
          refine q_iadd cx dX12_there_25 ?_
          refine q_any (fun y80 ry80 ey80 => ?_)
          refine lv_istore_n (lv' := [(3, .int (q_i y80)), (0, .ref mo), (1, .int (q_i a0)), (2, .int (q_i v4_2))]) cx.1 cx.2.1 dX12_there_26 rfl hl (by decide) rfl (fun ls hl => ?_)
          refine q_iinc (lv' := [(2, .int (q_i (v4_2 + 1))), (3, .int (q_i y80)), (0, .ref mo), (1, .int (q_i a0))]) cx dX12_there_27 hl (k := 3) rfl (by decide) rfl (fun ls hl => ?_)
          refine lv_goto (tgt := 4) cx.1 cx.2.1 dX12_there_30 (by decide) ?_
          exact ih4 f70 (v4_2 + 1) (by omega) (by omega) y80 (by omega) (by omega) (w4_sr_3 + 1) (by omega) (by omega) z74 z73 z77 z78 z79 g75 (by omega) (by omega) (by omega) H locs hB ls (lv_sub hl [2, 3, 0, 1] rfl)
  obtain ⟨H, hH⟩ : ∃ H : Heap, H = s.heap := ⟨_, rfl⟩
  obtain ⟨locs, hlocs⟩ : ∃ z : List Loc, z = [] := ⟨_, rfl⟩
  rw [← hH, ← hlocs] at hB
  rw [← hH, ← hlocs]
  refine q_iconst cx dX12_there_0 ?_
  refine lv_istore_n (lv' := [(2, .int (q_i 0)), (0, .ref mo), (1, .int (q_i a0))]) cx.1 cx.2.1 dX12_there_1 rfl hl (by decide) rfl (fun ls hl => ?_)
  refine q_iconst cx dX12_there_2 ?_
  refine lv_istore_n (lv' := [(3, .int (q_i 0)), (2, .int (q_i 0)), (0, .ref mo), (1, .int (q_i a0))]) cx.1 cx.2.1 dX12_there_3 rfl hl (by decide) rfl (fun ls hl => ?_)
  exact J4 ((Int.toNat (201 - 0)) + 1) f 0 (by decide) (by decide) 0 (by decide) (by decide) xt (by omega) (by omega) hf1 hf0 hr0 hr1 hr2 hgr (by omega) (by omega) (Nat.lt_succ_self _) H locs hB ls (lv_sub hl [2, 3, 1, 0] rfl)
