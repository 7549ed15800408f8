set_option maxHeartbeats 4000000 in
set_option maxRecDepth 100000 in
theorem r_isOut (l : Launch) (g : q_G) {K : Nat → Nat} {L : List Nat} (hN : L.Nodup) {f : Nat → va_E} (hT : q_Ty g K L f) (mo : Nat) (hmo : mo ∈ L) (kmo : K mo = 12) (a0 : Int) (la0 : 0 ≤ a0) (ua0 : a0 ≤ 9) (sr : Nat) (hsr : sr ∈ L) (ksr : K sr = 151) (hr0 : q_ir (q_r f mo 13) sr) (hgr : q_gr f sr) : q_Ct l g K L yX12_isOut cX12_isOut 2 (some .boolean) 2 43 [.ref mo, .int (q_i a0)] f [] (q_Pi (fun (z : Int) (f1 : Nat → va_E) => f = f1 ∧ 0 ≤ z ∧ z ≤ 1)) := by
  refine q_ofb (by decide +kernel) hN hT (Nat.le_of_ble_eq_true rfl) ?_
  intro p e s m below meth c ls cx hr hlk hB hl
  have hl : lv_has ls 2 [(0, .ref mo), (1, .int (q_i a0))] := hl
  obtain ⟨H, hH⟩ : ∃ H : Heap, H = s.heap := ⟨_, rfl⟩
  obtain ⟨locs, hlocs⟩ : ∃ z : List Loc, z = [] := ⟨_, rfl⟩
  rw [← hH, ← hlocs] at hB
  rw [← hH, ← hlocs]
  refine q_ald_n cx dX12_isOut_0 rfl (lv_at hl 0 rfl) ?_
  refine q_ild_n cx dX12_isOut_1 rfl (lv_at hl 1 rfl) ?_
  refine q_iconst cx dX12_isOut_2 ?_
  refine q_cVi (As := [.int (q_i a0), .int (q_i 2)]) (rest := []) cx hB (fun _ h => h) hN hmo kmo (by decide) rfl (r_ofNode2 l g hN hB.2.1 mo hmo kmo a0 (by omega) (by omega) 2 (by decide) (by decide) sr hsr ksr hr0 hgr) q_cX12_256 q_dX12_ofNode (by decide) rfl rfl hl.1 rfl (Nat.le_of_ble_eq_true rfl) dX12_isOut_3 (fun y7 H locs f6 ry7 h8 hF hB => ?_)
  obtain ⟨rfl, ly7, uy7, t9⟩ := h8
  refine q_ifne (tgt := 13) cx ⟨by omega, by omega⟩ dX12_isOut_6 (by decide) (fun c10 => ?_) (fun c10 => ?_)
  · refine q_iconst cx dX12_isOut_13 ?_
    refine q_zret cx hr hlk hB dX12_isOut_14 (by decide) (by decide) ?_
    exact ⟨rfl, (by decide), (by decide)⟩
  · refine q_iconst cx dX12_isOut_9 ?_
    refine lv_goto (tgt := 14) cx.1 cx.2.1 dX12_isOut_10 (by decide) ?_
    refine q_zret cx hr hlk hB dX12_isOut_14 (by decide) (by decide) ?_
    exact ⟨rfl, (by decide), (by decide)⟩
set_option maxHeartbeats 4000000 in
set_option maxRecDepth 100000 in
theorem r_dayIn (l : Launch) (g : q_G) {K : Nat → Nat} {L : List Nat} (hN : L.Nodup) {f : Nat → va_E} (hT : q_Ty g K L f) (mo : Nat) (hmo : mo ∈ L) (kmo : K mo = 12) (a0 : Int) (la0 : 0 ≤ a0) (ua0 : a0 ≤ 9) (b0 : Int) (lb0 : 0 ≤ b0) (ub0 : b0 ≤ 200) (sr : Nat) (hsr : sr ∈ L) (ksr : K sr = 151) (hr0 : q_ir (q_r f mo 13) sr) (hgr : q_gr f sr) : q_Ct l g K L yX12_dayIn cX12_dayIn 3 (some .int) 2 43 [.ref mo, .int (q_i a0), .int (q_i b0)] f [] (q_Pi (fun (z : Int) (f1 : Nat → va_E) => f = f1 ∧ 0 ≤ z ∧ z ≤ 59)) := by
  refine q_ofb (by decide +kernel) hN hT (Nat.le_of_ble_eq_true rfl) ?_
  intro p e s m below meth c ls cx hr hlk hB hl
  have hl : lv_has ls 3 [(0, .ref mo), (1, .int (q_i a0)), (2, .int (q_i b0))] := hl
  obtain ⟨H, hH⟩ : ∃ H : Heap, H = s.heap := ⟨_, rfl⟩
  obtain ⟨locs, hlocs⟩ : ∃ z : List Loc, z = [] := ⟨_, rfl⟩
  rw [← hH, ← hlocs] at hB
  rw [← hH, ← hlocs]
  refine q_ald_n cx dX12_dayIn_0 rfl (lv_at hl 0 rfl) ?_
  refine q_gX12_20 cx hB hmo kmo hr0 dX12_dayIn_1 (fun hb11 kb11 => ?_)
  refine q_iconst cx dX12_dayIn_4 ?_
  obtain ⟨x12, ex12⟩ : ∃ zz, q_is (q_z f sr (Int.toNat 3)) zz := ⟨_, q_isr _⟩
  refine q_sald cx hB hsr ksr (by decide) (by decide) ex12 dX12_dayIn_5 (fun rx12 => ?_)
  obtain ⟨lx12, ux12⟩ : 0 ≤ x12 ∧ x12 ≤ 20000 := q_isb ex12 (q_gr_at hgr (by decide) rfl)
  refine q_ild_n cx dX12_dayIn_6 rfl (lv_at hl 2 rfl) ?_
  refine q_iadd cx dX12_dayIn_7 ?_
  refine q_ald_n cx dX12_dayIn_8 rfl (lv_at hl 0 rfl) ?_
  refine q_ild_n cx dX12_dayIn_9 rfl (lv_at hl 1 rfl) ?_
  refine q_iconst cx dX12_dayIn_10 ?_
  refine q_cVi (As := [.int (q_i a0), .int (q_i 1)]) (rest := [.int (q_i (x12 + b0))]) cx hB (fun _ h => h) hN hmo kmo (by decide) rfl (r_ofNode1 l g hN hB.2.1 mo hmo kmo a0 (by omega) (by omega) 1 (by decide) (by decide) sr hsr ksr hr0 hgr) q_cX12_256 q_dX12_ofNode (by decide) rfl rfl hl.1 rfl (Nat.le_of_ble_eq_true rfl) dX12_dayIn_11 (fun y15 H locs f14 ry15 h16 hF hB => ?_)
  obtain ⟨rfl, ly15, uy15⟩ := h16
  refine q_iadd cx dX12_dayIn_14 ?_
  refine q_ald_n cx dX12_dayIn_15 rfl (lv_at hl 0 rfl) ?_
  refine q_gX12_20 cx hB hmo kmo hr0 dX12_dayIn_16 (fun hb17 kb17 => ?_)
  refine q_iconst cx dX12_dayIn_19 ?_
  obtain ⟨x18, ex18⟩ : ∃ zz, q_is (q_z f sr (Int.toNat 2)) zz := ⟨_, q_isr _⟩
  refine q_sald cx hB hsr ksr (by decide) (by decide) ex18 dX12_dayIn_20 (fun rx18 => ?_)
  obtain ⟨lx18, ux18⟩ : 4 ≤ x18 ∧ x18 ≤ 60 := q_isb ex18 (q_gr_at hgr (by decide) rfl)
  refine q_irem cx ⟨by omega, by omega⟩ ⟨by omega, by omega⟩ (by omega) dX12_dayIn_21 (fun y20 ey20 ay20 by20 ny20 => ?_)
  refine q_iret cx hr hlk hB dX12_dayIn_22 ⟨by omega, by omega⟩ ?_
  exact ⟨rfl, (by omega), (by omega)⟩
set_option maxHeartbeats 4000000 in
set_option maxRecDepth 100000 in
theorem r_dayOf (l : Launch) (g : q_G) {K : Nat → Nat} {L : List Nat} (hN : L.Nodup) {f : Nat → va_E} (hT : q_Ty g K L f) (mo : Nat) (hmo : mo ∈ L) (kmo : K mo = 12) (a0 : Int) (la0 : 0 ≤ a0) (ua0 : a0 ≤ 9) (sr : Nat) (hsr : sr ∈ L) (ksr : K sr = 151) (hr0 : q_ir (q_r f mo 13) sr) (hgr : q_gr f sr) : q_Ct l g K L yX12_dayOf cX12_dayOf 2 (some .int) 3 65 [.ref mo, .int (q_i a0)] f [] (q_Pi (fun (z : Int) (f1 : Nat → va_E) => f = f1 ∧ 0 ≤ z ∧ z ≤ 59)) := by
  refine q_ofb (by decide +kernel) hN hT (Nat.le_of_ble_eq_true rfl) ?_
  intro p e s m below meth c ls cx hr hlk hB hl
  have hl : lv_has ls 2 [(0, .ref mo), (1, .int (q_i a0))] := hl
  obtain ⟨H, hH⟩ : ∃ H : Heap, H = s.heap := ⟨_, rfl⟩
  obtain ⟨locs, hlocs⟩ : ∃ z : List Loc, z = [] := ⟨_, rfl⟩
  rw [← hH, ← hlocs] at hB
  rw [← hH, ← hlocs]
  refine q_ald_n cx dX12_dayOf_0 rfl (lv_at hl 0 rfl) ?_
  refine q_ild_n cx dX12_dayOf_1 rfl (lv_at hl 1 rfl) ?_
  refine q_iconst cx dX12_dayOf_2 ?_
  refine q_cVi (As := [.int (q_i a0), .int (q_i 0)]) (rest := []) cx hB (fun _ h => h) hN hmo kmo (by decide) rfl (r_dayIn l g hN hB.2.1 mo hmo kmo a0 (by omega) (by omega) 0 (by decide) (by decide) sr hsr ksr hr0 hgr) q_cX12_259 q_dX12_dayIn (by decide) rfl rfl hl.1 rfl (Nat.le_of_ble_eq_true rfl) dX12_dayOf_3 (fun y5 H locs f4 ry5 h6 hF hB => ?_)
  obtain ⟨rfl, ly5, uy5⟩ := h6
  refine q_iret cx hr hlk hB dX12_dayOf_6 ⟨by omega, by omega⟩ ?_
  exact ⟨rfl, (by omega), (by omega)⟩
set_option maxHeartbeats 4000000 in
set_option maxRecDepth 100000 in
theorem r_isWatched (l : Launch) (g : q_G) {K : Nat → Nat} {L : List Nat} (hN : L.Nodup) {f : Nat → va_E} (hT : q_Ty g K L f) (mo : Nat) (hmo : mo ∈ L) (kmo : K mo = 12) (a0 : Int) (la0 : 0 ≤ a0) (ua0 : a0 ≤ 9) (b0 : Int) (lb0 : 0 ≤ b0) (ub0 : b0 ≤ 59) (sr : Nat) (hsr : sr ∈ L) (ksr : K sr = 151) (hr0 : q_ir (q_r f mo 13) sr) (hgr : q_gr f sr) : q_Ct l g K L yX12_isWatched cX12_isWatched 3 (some .boolean) 2 43 [.ref mo, .int (q_i a0), .int (q_i b0)] f [] (q_Pi (fun (z : Int) (f1 : Nat → va_E) => f = f1 ∧ 0 ≤ z ∧ z ≤ 1)) := by
  refine q_ofb (by decide +kernel) hN hT (Nat.le_of_ble_eq_true rfl) ?_
  intro p e s m below meth c ls cx hr hlk hB hl
  have hl : lv_has ls 3 [(0, .ref mo), (1, .int (q_i a0)), (2, .int (q_i b0))] := hl
  obtain ⟨H, hH⟩ : ∃ H : Heap, H = s.heap := ⟨_, rfl⟩
  obtain ⟨locs, hlocs⟩ : ∃ z : List Loc, z = [] := ⟨_, rfl⟩
  rw [← hH, ← hlocs] at hB
  rw [← hH, ← hlocs]
  refine q_ald_n cx dX12_isWatched_0 rfl (lv_at hl 0 rfl) ?_
  refine q_ild_n cx dX12_isWatched_1 rfl (lv_at hl 1 rfl) ?_
  refine q_bipush cx dX12_isWatched_2 rfl ?_
  refine q_ild_n cx dX12_isWatched_4 rfl (lv_at hl 2 rfl) ?_
  refine q_bipush cx dX12_isWatched_5 rfl ?_
  refine q_idiv cx ⟨by omega, by omega⟩ ⟨by decide, by decide⟩ (by omega) dX12_isWatched_7 ?_
  obtain ⟨y9, ey9⟩ : ∃ zz, Int.tdiv b0 30 = zz := ⟨_, rfl⟩
  obtain ⟨ly9, my9, uy9⟩ := q_tdb (x := b0) (y := 30) (by omega) (by decide)
  rw [ey9] at ly9 my9 uy9
  rw [ey9]
  refine q_iadd cx dX12_isWatched_8 ?_
  refine q_cVi (As := [.int (q_i a0), .int (q_i (6 + y9))]) (rest := []) cx hB (fun _ h => h) hN hmo kmo (by decide) rfl (r_ofNodex l g hN hB.2.1 mo hmo kmo a0 (by omega) (by omega) (6 + y9) (by omega) (by omega) sr hsr ksr hr0) q_cX12_256 q_dX12_ofNode (by decide) rfl rfl hl.1 rfl (Nat.le_of_ble_eq_true rfl) dX12_isWatched_9 (fun y11 H locs f10 ry11 h12 hF hB => ?_)
  obtain rfl := h12
  refine q_ild_n cx dX12_isWatched_12 rfl (lv_at hl 2 rfl) ?_
  refine q_bipush cx dX12_isWatched_13 rfl ?_
  refine q_irem cx ⟨by omega, by omega⟩ ⟨by decide, by decide⟩ (by omega) dX12_isWatched_15 (fun y13 ey13 ay13 by13 ny13 => ?_)
  refine q_cSi (As := [.int (q_i y11), .int (q_i y13)]) (rest := []) cx hB (fun _ h => h) hN (r_has l g hN hB.2.1 y11 (by omega) (by omega) y13 (by omega) (by omega)) q_cX12_185 q_dX12_has (by decide) rfl rfl hl.1 rfl (Nat.le_of_ble_eq_true rfl) dX12_isWatched_16 (fun y15 H locs f14 ry15 h16 hF hB => ?_)
  obtain ⟨rfl, ly15, uy15⟩ := h16
  refine q_zret cx hr hlk hB dX12_isWatched_19 (by omega) (by omega) ?_
  exact ⟨rfl, (by omega), (by omega)⟩
set_option maxHeartbeats 4000000 in
set_option maxRecDepth 100000 in
theorem r_neighbours (l : Launch) (g : q_G) {K : Nat → Nat} {L : List Nat} (hN : L.Nodup) {f : Nat → va_E} (hT : q_Ty g K L f) (mo : Nat) (hmo : mo ∈ L) (kmo : K mo = 12) (a0 : Int) (la0 : (-2147483648) ≤ a0) (ua0 : a0 ≤ 2147483647) (sr : Nat) (hsr : sr ∈ L) (ksr : K sr = 151) (hr0 : q_ir (q_r f mo 13) sr) (hgr : q_gr f sr) : q_Ct l g K L yX12_neighbours cX12_neighbours 4 (some .int) 1 22 [.ref mo, .int (q_i a0)] f [] (q_Pi (fun (z : Int) (f1 : Nat → va_E) => f = f1)) := by
  refine q_ofb (by decide +kernel) hN hT (Nat.le_of_ble_eq_true rfl) ?_
  intro p e s m below meth c ls cx hr hlk hB hl
  have hl : lv_has ls 4 [(0, .ref mo), (1, .int (q_i a0))] := hl
  have J4 : ∀ (n : Nat) (v4_2 : Int) (lv4_2 : (-2147483648) ≤ v4_2) (uv4_2 : v4_2 ≤ 2147483647) (v4_3 : Int) (lv4_3 : 0 ≤ v4_3) (uv4_3 : v4_3 ≤ 16) (hq_mo_13 : q_ir (q_r f mo 13) sr) (hgr4 : q_gr f sr) (hmu : (Int.toNat (2147483647 - v4_3)) < n) (H : Heap) (locs : List Loc) (hB : q_B g K L (fun q => q ∈ L) [] f f s H locs) (ls : Array Slot) (hl : lv_has ls 4 [(0, .ref mo), (1, .int (q_i a0)), (2, .int (q_i v4_2)), (3, .int (q_i v4_3))]), W p l e { frames := 1, cells := 0, slots := 0, locals := 22 } s m ([.ref mo, .int (q_i a0)] : List Value).toArray below meth c H locs 0 0 (MQ below (q_Q g K L [] f (q_Pi (fun (z : Int) (f1 : Nat → va_E) => f = f1))) ([.ref mo, .int (q_i a0)] : List Value).toArray s 0 0 (fun q => q ∈ L)) (F0 m 4 ls []) := by
    intro n
    induction n with
    | zero =>
      intro v4_2 lv4_2 uv4_2 v4_3 lv4_3 uv4_3 hq_mo_13 hgr4 hmu
      exact absurd hmu (Nat.not_lt_zero _)
    | succ n ih4 =>
      intro v4_2 lv4_2 uv4_2 v4_3 lv4_3 uv4_3 hq_mo_13 hgr4 hmu H locs hB ls hl
      refine q_ild_n cx dX12_neighbours_4 rfl (lv_at hl 3 rfl) ?_
      refine q_ald_n cx dX12_neighbours_5 rfl (lv_at hl 0 rfl) ?_
      refine q_gX12_20 cx hB hmo kmo hq_mo_13 dX12_neighbours_6 (fun hb435 kb435 => ?_)
      refine q_iconst cx dX12_neighbours_9 ?_
      obtain ⟨x436, ex436⟩ : ∃ zz, q_is (q_z f sr (Int.toNat 1)) zz := ⟨_, q_isr _⟩
      refine q_iald (lo := 0) (hi := 16) (n := 658) cx hB hsr ksr (by decide) rfl rfl (by decide) (by decide) (by decide) rfl ex436 dX12_neighbours_10 (fun lb437 ub437 => ?_)
      refine q_icge (tgt := 62) cx ⟨by omega, by omega⟩ ⟨by omega, by omega⟩ dX12_neighbours_11 (by decide) (fun c438 => ?_) (fun c438 => ?_)
      · refine q_ild_n cx dX12_neighbours_62 rfl (lv_at hl 2 rfl) ?_
        refine q_iret cx hr hlk hB dX12_neighbours_63 ⟨by omega, by omega⟩ ?_
        exact rfl
      · refine q_ald_n cx dX12_neighbours_14 rfl (lv_at hl 0 rfl) ?_
        refine q_ild_n cx dX12_neighbours_15 rfl (lv_at hl 3 rfl) ?_
        refine q_iconst cx dX12_neighbours_16 ?_
        refine q_cVi (As := [.int (q_i v4_3), .int (q_i 0)]) (rest := []) cx hB (fun _ h => h) hN hmo kmo (by decide) rfl (r_ofLink0 l g hN hB.2.1 mo hmo kmo v4_3 (by omega) (by omega) 0 (by decide) (by decide) sr hsr ksr hq_mo_13 hgr4) q_cX12_210 q_dX12_ofLink (by decide) rfl rfl hl.1 rfl (Nat.le_of_ble_eq_true rfl) dX12_neighbours_17 (fun y440 H locs f439 ry440 h441 hF hB => ?_)
        obtain ⟨rfl, ly440, uy440⟩ := h441
        refine q_ild_n cx dX12_neighbours_20 rfl (lv_at hl 1 rfl) ?_
        refine q_icne (tgt := 35) cx ⟨by omega, by omega⟩ ⟨by omega, by omega⟩ dX12_neighbours_21 (by decide) (fun c442 => ?_) (fun c442 => ?_)
        · refine q_ald_n cx dX12_neighbours_35 rfl (lv_at hl 0 rfl) ?_
          refine q_ild_n cx dX12_neighbours_36 rfl (lv_at hl 3 rfl) ?_
          refine q_iconst cx dX12_neighbours_37 ?_
          refine q_cVi (As := [.int (q_i v4_3), .int (q_i 1)]) (rest := []) cx hB (fun _ h => h) hN hmo kmo (by decide) rfl (r_ofLink1 l g hN hB.2.1 mo hmo kmo v4_3 (by omega) (by omega) 1 (by decide) (by decide) sr hsr ksr hq_mo_13 hgr4) q_cX12_210 q_dX12_ofLink (by decide) rfl rfl hl.1 rfl (Nat.le_of_ble_eq_true rfl) dX12_neighbours_38 (fun y444 H locs f443 ry444 h445 hF hB => ?_)
          obtain ⟨rfl, ly444, uy444⟩ := h445
          refine q_ild_n cx dX12_neighbours_41 rfl (lv_at hl 1 rfl) ?_
          refine q_icne (tgt := 56) cx ⟨by omega, by omega⟩ ⟨by omega, by omega⟩ dX12_neighbours_42 (by decide) (fun c446 => ?_) (fun c446 => ?_)
          · refine q_iinc (lv' := [(3, .int (q_i (v4_3 + 1))), (0, .ref mo), (1, .int (q_i a0)), (2, .int (q_i v4_2))]) cx dX12_neighbours_56 hl (k := 3) rfl (by decide) rfl (fun ls hl => ?_)
            refine lv_goto (tgt := 4) cx.1 cx.2.1 dX12_neighbours_59 (by decide) ?_
            exact ih4 v4_2 (by omega) (by omega) (v4_3 + 1) (by omega) (by omega) hq_mo_13 hgr4 (by omega) H locs hB ls (lv_sub hl [1, 2, 3, 0] rfl)
          · refine q_ild_n cx dX12_neighbours_45 rfl (lv_at hl 2 rfl) ?_
            refine q_iconst cx dX12_neighbours_46 ?_
            refine q_ald_n cx dX12_neighbours_47 rfl (lv_at hl 0 rfl) ?_
            refine q_ild_n cx dX12_neighbours_48 rfl (lv_at hl 3 rfl) ?_
            refine q_iconst cx dX12_neighbours_49 ?_
            refine q_cVi (As := [.int (q_i v4_3), .int (q_i 0)]) (rest := [.int (q_i 1), .int (q_i v4_2)]) cx hB (fun _ h => h) hN hmo kmo (by decide) rfl (r_ofLink0 l g hN hB.2.1 mo hmo kmo v4_3 (by omega) (by omega) 0 (by decide) (by decide) sr hsr ksr hq_mo_13 hgr4) q_cX12_210 q_dX12_ofLink (by decide) rfl rfl hl.1 rfl (Nat.le_of_ble_eq_true rfl) dX12_neighbours_50 (fun y448 H locs f447 ry448 h449 hF hB => ?_)
            obtain ⟨rfl, ly448, uy448⟩ := h449
            refine q_ishl cx dX12_neighbours_53 (fun y450 ry450 ey450 => ?_)
            refine q_ior cx dX12_neighbours_54 (fun y451 ry451 ey451 => ?_)
            refine lv_istore_n (lv' := [(2, .int (q_i y451)), (0, .ref mo), (1, .int (q_i a0)), (3, .int (q_i v4_3))]) cx.1 cx.2.1 dX12_neighbours_55 rfl hl (by decide) rfl (fun ls hl => ?_)
            refine q_iinc (lv' := [(3, .int (q_i (v4_3 + 1))), (2, .int (q_i y451)), (0, .ref mo), (1, .int (q_i a0))]) cx dX12_neighbours_56 hl (k := 3) rfl (by decide) rfl (fun ls hl => ?_)
            refine lv_goto (tgt := 4) cx.1 cx.2.1 dX12_neighbours_59 (by decide) ?_
            exact ih4 y451 (by omega) (by omega) (v4_3 + 1) (by omega) (by omega) hq_mo_13 hgr4 (by omega) H locs hB ls (lv_sub hl [2, 3, 1, 0] rfl)
        · refine q_ild_n cx dX12_neighbours_24 rfl (lv_at hl 2 rfl) ?_
          refine q_iconst cx dX12_neighbours_25 ?_
          refine q_ald_n cx dX12_neighbours_26 rfl (lv_at hl 0 rfl) ?_
          refine q_ild_n cx dX12_neighbours_27 rfl (lv_at hl 3 rfl) ?_
          refine q_iconst cx dX12_neighbours_28 ?_
          refine q_cVi (As := [.int (q_i v4_3), .int (q_i 1)]) (rest := [.int (q_i 1), .int (q_i v4_2)]) cx hB (fun _ h => h) hN hmo kmo (by decide) rfl (r_ofLink1 l g hN hB.2.1 mo hmo kmo v4_3 (by omega) (by omega) 1 (by decide) (by decide) sr hsr ksr hq_mo_13 hgr4) q_cX12_210 q_dX12_ofLink (by decide) rfl rfl hl.1 rfl (Nat.le_of_ble_eq_true rfl) dX12_neighbours_29 (fun y453 H locs f452 ry453 h454 hF hB => ?_)
          obtain ⟨rfl, ly453, uy453⟩ := h454
          refine q_ishl cx dX12_neighbours_32 (fun y455 ry455 ey455 => ?_)
          refine q_ior cx dX12_neighbours_33 (fun y456 ry456 ey456 => ?_)
          refine lv_istore_n (lv' := [(2, .int (q_i y456)), (0, .ref mo), (1, .int (q_i a0)), (3, .int (q_i v4_3))]) cx.1 cx.2.1 dX12_neighbours_34 rfl hl (by decide) rfl (fun ls hl => ?_)
          refine q_ald_n cx dX12_neighbours_35 rfl (lv_at hl 1 rfl) ?_
          refine q_ild_n cx dX12_neighbours_36 rfl (lv_at hl 3 rfl) ?_
          refine q_iconst cx dX12_neighbours_37 ?_
          refine q_cVi (As := [.int (q_i v4_3), .int (q_i 1)]) (rest := []) cx hB (fun _ h => h) hN hmo kmo (by decide) rfl (r_ofLink1 l g hN hB.2.1 mo hmo kmo v4_3 (by omega) (by omega) 1 (by decide) (by decide) sr hsr ksr hq_mo_13 hgr4) q_cX12_210 q_dX12_ofLink (by decide) rfl rfl hl.1 rfl (Nat.le_of_ble_eq_true rfl) dX12_neighbours_38 (fun y458 H locs f457 ry458 h459 hF hB => ?_)
          obtain ⟨rfl, ly458, uy458⟩ := h459
          refine q_ild_n cx dX12_neighbours_41 rfl (lv_at hl 2 rfl) ?_
          refine q_icne (tgt := 56) cx ⟨by omega, by omega⟩ ⟨by omega, by omega⟩ dX12_neighbours_42 (by decide) (fun c460 => ?_) (fun c460 => ?_)
          · refine q_iinc (lv' := [(3, .int (q_i (v4_3 + 1))), (2, .int (q_i y456)), (0, .ref mo), (1, .int (q_i a0))]) cx dX12_neighbours_56 hl (k := 3) rfl (by decide) rfl (fun ls hl => ?_)
            refine lv_goto (tgt := 4) cx.1 cx.2.1 dX12_neighbours_59 (by decide) ?_
            exact ih4 y456 (by omega) (by omega) (v4_3 + 1) (by omega) (by omega) hq_mo_13 hgr4 (by omega) H locs hB ls (lv_sub hl [2, 3, 1, 0] rfl)
          · refine q_ild_n cx dX12_neighbours_45 rfl (lv_at hl 0 rfl) ?_
            refine q_iconst cx dX12_neighbours_46 ?_
            refine q_ald_n cx dX12_neighbours_47 rfl (lv_at hl 1 rfl) ?_
            refine q_ild_n cx dX12_neighbours_48 rfl (lv_at hl 3 rfl) ?_
            refine q_iconst cx dX12_neighbours_49 ?_
            refine q_cVi (As := [.int (q_i v4_3), .int (q_i 0)]) (rest := [.int (q_i 1), .int (q_i y456)]) cx hB (fun _ h => h) hN hmo kmo (by decide) rfl (r_ofLink0 l g hN hB.2.1 mo hmo kmo v4_3 (by omega) (by omega) 0 (by decide) (by decide) sr hsr ksr hq_mo_13 hgr4) q_cX12_210 q_dX12_ofLink (by decide) rfl rfl hl.1 rfl (Nat.le_of_ble_eq_true rfl) dX12_neighbours_50 (fun y462 H locs f461 ry462 h463 hF hB => ?_)
            obtain ⟨rfl, ly462, uy462⟩ := h463
            refine q_ishl cx dX12_neighbours_53 (fun y464 ry464 ey464 => ?_)
            refine q_ior cx dX12_neighbours_54 (fun y465 ry465 ey465 => ?_)
            refine lv_istore_n (lv' := [(2, .int (q_i y465)), (0, .ref mo), (1, .int (q_i a0)), (3, .int (q_i v4_3))]) cx.1 cx.2.1 dX12_neighbours_55 rfl hl (by decide) rfl (fun ls hl => ?_)
            refine q_iinc (lv' := [(3, .int (q_i (v4_3 + 1))), (2, .int (q_i y465)), (0, .ref mo), (1, .int (q_i a0))]) cx dX12_neighbours_56 hl (k := 3) rfl (by decide) rfl (fun ls hl => ?_)
            refine lv_goto (tgt := 4) cx.1 cx.2.1 dX12_neighbours_59 (by decide) ?_
            exact ih4 y465 (by omega) (by omega) (v4_3 + 1) (by omega) (by omega) hq_mo_13 hgr4 (by omega) H locs hB ls (lv_sub hl [2, 3, 1, 0] rfl)
  obtain ⟨H, hH⟩ : ∃ H : Heap, H = s.heap := ⟨_, rfl⟩
  obtain ⟨locs, hlocs⟩ : ∃ z : List Loc, z = [] := ⟨_, rfl⟩
  rw [← hH, ← hlocs] at hB
  rw [← hH, ← hlocs]
  refine q_iconst cx dX12_neighbours_0 ?_
  refine lv_istore_n (lv' := [(2, .int (q_i 0)), (0, .ref mo), (1, .int (q_i a0))]) cx.1 cx.2.1 dX12_neighbours_1 rfl hl (by decide) rfl (fun ls hl => ?_)
  refine q_iconst cx dX12_neighbours_2 ?_
  refine lv_istore_n (lv' := [(3, .int (q_i 0)), (2, .int (q_i 0)), (0, .ref mo), (1, .int (q_i a0))]) cx.1 cx.2.1 dX12_neighbours_3 rfl hl (by decide) rfl (fun ls hl => ?_)
  exact J4 ((Int.toNat (2147483647 - 0)) + 1) 0 (by decide) (by decide) 0 (by decide) (by decide) hr0 hgr (Nat.lt_succ_self _) H locs hB ls (lv_sub hl [2, 3, 1, 0] rfl)
set_option maxHeartbeats 4000000 in
set_option maxRecDepth 100000 in
theorem r_isIts (l : Launch) (g : q_G) {K : Nat → Nat} {L : List Nat} (hN : L.Nodup) {f : Nat → va_E} (hT : q_Ty g K L f) (mo : Nat) (hmo : mo ∈ L) (kmo : K mo = 12) (a0 : Int) (la0 : 0 ≤ a0) (ua0 : a0 ≤ 9) (b0 : Int) (lb0 : 0 ≤ b0) (ub0 : b0 ≤ 59) (sr : Nat) (hsr : sr ∈ L) (ksr : K sr = 151) (hr0 : q_ir (q_r f mo 13) sr) (hgr : q_gr f sr) : q_Ct l g K L yX12_isIts cX12_isIts 6 (some .boolean) 3 65 [.ref mo, .int (q_i a0), .int (q_i b0)] f [] (q_Pi (fun (z : Int) (f1 : Nat → va_E) => f = f1 ∧ 0 ≤ z ∧ z ≤ 1)) := by
  refine q_ofb (by decide +kernel) hN hT (Nat.le_of_ble_eq_true rfl) ?_
  intro p e s m below meth c ls cx hr hlk hB hl
  have hl : lv_has ls 6 [(0, .ref mo), (1, .int (q_i a0)), (2, .int (q_i b0))] := hl
  have J33 : ∀ (n : Nat) (v33_3 : Int) (lv33_3 : (-2147483648) ≤ v33_3) (uv33_3 : v33_3 ≤ 2147483647) (v33_4 : Int) (lv33_4 : 0 ≤ v33_4) (uv33_4 : v33_4 ≤ 1) (v33_5 : Int) (lv33_5 : 0 ≤ v33_5) (uv33_5 : v33_5 ≤ 10) (hq_mo_13 : q_ir (q_r f mo 13) sr) (hgr33 : q_gr f sr) (hmu : (Int.toNat (2147483647 - v33_5)) < n) (H : Heap) (locs : List Loc) (hB : q_B g K L (fun q => q ∈ L) [] f f s H locs) (ls : Array Slot) (hl : lv_has ls 6 [(0, .ref mo), (2, .int (q_i b0)), (3, .int (q_i v33_3)), (4, .int (q_i v33_4)), (5, .int (q_i v33_5))]), W p l e { frames := 3, cells := 0, slots := 0, locals := 65 } s m ([.ref mo, .int (q_i a0), .int (q_i b0)] : List Value).toArray below meth c H locs 0 0 (MQ below (q_Q g K L [] f (q_Pi (fun (z : Int) (f1 : Nat → va_E) => f = f1 ∧ 0 ≤ z ∧ z ≤ 1))) ([.ref mo, .int (q_i a0), .int (q_i b0)] : List Value).toArray s 0 0 (fun q => q ∈ L)) (F0 m 33 ls []) := by
    intro n
    induction n with
    | zero =>
      intro v33_3 lv33_3 uv33_3 v33_4 lv33_4 uv33_4 v33_5 lv33_5 uv33_5 hq_mo_13 hgr33 hmu
      exact absurd hmu (Nat.not_lt_zero _)
    | succ n ih33 =>
      intro v33_3 lv33_3 uv33_3 v33_4 lv33_4 uv33_4 v33_5 lv33_5 uv33_5 hq_mo_13 hgr33 hmu H locs hB ls hl
      refine lv_iload cx.1 cx.2.1 dX12_isIts_33 (lv_at hl 4 rfl) ?_
      refine q_ald_n cx dX12_isIts_35 rfl (lv_at hl 0 rfl) ?_
      refine q_gX12_20 cx hB hmo kmo hq_mo_13 dX12_isIts_36 (fun hb142 kb142 => ?_)
      refine q_iconst cx dX12_isIts_39 ?_
      obtain ⟨x143, ex143⟩ : ∃ zz, q_is (q_z f sr (Int.toNat 0)) zz := ⟨_, q_isr _⟩
      refine q_iald (lo := 0) (hi := 10) (n := 658) cx hB hsr ksr (by decide) rfl rfl (by decide) (by decide) (by decide) rfl ex143 dX12_isIts_40 (fun lb144 ub144 => ?_)
      refine q_icge (tgt := 82) cx ⟨by omega, by omega⟩ ⟨by omega, by omega⟩ dX12_isIts_41 (by decide) (fun c145 => ?_) (fun c145 => ?_)
      · refine lv_iload cx.1 cx.2.1 dX12_isIts_82 (lv_at hl 3 rfl) ?_
        refine q_zret cx hr hlk hB dX12_isIts_84 (by omega) (by omega) ?_
        exact ⟨rfl, (by omega), (by omega)⟩
      · refine lv_iload cx.1 cx.2.1 dX12_isIts_44 (lv_at hl 3 rfl) ?_
        refine q_ifne (tgt := 69) cx ⟨by omega, by omega⟩ dX12_isIts_46 (by decide) (fun c146 => ?_) (fun c146 => ?_)
        · refine q_iconst cx dX12_isIts_69 ?_
          refine lv_goto (tgt := 74) cx.1 cx.2.1 dX12_isIts_70 (by decide) ?_
          refine lv_istore (lv' := [(4, .int (q_i 1)), (0, .ref mo), (2, .int (q_i b0)), (3, .int (q_i v33_3)), (5, .int (q_i v33_5))]) cx.1 cx.2.1 dX12_isIts_74 hl (by decide) rfl (fun ls hl => ?_)
          refine q_iinc (lv' := [(5, .int (q_i (v33_5 + 1))), (4, .int (q_i 1)), (0, .ref mo), (2, .int (q_i b0)), (3, .int (q_i v33_3))]) cx dX12_isIts_76 hl (k := 4) rfl (by decide) rfl (fun ls hl => ?_)
          refine lv_goto (tgt := 33) cx.1 cx.2.1 dX12_isIts_79 (by decide) ?_
          exact ih33 v33_3 (by omega) (by omega) 1 (by decide) (by decide) (v33_5 + 1) (by omega) (by omega) hq_mo_13 hgr33 (by omega) H locs hB ls (lv_sub hl [2, 3, 4, 1, 0] rfl)
        · refine q_ild_n cx dX12_isIts_49 rfl (lv_at hl 2 rfl) ?_
          refine lv_iload cx.1 cx.2.1 dX12_isIts_50 (lv_at hl 4 rfl) ?_
          refine q_cSi (As := [.int (q_i v33_3), .int (q_i v33_5)]) (rest := []) cx hB (fun _ h => h) hN (r_has l g hN hB.2.1 v33_3 (by omega) (by omega) v33_5 (by omega) (by omega)) q_cX12_185 q_dX12_has (by decide) rfl rfl hl.1 rfl (Nat.le_of_ble_eq_true rfl) dX12_isIts_52 (fun y148 H locs f147 ry148 h149 hF hB => ?_)
          obtain ⟨rfl, ly148, uy148⟩ := h149
          refine q_ifeq (tgt := 73) cx ⟨by omega, by omega⟩ dX12_isIts_55 (by decide) (fun c150 => ?_) (fun c150 => ?_)
          · refine q_iconst cx dX12_isIts_73 ?_
            refine lv_istore (lv' := [(4, .int (q_i 0)), (0, .ref mo), (2, .int (q_i b0)), (3, .int (q_i v33_3)), (5, .int (q_i v33_5))]) cx.1 cx.2.1 dX12_isIts_74 hl (by decide) rfl (fun ls hl => ?_)
            refine q_iinc (lv' := [(5, .int (q_i (v33_5 + 1))), (4, .int (q_i 0)), (0, .ref mo), (2, .int (q_i b0)), (3, .int (q_i v33_3))]) cx dX12_isIts_76 hl (k := 4) rfl (by decide) rfl (fun ls hl => ?_)
            refine lv_goto (tgt := 33) cx.1 cx.2.1 dX12_isIts_79 (by decide) ?_
            exact ih33 v33_3 (by omega) (by omega) 0 (by decide) (by decide) (v33_5 + 1) (by omega) (by omega) hq_mo_13 hgr33 (by omega) H locs hB ls (lv_sub hl [2, 3, 4, 1, 0] rfl)
          · refine q_ald_n cx dX12_isIts_58 rfl (lv_at hl 0 rfl) ?_
            refine lv_iload cx.1 cx.2.1 dX12_isIts_59 (lv_at hl 4 rfl) ?_
            refine q_iconst cx dX12_isIts_61 ?_
            refine q_cVi (As := [.int (q_i v33_5), .int (q_i 0)]) (rest := []) cx hB (fun _ h => h) hN hmo kmo (by decide) rfl (r_ofNode0 l g hN hB.2.1 mo hmo kmo v33_5 (by omega) (by omega) 0 (by decide) (by decide) sr hsr ksr hq_mo_13 hgr33) q_cX12_256 q_dX12_ofNode (by decide) rfl rfl hl.1 rfl (Nat.le_of_ble_eq_true rfl) dX12_isIts_62 (fun y152 H locs f151 ry152 h153 hF hB => ?_)
            obtain ⟨rfl, ly152, uy152⟩ := h153
            refine q_ild_n cx dX12_isIts_65 rfl (lv_at hl 1 rfl) ?_
            refine q_icne (tgt := 73) cx ⟨by omega, by omega⟩ ⟨by omega, by omega⟩ dX12_isIts_66 (by decide) (fun c154 => ?_) (fun c154 => ?_)
            · refine q_iconst cx dX12_isIts_73 ?_
              refine lv_istore (lv' := [(4, .int (q_i 0)), (0, .ref mo), (2, .int (q_i b0)), (3, .int (q_i v33_3)), (5, .int (q_i v33_5))]) cx.1 cx.2.1 dX12_isIts_74 hl (by decide) rfl (fun ls hl => ?_)
              refine q_iinc (lv' := [(5, .int (q_i (v33_5 + 1))), (4, .int (q_i 0)), (0, .ref mo), (2, .int (q_i b0)), (3, .int (q_i v33_3))]) cx dX12_isIts_76 hl (k := 4) rfl (by decide) rfl (fun ls hl => ?_)
              refine lv_goto (tgt := 33) cx.1 cx.2.1 dX12_isIts_79 (by decide) ?_
              exact ih33 v33_3 (by omega) (by omega) 0 (by decide) (by decide) (v33_5 + 1) (by omega) (by omega) hq_mo_13 hgr33 (by omega) H locs hB ls (lv_sub hl [2, 3, 4, 1, 0] rfl)
            · refine q_iconst cx dX12_isIts_69 ?_
              refine lv_goto (tgt := 74) cx.1 cx.2.1 dX12_isIts_70 (by decide) ?_
              refine lv_istore (lv' := [(4, .int (q_i 1)), (0, .ref mo), (2, .int (q_i b0)), (3, .int (q_i v33_3)), (5, .int (q_i v33_5))]) cx.1 cx.2.1 dX12_isIts_74 hl (by decide) rfl (fun ls hl => ?_)
              refine q_iinc (lv' := [(5, .int (q_i (v33_5 + 1))), (4, .int (q_i 1)), (0, .ref mo), (2, .int (q_i b0)), (3, .int (q_i v33_3))]) cx dX12_isIts_76 hl (k := 4) rfl (by decide) rfl (fun ls hl => ?_)
              refine lv_goto (tgt := 33) cx.1 cx.2.1 dX12_isIts_79 (by decide) ?_
              exact ih33 v33_3 (by omega) (by omega) 1 (by decide) (by decide) (v33_5 + 1) (by omega) (by omega) hq_mo_13 hgr33 (by omega) H locs hB ls (lv_sub hl [2, 3, 4, 1, 0] rfl)
  obtain ⟨H, hH⟩ : ∃ H : Heap, H = s.heap := ⟨_, rfl⟩
  obtain ⟨locs, hlocs⟩ : ∃ z : List Loc, z = [] := ⟨_, rfl⟩
  rw [← hH, ← hlocs] at hB
  rw [← hH, ← hlocs]
  refine q_ald_n cx dX12_isIts_0 rfl (lv_at hl 0 rfl) ?_
  refine q_ild_n cx dX12_isIts_1 rfl (lv_at hl 1 rfl) ?_
  refine q_iconst cx dX12_isIts_2 ?_
  refine q_cVi (As := [.int (q_i a0), .int (q_i 0)]) (rest := []) cx hB (fun _ h => h) hN hmo kmo (by decide) rfl (r_ofNode0 l g hN hB.2.1 mo hmo kmo a0 (by omega) (by omega) 0 (by decide) (by decide) sr hsr ksr hr0 hgr) q_cX12_256 q_dX12_ofNode (by decide) rfl rfl hl.1 rfl (Nat.le_of_ble_eq_true rfl) dX12_isIts_3 (fun y156 H locs f155 ry156 h157 hF hB => ?_)
  obtain ⟨rfl, ly156, uy156⟩ := h157
  refine q_ild_n cx dX12_isIts_6 rfl (lv_at hl 2 rfl) ?_
  refine q_iceq (tgt := 19) cx ⟨by omega, by omega⟩ ⟨by omega, by omega⟩ dX12_isIts_7 (by decide) (fun c158 => ?_) (fun c158 => ?_)
  · refine q_iconst cx dX12_isIts_19 ?_
    refine q_zret cx hr hlk hB dX12_isIts_20 (by decide) (by decide) ?_
    exact ⟨rfl, (by decide), (by decide)⟩
  · refine q_ald_n cx dX12_isIts_10 rfl (lv_at hl 0 rfl) ?_
    refine q_ild_n cx dX12_isIts_11 rfl (lv_at hl 1 rfl) ?_
    refine q_ild_n cx dX12_isIts_12 rfl (lv_at hl 2 rfl) ?_
    refine q_cVi (As := [.int (q_i a0), .int (q_i b0)]) (rest := []) cx hB (fun _ h => h) hN hmo kmo (by decide) rfl (r_isWatched l g hN hB.2.1 mo hmo kmo a0 (by omega) (by omega) b0 (by omega) (by omega) sr hsr ksr hr0 hgr) q_cX12_262 q_dX12_isWatched (by decide) rfl rfl hl.1 rfl (Nat.le_of_ble_eq_true rfl) dX12_isIts_13 (fun y160 H locs f159 ry160 h161 hF hB => ?_)
    obtain ⟨rfl, ly160, uy160⟩ := h161
    refine q_ifeq (tgt := 21) cx ⟨by omega, by omega⟩ dX12_isIts_16 (by decide) (fun c162 => ?_) (fun c162 => ?_)
    · refine q_ald_n cx dX12_isIts_21 rfl (lv_at hl 0 rfl) ?_
      refine q_ild_n cx dX12_isIts_22 rfl (lv_at hl 1 rfl) ?_
      refine q_cVi (As := [.int (q_i a0)]) (rest := []) cx hB (fun _ h => h) hN hmo kmo (by decide) rfl (r_neighbours l g hN hB.2.1 mo hmo kmo a0 (by omega) (by omega) sr hsr ksr hr0 hgr) q_cX12_265 q_dX12_neighbours (by decide) rfl rfl hl.1 rfl (Nat.le_of_ble_eq_true rfl) dX12_isIts_23 (fun y164 H locs f163 ry164 h165 hF hB => ?_)
      obtain rfl := h165
      refine lv_istore_n (lv' := [(3, .int (q_i y164)), (0, .ref mo), (1, .int (q_i a0)), (2, .int (q_i b0))]) cx.1 cx.2.1 dX12_isIts_26 rfl hl (by decide) rfl (fun ls hl => ?_)
      refine q_iconst cx dX12_isIts_27 ?_
      refine lv_istore (lv' := [(4, .int (q_i 0)), (3, .int (q_i y164)), (0, .ref mo), (1, .int (q_i a0)), (2, .int (q_i b0))]) cx.1 cx.2.1 dX12_isIts_28 hl (by decide) rfl (fun ls hl => ?_)
      refine q_iconst cx dX12_isIts_30 ?_
      refine lv_istore (lv' := [(5, .int (q_i 0)), (4, .int (q_i 0)), (3, .int (q_i y164)), (0, .ref mo), (1, .int (q_i a0)), (2, .int (q_i b0))]) cx.1 cx.2.1 dX12_isIts_31 hl (by decide) rfl (fun ls hl => ?_)
      exact J33 ((Int.toNat (2147483647 - 0)) + 1) y164 (by omega) (by omega) 0 (by decide) (by decide) 0 (by decide) (by decide) hr0 hgr (Nat.lt_succ_self _) H locs hB ls (lv_sub hl [3, 5, 2, 1, 0] rfl)
    · refine q_iconst cx dX12_isIts_19 ?_
      refine q_zret cx hr hlk hB dX12_isIts_20 (by decide) (by decide) ?_
      exact ⟨rfl, (by decide), (by decide)⟩
set_option maxHeartbeats 4000000 in
set_option maxRecDepth 100000 in
theorem r_daysOf (l : Launch) (g : q_G) {K : Nat → Nat} {L : List Nat} (hN : L.Nodup) {f : Nat → va_E} (hT : q_Ty g K L f) (mo : Nat) (hmo : mo ∈ L) (kmo : K mo = 12) (a0 : Int) (la0 : 0 ≤ a0) (ua0 : a0 ≤ 9) (sr : Nat) (hsr : sr ∈ L) (ksr : K sr = 151) (hr0 : q_ir (q_r f mo 13) sr) (hgr : q_gr f sr) : q_Ct l g K L yX12_daysOf cX12_daysOf 4 (some .int) 4 90 [.ref mo, .int (q_i a0)] f [] (q_Pi (fun (z : Int) (f1 : Nat → va_E) => f = f1)) := by
  refine q_ofb (by decide +kernel) hN hT (Nat.le_of_ble_eq_true rfl) ?_
  intro p e s m below meth c ls cx hr hlk hB hl
  have hl : lv_has ls 4 [(0, .ref mo), (1, .int (q_i a0))] := hl
  have J4 : ∀ (n : Nat) (v4_2 : Int) (lv4_2 : (-2147483648) ≤ v4_2) (uv4_2 : v4_2 ≤ 2147483647) (v4_3 : Int) (lv4_3 : 0 ≤ v4_3) (uv4_3 : v4_3 ≤ 60) (hq_mo_13 : q_ir (q_r f mo 13) sr) (hgr4 : q_gr f sr) (hmu : (Int.toNat (2147483647 - v4_3)) < n) (H : Heap) (locs : List Loc) (hB : q_B g K L (fun q => q ∈ L) [] f f s H locs) (ls : Array Slot) (hl : lv_has ls 4 [(0, .ref mo), (1, .int (q_i a0)), (2, .int (q_i v4_2)), (3, .int (q_i v4_3))]), W p l e { frames := 4, cells := 0, slots := 0, locals := 90 } s m ([.ref mo, .int (q_i a0)] : List Value).toArray below meth c H locs 0 0 (MQ below (q_Q g K L [] f (q_Pi (fun (z : Int) (f1 : Nat → va_E) => f = f1))) ([.ref mo, .int (q_i a0)] : List Value).toArray s 0 0 (fun q => q ∈ L)) (F0 m 4 ls []) := by
    intro n
    induction n with
    | zero =>
      intro v4_2 lv4_2 uv4_2 v4_3 lv4_3 uv4_3 hq_mo_13 hgr4 hmu
      exact absurd hmu (Nat.not_lt_zero _)
    | succ n ih4 =>
      intro v4_2 lv4_2 uv4_2 v4_3 lv4_3 uv4_3 hq_mo_13 hgr4 hmu H locs hB ls hl
      refine q_ild_n cx dX12_daysOf_4 rfl (lv_at hl 3 rfl) ?_
      refine q_ald_n cx dX12_daysOf_5 rfl (lv_at hl 0 rfl) ?_
      refine q_gX12_20 cx hB hmo kmo hq_mo_13 dX12_daysOf_6 (fun hb507 kb507 => ?_)
      refine q_iconst cx dX12_daysOf_9 ?_
      obtain ⟨x508, ex508⟩ : ∃ zz, q_is (q_z f sr (Int.toNat 2)) zz := ⟨_, q_isr _⟩
      refine q_sald cx hB hsr ksr (by decide) (by decide) ex508 dX12_daysOf_10 (fun rx508 => ?_)
      obtain ⟨lx508, ux508⟩ : 4 ≤ x508 ∧ x508 ≤ 60 := q_isb ex508 (q_gr_at hgr4 (by decide) rfl)
      refine q_icge (tgt := 32) cx ⟨by omega, by omega⟩ ⟨by omega, by omega⟩ dX12_daysOf_11 (by decide) (fun c510 => ?_) (fun c510 => ?_)
      · refine q_ild_n cx dX12_daysOf_32 rfl (lv_at hl 2 rfl) ?_
        refine q_iret cx hr hlk hB dX12_daysOf_33 ⟨by omega, by omega⟩ ?_
        exact rfl
      · refine q_ild_n cx dX12_daysOf_14 rfl (lv_at hl 2 rfl) ?_
        refine q_ald_n cx dX12_daysOf_15 rfl (lv_at hl 0 rfl) ?_
        refine q_ild_n cx dX12_daysOf_16 rfl (lv_at hl 1 rfl) ?_
        refine q_ild_n cx dX12_daysOf_17 rfl (lv_at hl 3 rfl) ?_
        refine q_cVi (As := [.int (q_i a0), .int (q_i v4_3)]) (rest := [.int (q_i v4_2)]) cx hB (fun _ h => h) hN hmo kmo (by decide) rfl (r_isIts l g hN hB.2.1 mo hmo kmo a0 (by omega) (by omega) v4_3 (by omega) (by omega) sr hsr ksr hq_mo_13 hgr4) q_cX12_268 q_dX12_isIts (by decide) rfl rfl hl.1 rfl (Nat.le_of_ble_eq_true rfl) dX12_daysOf_18 (fun y512 H locs f511 ry512 h513 hF hB => ?_)
        obtain ⟨rfl, ly512, uy512⟩ := h513
        by_cases c514 : y512 ≤ 0
        · refine q_cSi (As := [.int (q_i y512)]) (rest := [.int (q_i v4_2)]) cx hB (fun _ h => h) hN (r_truth0 l g hN hB.2.1 y512 (by omega) (by omega)) q_cX12_78 q_dX12_truth (by decide) rfl rfl hl.1 rfl (Nat.le_of_ble_eq_true rfl) dX12_daysOf_21 (fun y516 H locs f515 ry516 h517 hF hB => ?_)
          obtain ⟨rfl, qy516⟩ := h517
          subst qy516
          refine q_iadd cx dX12_daysOf_24 ?_
          refine lv_istore_n (lv' := [(2, .int (q_i (v4_2 + 0))), (0, .ref mo), (1, .int (q_i a0)), (3, .int (q_i v4_3))]) cx.1 cx.2.1 dX12_daysOf_25 rfl hl (by decide) rfl (fun ls hl => ?_)
          refine q_iinc (lv' := [(3, .int (q_i (v4_3 + 1))), (2, .int (q_i (v4_2 + 0))), (0, .ref mo), (1, .int (q_i a0))]) cx dX12_daysOf_26 hl (k := 3) rfl (by decide) rfl (fun ls hl => ?_)
          refine lv_goto (tgt := 4) cx.1 cx.2.1 dX12_daysOf_29 (by decide) ?_
          exact ih4 (v4_2 + 0) (by omega) (by omega) (v4_3 + 1) (by omega) (by omega) hq_mo_13 hgr4 (by omega) H locs hB ls (lv_sub hl [2, 3, 1, 0] rfl)
        · refine q_cSi (As := [.int (q_i y512)]) (rest := [.int (q_i v4_2)]) cx hB (fun _ h => h) hN (r_truth1 l g hN hB.2.1 y512 (by omega) (by omega)) q_cX12_78 q_dX12_truth (by decide) rfl rfl hl.1 rfl (Nat.le_of_ble_eq_true rfl) dX12_daysOf_21 (fun y519 H locs f518 ry519 h520 hF hB => ?_)
          obtain ⟨rfl, qy519⟩ := h520
          subst qy519
          refine q_iadd cx dX12_daysOf_24 ?_
          refine q_any (fun y521 ry521 ey521 => ?_)
          refine lv_istore_n (lv' := [(2, .int (q_i y521)), (0, .ref mo), (1, .int (q_i a0)), (3, .int (q_i v4_3))]) cx.1 cx.2.1 dX12_daysOf_25 rfl hl (by decide) rfl (fun ls hl => ?_)
          refine q_iinc (lv' := [(3, .int (q_i (v4_3 + 1))), (2, .int (q_i y521)), (0, .ref mo), (1, .int (q_i a0))]) cx dX12_daysOf_26 hl (k := 3) rfl (by decide) rfl (fun ls hl => ?_)
          refine lv_goto (tgt := 4) cx.1 cx.2.1 dX12_daysOf_29 (by decide) ?_
          exact ih4 y521 (by omega) (by omega) (v4_3 + 1) (by omega) (by omega) hq_mo_13 hgr4 (by omega) H locs hB ls (lv_sub hl [2, 3, 1, 0] rfl)
  obtain ⟨H, hH⟩ : ∃ H : Heap, H = s.heap := ⟨_, rfl⟩
  obtain ⟨locs, hlocs⟩ : ∃ z : List Loc, z = [] := ⟨_, rfl⟩
  rw [← hH, ← hlocs] at hB
  rw [← hH, ← hlocs]
  refine q_iconst cx dX12_daysOf_0 ?_
  refine lv_istore_n (lv' := [(2, .int (q_i 0)), (0, .ref mo), (1, .int (q_i a0))]) cx.1 cx.2.1 dX12_daysOf_1 rfl hl (by decide) rfl (fun ls hl => ?_)
  refine q_iconst cx dX12_daysOf_2 ?_
  refine lv_istore_n (lv' := [(3, .int (q_i 0)), (2, .int (q_i 0)), (0, .ref mo), (1, .int (q_i a0))]) cx.1 cx.2.1 dX12_daysOf_3 rfl hl (by decide) rfl (fun ls hl => ?_)
  exact J4 ((Int.toNat (2147483647 - 0)) + 1) 0 (by decide) (by decide) 0 (by decide) (by decide) hr0 hgr (Nat.lt_succ_self _) H locs hB ls (lv_sub hl [2, 3, 1, 0] rfl)
set_option maxHeartbeats 4000000 in
set_option maxRecDepth 100000 in
theorem r_isAwakeIn (l : Launch) (g : q_G) {K : Nat → Nat} {L : List Nat} (hN : L.Nodup) {f : Nat → va_E} (hT : q_Ty g K L f) (mo : Nat) (hmo : mo ∈ L) (kmo : K mo = 12) (a0 : Int) (la0 : 0 ≤ a0) (ua0 : a0 ≤ 9) (b0 : Int) (lb0 : 0 ≤ b0) (ub0 : b0 ≤ 200) (sr : Nat) (hsr : sr ∈ L) (ksr : K sr = 151) (hr0 : q_ir (q_r f mo 13) sr) (hgr : q_gr f sr) : q_Ct l g K L yX12_isAwakeIn cX12_isAwakeIn 3 (some .boolean) 4 90 [.ref mo, .int (q_i a0), .int (q_i b0)] f [] (q_Pi (fun (z : Int) (f1 : Nat → va_E) => f = f1 ∧ 0 ≤ z ∧ z ≤ 1)) := by
  refine q_ofb (by decide +kernel) hN hT (Nat.le_of_ble_eq_true rfl) ?_
  intro p e s m below meth c ls cx hr hlk hB hl
  have hl : lv_has ls 3 [(0, .ref mo), (1, .int (q_i a0)), (2, .int (q_i b0))] := hl
  obtain ⟨H, hH⟩ : ∃ H : Heap, H = s.heap := ⟨_, rfl⟩
  obtain ⟨locs, hlocs⟩ : ∃ z : List Loc, z = [] := ⟨_, rfl⟩
  rw [← hH, ← hlocs] at hB
  rw [← hH, ← hlocs]
  refine q_ald_n cx dX12_isAwakeIn_0 rfl (lv_at hl 0 rfl) ?_
  refine q_ild_n cx dX12_isAwakeIn_1 rfl (lv_at hl 1 rfl) ?_
  refine q_cVi (As := [.int (q_i a0)]) (rest := []) cx hB (fun _ h => h) hN hmo kmo (by decide) rfl (r_isOut l g hN hB.2.1 mo hmo kmo a0 (by omega) (by omega) sr hsr ksr hr0 hgr) q_cX12_271 q_dX12_isOut (by decide) rfl rfl hl.1 rfl (Nat.le_of_ble_eq_true rfl) dX12_isAwakeIn_2 (fun y13 H locs f12 ry13 h14 hF hB => ?_)
  obtain ⟨rfl, ly13, uy13⟩ := h14
  refine q_ifne (tgt := 26) cx ⟨by omega, by omega⟩ dX12_isAwakeIn_5 (by decide) (fun c15 => ?_) (fun c15 => ?_)
  · refine q_iconst cx dX12_isAwakeIn_26 ?_
    refine q_zret cx hr hlk hB dX12_isAwakeIn_27 (by decide) (by decide) ?_
    exact ⟨rfl, (by decide), (by decide)⟩
  · refine q_ald_n cx dX12_isAwakeIn_8 rfl (lv_at hl 0 rfl) ?_
    refine q_ild_n cx dX12_isAwakeIn_9 rfl (lv_at hl 1 rfl) ?_
    refine q_ald_n cx dX12_isAwakeIn_10 rfl (lv_at hl 0 rfl) ?_
    refine q_ild_n cx dX12_isAwakeIn_11 rfl (lv_at hl 1 rfl) ?_
    refine q_ild_n cx dX12_isAwakeIn_12 rfl (lv_at hl 2 rfl) ?_
    refine q_cVi (As := [.int (q_i a0), .int (q_i b0)]) (rest := [.int (q_i a0), .ref mo]) cx hB (fun _ h => h) hN hmo kmo (by decide) rfl (r_dayIn l g hN hB.2.1 mo hmo kmo a0 (by omega) (by omega) b0 (by omega) (by omega) sr hsr ksr hr0 hgr) q_cX12_259 q_dX12_dayIn (by decide) rfl rfl hl.1 rfl (Nat.le_of_ble_eq_true rfl) dX12_isAwakeIn_13 (fun y17 H locs f16 ry17 h18 hF hB => ?_)
    obtain ⟨rfl, ly17, uy17⟩ := h18
    refine q_cVi (As := [.int (q_i a0), .int (q_i y17)]) (rest := []) cx hB (fun _ h => h) hN hmo kmo (by decide) rfl (r_isIts l g hN hB.2.1 mo hmo kmo a0 (by omega) (by omega) y17 (by omega) (by omega) sr hsr ksr hr0 hgr) q_cX12_268 q_dX12_isIts (by decide) rfl rfl hl.1 rfl (Nat.le_of_ble_eq_true rfl) dX12_isAwakeIn_16 (fun y20 H locs f19 ry20 h21 hF hB => ?_)
    obtain ⟨rfl, ly20, uy20⟩ := h21
    refine q_ifeq (tgt := 26) cx ⟨by omega, by omega⟩ dX12_isAwakeIn_19 (by decide) (fun c22 => ?_) (fun c22 => ?_)
    · refine q_iconst cx dX12_isAwakeIn_26 ?_
      refine q_zret cx hr hlk hB dX12_isAwakeIn_27 (by decide) (by decide) ?_
      exact ⟨rfl, (by decide), (by decide)⟩
    · refine q_iconst cx dX12_isAwakeIn_22 ?_
      refine lv_goto (tgt := 27) cx.1 cx.2.1 dX12_isAwakeIn_23 (by decide) ?_
      refine q_zret cx hr hlk hB dX12_isAwakeIn_27 (by decide) (by decide) ?_
      exact ⟨rfl, (by decide), (by decide)⟩
set_option maxHeartbeats 4000000 in
set_option maxRecDepth 100000 in
theorem r_isAwakeNow (l : Launch) (g : q_G) {K : Nat → Nat} {L : List Nat} (hN : L.Nodup) {f : Nat → va_E} (hT : q_Ty g K L f) (mo : Nat) (hmo : mo ∈ L) (kmo : K mo = 12) (a0 : Int) (la0 : 0 ≤ a0) (ua0 : a0 ≤ 9) (sr : Nat) (hsr : sr ∈ L) (ksr : K sr = 151) (hr0 : q_ir (q_r f mo 13) sr) (hgr : q_gr f sr) : q_Ct l g K L yX12_isAwakeNow cX12_isAwakeNow 2 (some .boolean) 5 112 [.ref mo, .int (q_i a0)] f [] (q_Pi (fun (z : Int) (f1 : Nat → va_E) => f = f1 ∧ 0 ≤ z ∧ z ≤ 1)) := by
  refine q_ofb (by decide +kernel) hN hT (Nat.le_of_ble_eq_true rfl) ?_
  intro p e s m below meth c ls cx hr hlk hB hl
  have hl : lv_has ls 2 [(0, .ref mo), (1, .int (q_i a0))] := hl
  obtain ⟨H, hH⟩ : ∃ H : Heap, H = s.heap := ⟨_, rfl⟩
  obtain ⟨locs, hlocs⟩ : ∃ z : List Loc, z = [] := ⟨_, rfl⟩
  rw [← hH, ← hlocs] at hB
  rw [← hH, ← hlocs]
  refine q_ald_n cx dX12_isAwakeNow_0 rfl (lv_at hl 0 rfl) ?_
  refine q_ild_n cx dX12_isAwakeNow_1 rfl (lv_at hl 1 rfl) ?_
  refine q_iconst cx dX12_isAwakeNow_2 ?_
  refine q_cVi (As := [.int (q_i a0), .int (q_i 0)]) (rest := []) cx hB (fun _ h => h) hN hmo kmo (by decide) rfl (r_isAwakeIn l g hN hB.2.1 mo hmo kmo a0 (by omega) (by omega) 0 (by decide) (by decide) sr hsr ksr hr0 hgr) q_cX12_274 q_dX12_isAwakeIn (by decide) rfl rfl hl.1 rfl (Nat.le_of_ble_eq_true rfl) dX12_isAwakeNow_3 (fun y5 H locs f4 ry5 h6 hF hB => ?_)
  obtain ⟨rfl, ly5, uy5⟩ := h6
  refine q_zret cx hr hlk hB dX12_isAwakeNow_6 (by omega) (by omega) ?_
  exact ⟨rfl, (by omega), (by omega)⟩
set_option maxHeartbeats 4000000 in
set_option maxRecDepth 100000 in
theorem r_awakeSet (l : Launch) (g : q_G) {K : Nat → Nat} {L : List Nat} (hN : L.Nodup) {f : Nat → va_E} (hT : q_Ty g K L f) (mo : Nat) (hmo : mo ∈ L) (kmo : K mo = 12) (a0 : Int) (la0 : 0 ≤ a0) (ua0 : a0 ≤ 200) (sr : Nat) (hsr : sr ∈ L) (ksr : K sr = 151) (hr0 : q_ir (q_r f mo 13) sr) (hgr : q_gr f sr) : q_Ct l g K L yX12_awakeSet cX12_awakeSet 4 (some .int) 5 112 [.ref mo, .int (q_i a0)] f [] (q_Pi (fun (z : Int) (f1 : Nat → va_E) => f = f1)) := by
  refine q_ofb (by decide +kernel) hN hT (Nat.le_of_ble_eq_true rfl) ?_
  intro p e s m below meth c ls cx hr hlk hB hl
  have hl : lv_has ls 4 [(0, .ref mo), (1, .int (q_i a0))] := hl
  have J4 : ∀ (n : Nat) (v4_2 : Int) (lv4_2 : (-2147483648) ≤ v4_2) (uv4_2 : v4_2 ≤ 2147483647) (v4_3 : Int) (lv4_3 : 0 ≤ v4_3) (uv4_3 : v4_3 ≤ 10) (hq_mo_13 : q_ir (q_r f mo 13) sr) (hgr4 : q_gr f sr) (hmu : (Int.toNat (2147483647 - v4_3)) < n) (H : Heap) (locs : List Loc) (hB : q_B g K L (fun q => q ∈ L) [] f f s H locs) (ls : Array Slot) (hl : lv_has ls 4 [(0, .ref mo), (1, .int (q_i a0)), (2, .int (q_i v4_2)), (3, .int (q_i v4_3))]), W p l e { frames := 5, cells := 0, slots := 0, locals := 112 } s m ([.ref mo, .int (q_i a0)] : List Value).toArray below meth c H locs 0 0 (MQ below (q_Q g K L [] f (q_Pi (fun (z : Int) (f1 : Nat → va_E) => f = f1))) ([.ref mo, .int (q_i a0)] : List Value).toArray s 0 0 (fun q => q ∈ L)) (F0 m 4 ls []) := by
    intro n
    induction n with
    | zero =>
      intro v4_2 lv4_2 uv4_2 v4_3 lv4_3 uv4_3 hq_mo_13 hgr4 hmu
      exact absurd hmu (Nat.not_lt_zero _)
    | succ n ih4 =>
      intro v4_2 lv4_2 uv4_2 v4_3 lv4_3 uv4_3 hq_mo_13 hgr4 hmu H locs hB ls hl
      refine q_ild_n cx dX12_awakeSet_4 rfl (lv_at hl 3 rfl) ?_
      refine q_ald_n cx dX12_awakeSet_5 rfl (lv_at hl 0 rfl) ?_
      refine q_gX12_20 cx hB hmo kmo hq_mo_13 dX12_awakeSet_6 (fun hb111 kb111 => ?_)
      refine q_iconst cx dX12_awakeSet_9 ?_
      obtain ⟨x112, ex112⟩ : ∃ zz, q_is (q_z f sr (Int.toNat 0)) zz := ⟨_, q_isr _⟩
      refine q_iald (lo := 0) (hi := 10) (n := 658) cx hB hsr ksr (by decide) rfl rfl (by decide) (by decide) (by decide) rfl ex112 dX12_awakeSet_10 (fun lb113 ub113 => ?_)
      refine q_icge (tgt := 39) cx ⟨by omega, by omega⟩ ⟨by omega, by omega⟩ dX12_awakeSet_11 (by decide) (fun c114 => ?_) (fun c114 => ?_)
      · refine q_ild_n cx dX12_awakeSet_39 rfl (lv_at hl 2 rfl) ?_
        refine q_iret cx hr hlk hB dX12_awakeSet_40 ⟨by omega, by omega⟩ ?_
        exact rfl
      · refine q_ild_n cx dX12_awakeSet_14 rfl (lv_at hl 2 rfl) ?_
        refine q_ald_n cx dX12_awakeSet_15 rfl (lv_at hl 0 rfl) ?_
        refine q_ild_n cx dX12_awakeSet_16 rfl (lv_at hl 3 rfl) ?_
        refine q_ild_n cx dX12_awakeSet_17 rfl (lv_at hl 1 rfl) ?_
        refine q_cVi (As := [.int (q_i v4_3), .int (q_i a0)]) (rest := [.int (q_i v4_2)]) cx hB (fun _ h => h) hN hmo kmo (by decide) rfl (r_isAwakeIn l g hN hB.2.1 mo hmo kmo v4_3 (by omega) (by omega) a0 (by omega) (by omega) sr hsr ksr hq_mo_13 hgr4) q_cX12_274 q_dX12_isAwakeIn (by decide) rfl rfl hl.1 rfl (Nat.le_of_ble_eq_true rfl) dX12_awakeSet_18 (fun y116 H locs f115 ry116 h117 hF hB => ?_)
        obtain ⟨rfl, ly116, uy116⟩ := h117
        refine q_ifeq (tgt := 30) cx ⟨by omega, by omega⟩ dX12_awakeSet_21 (by decide) (fun c118 => ?_) (fun c118 => ?_)
        · refine q_iconst cx dX12_awakeSet_30 ?_
          refine q_ior cx dX12_awakeSet_31 (fun y119 ry119 ey119 => ?_)
          refine lv_istore_n (lv' := [(2, .int (q_i y119)), (0, .ref mo), (1, .int (q_i a0)), (3, .int (q_i v4_3))]) cx.1 cx.2.1 dX12_awakeSet_32 rfl hl (by decide) rfl (fun ls hl => ?_)
          refine q_iinc (lv' := [(3, .int (q_i (v4_3 + 1))), (2, .int (q_i y119)), (0, .ref mo), (1, .int (q_i a0))]) cx dX12_awakeSet_33 hl (k := 3) rfl (by decide) rfl (fun ls hl => ?_)
          refine lv_goto (tgt := 4) cx.1 cx.2.1 dX12_awakeSet_36 (by decide) ?_
          exact ih4 y119 (by omega) (by omega) (v4_3 + 1) (by omega) (by omega) hq_mo_13 hgr4 (by omega) H locs hB ls (lv_sub hl [2, 3, 1, 0] rfl)
        · refine q_iconst cx dX12_awakeSet_24 ?_
          refine q_ild_n cx dX12_awakeSet_25 rfl (lv_at hl 3 rfl) ?_
          refine q_ishl cx dX12_awakeSet_26 (fun y120 ry120 ey120 => ?_)
          refine lv_goto (tgt := 31) cx.1 cx.2.1 dX12_awakeSet_27 (by decide) ?_
          refine q_ior cx dX12_awakeSet_31 (fun y121 ry121 ey121 => ?_)
          refine lv_istore_n (lv' := [(2, .int (q_i y121)), (0, .ref mo), (1, .int (q_i a0)), (3, .int (q_i v4_3))]) cx.1 cx.2.1 dX12_awakeSet_32 rfl hl (by decide) rfl (fun ls hl => ?_)
          refine q_iinc (lv' := [(3, .int (q_i (v4_3 + 1))), (2, .int (q_i y121)), (0, .ref mo), (1, .int (q_i a0))]) cx dX12_awakeSet_33 hl (k := 3) rfl (by decide) rfl (fun ls hl => ?_)
          refine lv_goto (tgt := 4) cx.1 cx.2.1 dX12_awakeSet_36 (by decide) ?_
          exact ih4 y121 (by omega) (by omega) (v4_3 + 1) (by omega) (by omega) hq_mo_13 hgr4 (by omega) H locs hB ls (lv_sub hl [2, 3, 1, 0] rfl)
  obtain ⟨H, hH⟩ : ∃ H : Heap, H = s.heap := ⟨_, rfl⟩
  obtain ⟨locs, hlocs⟩ : ∃ z : List Loc, z = [] := ⟨_, rfl⟩
  rw [← hH, ← hlocs] at hB
  rw [← hH, ← hlocs]
  refine q_iconst cx dX12_awakeSet_0 ?_
  refine lv_istore_n (lv' := [(2, .int (q_i 0)), (0, .ref mo), (1, .int (q_i a0))]) cx.1 cx.2.1 dX12_awakeSet_1 rfl hl (by decide) rfl (fun ls hl => ?_)
  refine q_iconst cx dX12_awakeSet_2 ?_
  refine lv_istore_n (lv' := [(3, .int (q_i 0)), (2, .int (q_i 0)), (0, .ref mo), (1, .int (q_i a0))]) cx.1 cx.2.1 dX12_awakeSet_3 rfl hl (by decide) rfl (fun ls hl => ?_)
  exact J4 ((Int.toNat (2147483647 - 0)) + 1) 0 (by decide) (by decide) 0 (by decide) (by decide) hr0 hgr (Nat.lt_succ_self _) H locs hB ls (lv_sub hl [2, 3, 1, 0] rfl)
set_option maxHeartbeats 4000000 in
set_option maxRecDepth 100000 in
theorem r_meeting (l : Launch) (g : q_G) {K : Nat → Nat} {L : List Nat} (hN : L.Nodup) {f : Nat → va_E} (hT : q_Ty g K L f) (mo : Nat) (hmo : mo ∈ L) (kmo : K mo = 12) (a0 : Int) (la0 : 0 ≤ a0) (ua0 : a0 ≤ 9) (b0 : Int) (lb0 : 0 ≤ b0) (ub0 : b0 ≤ 9) (sr : Nat) (hsr : sr ∈ L) (ksr : K sr = 151) (hr0 : q_ir (q_r f mo 13) sr) (hgr : q_gr f sr) : q_Ct l g K L yX12_meeting cX12_meeting 4 (some .int) 5 112 [.ref mo, .int (q_i a0), .int (q_i b0)] f [] (q_Pi (fun (z : Int) (f1 : Nat → va_E) => f = f1 ∧ (-1) ≤ z ∧ z ≤ 60)) := by
  refine q_ofb (by decide +kernel) hN hT (Nat.le_of_ble_eq_true rfl) ?_
  intro p e s m below meth c ls cx hr hlk hB hl
  have hl : lv_has ls 4 [(0, .ref mo), (1, .int (q_i a0)), (2, .int (q_i b0))] := hl
  have J9 : ∀ (n : Nat) (v9_3 : Int) (lv9_3 : 1 ≤ v9_3) (uv9_3 : v9_3 ≤ 61) (hq_mo_13 : q_ir (q_r f mo 13) sr) (hgr9 : q_gr f sr) (hmu : (Int.toNat (2147483647 - v9_3)) < n) (H : Heap) (locs : List Loc) (hB : q_B g K L (fun q => q ∈ L) [] f f s H locs) (ls : Array Slot) (hl : lv_has ls 4 [(0, .ref mo), (1, .int (q_i a0)), (2, .int (q_i b0)), (3, .int (q_i v9_3))]), W p l e { frames := 5, cells := 0, slots := 0, locals := 112 } s m ([.ref mo, .int (q_i a0), .int (q_i b0)] : List Value).toArray below meth c H locs 0 0 (MQ below (q_Q g K L [] f (q_Pi (fun (z : Int) (f1 : Nat → va_E) => f = f1 ∧ (-1) ≤ z ∧ z ≤ 60))) ([.ref mo, .int (q_i a0), .int (q_i b0)] : List Value).toArray s 0 0 (fun q => q ∈ L)) (F0 m 9 ls []) := by
    intro n
    induction n with
    | zero =>
      intro v9_3 lv9_3 uv9_3 hq_mo_13 hgr9 hmu
      exact absurd hmu (Nat.not_lt_zero _)
    | succ n ih9 =>
      intro v9_3 lv9_3 uv9_3 hq_mo_13 hgr9 hmu H locs hB ls hl
      refine q_ild_n cx dX12_meeting_9 rfl (lv_at hl 3 rfl) ?_
      refine q_ald_n cx dX12_meeting_10 rfl (lv_at hl 0 rfl) ?_
      refine q_gX12_20 cx hB hmo kmo hq_mo_13 dX12_meeting_11 (fun hb242 kb242 => ?_)
      refine q_iconst cx dX12_meeting_14 ?_
      obtain ⟨x243, ex243⟩ : ∃ zz, q_is (q_z f sr (Int.toNat 2)) zz := ⟨_, q_isr _⟩
      refine q_sald cx hB hsr ksr (by decide) (by decide) ex243 dX12_meeting_15 (fun rx243 => ?_)
      obtain ⟨lx243, ux243⟩ : 4 ≤ x243 ∧ x243 ≤ 60 := q_isb ex243 (q_gr_at hgr9 (by decide) rfl)
      refine q_icgt (tgt := 45) cx ⟨by omega, by omega⟩ ⟨by omega, by omega⟩ dX12_meeting_16 (by decide) (fun c245 => ?_) (fun c245 => ?_)
      · refine q_iconst cx dX12_meeting_45 ?_
        refine q_iret cx hr hlk hB dX12_meeting_46 ⟨by decide, by decide⟩ ?_
        exact ⟨rfl, (by decide), (by decide)⟩
      · refine q_ald_n cx dX12_meeting_19 rfl (lv_at hl 0 rfl) ?_
        refine q_ild_n cx dX12_meeting_20 rfl (lv_at hl 1 rfl) ?_
        refine q_ild_n cx dX12_meeting_21 rfl (lv_at hl 3 rfl) ?_
        refine q_cVi (As := [.int (q_i a0), .int (q_i v9_3)]) (rest := []) cx hB (fun _ h => h) hN hmo kmo (by decide) rfl (r_isAwakeIn l g hN hB.2.1 mo hmo kmo a0 (by omega) (by omega) v9_3 (by omega) (by omega) sr hsr ksr hq_mo_13 hgr9) q_cX12_274 q_dX12_isAwakeIn (by decide) rfl rfl hl.1 rfl (Nat.le_of_ble_eq_true rfl) dX12_meeting_22 (fun y247 H locs f246 ry247 h248 hF hB => ?_)
        obtain ⟨rfl, ly247, uy247⟩ := h248
        refine q_ifeq (tgt := 39) cx ⟨by omega, by omega⟩ dX12_meeting_25 (by decide) (fun c249 => ?_) (fun c249 => ?_)
        · refine q_iinc (lv' := [(3, .int (q_i (v9_3 + 1))), (0, .ref mo), (1, .int (q_i a0)), (2, .int (q_i b0))]) cx dX12_meeting_39 hl (k := 3) rfl (by decide) rfl (fun ls hl => ?_)
          refine lv_goto (tgt := 9) cx.1 cx.2.1 dX12_meeting_42 (by decide) ?_
          exact ih9 (v9_3 + 1) (by omega) (by omega) hq_mo_13 hgr9 (by omega) H locs hB ls (lv_sub hl [1, 2, 3, 0] rfl)
        · refine q_ald_n cx dX12_meeting_28 rfl (lv_at hl 0 rfl) ?_
          refine q_ild_n cx dX12_meeting_29 rfl (lv_at hl 2 rfl) ?_
          refine q_ild_n cx dX12_meeting_30 rfl (lv_at hl 3 rfl) ?_
          refine q_cVi (As := [.int (q_i b0), .int (q_i v9_3)]) (rest := []) cx hB (fun _ h => h) hN hmo kmo (by decide) rfl (r_isAwakeIn l g hN hB.2.1 mo hmo kmo b0 (by omega) (by omega) v9_3 (by omega) (by omega) sr hsr ksr hq_mo_13 hgr9) q_cX12_274 q_dX12_isAwakeIn (by decide) rfl rfl hl.1 rfl (Nat.le_of_ble_eq_true rfl) dX12_meeting_31 (fun y251 H locs f250 ry251 h252 hF hB => ?_)
          obtain ⟨rfl, ly251, uy251⟩ := h252
          refine q_ifeq (tgt := 39) cx ⟨by omega, by omega⟩ dX12_meeting_34 (by decide) (fun c253 => ?_) (fun c253 => ?_)
          · refine q_iinc (lv' := [(3, .int (q_i (v9_3 + 1))), (0, .ref mo), (1, .int (q_i a0)), (2, .int (q_i b0))]) cx dX12_meeting_39 hl (k := 3) rfl (by decide) rfl (fun ls hl => ?_)
            refine lv_goto (tgt := 9) cx.1 cx.2.1 dX12_meeting_42 (by decide) ?_
            exact ih9 (v9_3 + 1) (by omega) (by omega) hq_mo_13 hgr9 (by omega) H locs hB ls (lv_sub hl [1, 2, 3, 0] rfl)
          · refine q_ild_n cx dX12_meeting_37 rfl (lv_at hl 3 rfl) ?_
            refine q_iret cx hr hlk hB dX12_meeting_38 ⟨by omega, by omega⟩ ?_
            exact ⟨rfl, (by omega), (by omega)⟩
  obtain ⟨H, hH⟩ : ∃ H : Heap, H = s.heap := ⟨_, rfl⟩
  obtain ⟨locs, hlocs⟩ : ∃ z : List Loc, z = [] := ⟨_, rfl⟩
  rw [← hH, ← hlocs] at hB
  rw [← hH, ← hlocs]
  refine q_ild_n cx dX12_meeting_0 rfl (lv_at hl 1 rfl) ?_
  refine q_ild_n cx dX12_meeting_1 rfl (lv_at hl 2 rfl) ?_
  refine q_icne (tgt := 7) cx ⟨by omega, by omega⟩ ⟨by omega, by omega⟩ dX12_meeting_2 (by decide) (fun c254 => ?_) (fun c254 => ?_)
  · refine q_iconst cx dX12_meeting_7 ?_
    refine lv_istore_n (lv' := [(3, .int (q_i 1)), (0, .ref mo), (1, .int (q_i a0)), (2, .int (q_i b0))]) cx.1 cx.2.1 dX12_meeting_8 rfl hl (by decide) rfl (fun ls hl => ?_)
    exact J9 ((Int.toNat (2147483647 - 1)) + 1) 1 (by decide) (by decide) hr0 hgr (Nat.lt_succ_self _) H locs hB ls (lv_sub hl [1, 2, 3, 0] rfl)
  · refine q_iconst cx dX12_meeting_5 ?_
    refine q_iret cx hr hlk hB dX12_meeting_6 ⟨by decide, by decide⟩ ?_
    exact ⟨rfl, (by decide), (by decide)⟩
set_option maxHeartbeats 4000000 in
set_option maxRecDepth 100000 in
theorem r_lowersHops (l : Launch) (g : q_G) {K : Nat → Nat} {L : List Nat} (hN : L.Nodup) {f : Nat → va_E} (hT : q_Ty g K L f) (mo : Nat) (hmo : mo ∈ L) (kmo : K mo = 12) (sr : Nat) (hsr : sr ∈ L) (ksr : K sr = 151) (hp : Nat) (hhp : hp ∈ L) (khp : K hp = 159) (hr0 : q_ir (q_r f mo 13) sr) (hr1 : q_ir (q_r f mo 24) hp) (hgr : q_gr f sr) : q_Ct l g K L yX12_lowersHops cX12_lowersHops 5 (some .boolean) 3 64 [.ref mo] f [(159, 0, 9)] (q_Pi (fun (z : Int) (f1 : Nat → va_E) => 0 ≤ z ∧ z ≤ 1 ∧ (q_hs f1 hp ≤ q_hs f hp ∧ (z = 0 ∨ q_hs f1 hp < q_hs f hp)) ∧ (0 ≤ q_hs f1 hp))) := by
  refine q_ofb (by decide +kernel) hN hT (Nat.le_of_ble_eq_true rfl) ?_
  intro p e s m below meth c ls cx hr hlk hB hl
  have hl : lv_has ls 5 [(0, .ref mo)] := hl
  have J4 : ∀ (n : Nat) (f4 : Nat → va_E) (v4_1 : Int) (lv4_1 : 0 ≤ v4_1) (uv4_1 : v4_1 ≤ 1) (v4_2 : Int) (lv4_2 : 0 ≤ v4_2) (uv4_2 : v4_2 ≤ 16) (hq_mo_13 : q_ir (q_r f4 mo 13) sr) (hq_mo_24 : q_ir (q_r f4 mo 24) hp) (hgr4 : q_gr f4 sr) (hsm : q_hs f4 hp ≤ q_hs f hp ∧ (v4_1 = 0 ∨ q_hs f4 hp < q_hs f hp)) (hmu : (Int.toNat (2147483647 - v4_2)) < n) (H : Heap) (locs : List Loc) (hB : q_B g K L (fun q => q ∈ L) [(159, 0, 9)] f f4 s H locs) (ls : Array Slot) (hl : lv_has ls 5 [(0, .ref mo), (1, .int (q_i v4_1)), (2, .int (q_i v4_2))]), W p l e { frames := 3, cells := 0, slots := 0, locals := 64 } s m ([.ref mo] : List Value).toArray below meth c H locs 0 0 (MQ below (q_Q g K L [(159, 0, 9)] f (q_Pi (fun (z : Int) (f1 : Nat → va_E) => 0 ≤ z ∧ z ≤ 1 ∧ (q_hs f1 hp ≤ q_hs f hp ∧ (z = 0 ∨ q_hs f1 hp < q_hs f hp)) ∧ (0 ≤ q_hs f1 hp)))) ([.ref mo] : List Value).toArray s 0 0 (fun q => q ∈ L)) (F0 m 4 ls []) := by
    intro n
    induction n with
    | zero =>
      intro f4 v4_1 lv4_1 uv4_1 v4_2 lv4_2 uv4_2 hq_mo_13 hq_mo_24 hgr4 hsm hmu
      exact absurd hmu (Nat.not_lt_zero _)
    | succ n ih4 =>
      intro f4 v4_1 lv4_1 uv4_1 v4_2 lv4_2 uv4_2 hq_mo_13 hq_mo_24 hgr4 hsm hmu H locs hB ls hl
      refine q_ild_n cx dX12_lowersHops_4 rfl (lv_at hl 2 rfl) ?_
      refine q_ald_n cx dX12_lowersHops_5 rfl (lv_at hl 0 rfl) ?_
      refine q_gX12_20 cx hB hmo kmo hq_mo_13 dX12_lowersHops_6 (fun hb967 kb967 => ?_)
      refine q_iconst cx dX12_lowersHops_9 ?_
      obtain ⟨x968, ex968⟩ : ∃ zz, q_is (q_z f4 sr (Int.toNat 1)) zz := ⟨_, q_isr _⟩
      refine q_iald (lo := 0) (hi := 16) (n := 658) cx hB hsr ksr (by decide) rfl rfl (by decide) (by decide) (by decide) rfl ex968 dX12_lowersHops_10 (fun lb969 ub969 => ?_)
      refine q_icge (tgt := 125) cx ⟨by omega, by omega⟩ ⟨by omega, by omega⟩ dX12_lowersHops_11 (by decide) (fun c970 => ?_) (fun c970 => ?_)
      · refine q_ild_n cx dX12_lowersHops_125 rfl (lv_at hl 1 rfl) ?_
        refine q_zret cx hr hlk hB dX12_lowersHops_126 (by omega) (by omega) ?_
        exact ⟨(by omega), (by omega), (by omega), (q_hs_nn hB.2.1 hhp khp)⟩
      · refine q_ald_n cx dX12_lowersHops_14 rfl (lv_at hl 0 rfl) ?_
        refine q_ild_n cx dX12_lowersHops_15 rfl (lv_at hl 2 rfl) ?_
        refine q_iconst cx dX12_lowersHops_16 ?_
        refine q_cVi (As := [.int (q_i v4_2), .int (q_i 0)]) (rest := []) cx hB (fun _ h => h) hN hmo kmo (by decide) rfl (r_ofLink0 l g hN hB.2.1 mo hmo kmo v4_2 (by omega) (by omega) 0 (by decide) (by decide) sr hsr ksr hq_mo_13 hgr4) q_cX12_210 q_dX12_ofLink (by decide) rfl rfl hl.1 rfl (Nat.le_of_ble_eq_true rfl) dX12_lowersHops_17 (fun y972 H locs f971 ry972 h973 hF hB => ?_)
        obtain ⟨rfl, ly972, uy972⟩ := h973
        refine lv_istore_n (lv' := [(3, .int (q_i y972)), (0, .ref mo), (1, .int (q_i v4_1)), (2, .int (q_i v4_2))]) cx.1 cx.2.1 dX12_lowersHops_20 rfl hl (by decide) rfl (fun ls hl => ?_)
        refine q_ald_n cx dX12_lowersHops_21 rfl (lv_at hl 1 rfl) ?_
        refine q_ild_n cx dX12_lowersHops_22 rfl (lv_at hl 3 rfl) ?_
        refine q_iconst cx dX12_lowersHops_23 ?_
        refine q_cVi (As := [.int (q_i v4_2), .int (q_i 1)]) (rest := []) cx hB (fun _ h => h) hN hmo kmo (by decide) rfl (r_ofLink1 l g hN hB.2.1 mo hmo kmo v4_2 (by omega) (by omega) 1 (by decide) (by decide) sr hsr ksr hq_mo_13 hgr4) q_cX12_210 q_dX12_ofLink (by decide) rfl rfl hl.1 rfl (Nat.le_of_ble_eq_true rfl) dX12_lowersHops_24 (fun y975 H locs f974 ry975 h976 hF hB => ?_)
        obtain ⟨rfl, ly975, uy975⟩ := h976
        refine lv_istore (lv' := [(4, .int (q_i y975)), (3, .int (q_i y972)), (0, .ref mo), (1, .int (q_i v4_1)), (2, .int (q_i v4_2))]) cx.1 cx.2.1 dX12_lowersHops_27 hl (by decide) rfl (fun ls hl => ?_)
        refine q_ald_n cx dX12_lowersHops_29 rfl (lv_at hl 2 rfl) ?_
        refine q_ild_n cx dX12_lowersHops_30 rfl (lv_at hl 1 rfl) ?_
        refine q_cVi (As := [.int (q_i y972)]) (rest := []) cx hB (fun _ h => h) hN hmo kmo (by decide) rfl (r_isOut l g hN hB.2.1 mo hmo kmo y972 (by omega) (by omega) sr hsr ksr hq_mo_13 hgr4) q_cX12_271 q_dX12_isOut (by decide) rfl rfl hl.1 rfl (Nat.le_of_ble_eq_true rfl) dX12_lowersHops_31 (fun y978 H locs f977 ry978 h979 hF hB => ?_)
        obtain ⟨rfl, ly978, uy978⟩ := h979
        refine q_ifne (tgt := 119) cx ⟨by omega, by omega⟩ dX12_lowersHops_34 (by decide) (fun c980 => ?_) (fun c980 => ?_)
        · refine q_iinc (lv' := [(2, .int (q_i (v4_2 + 1))), (4, .int (q_i y975)), (3, .int (q_i y972)), (0, .ref mo), (1, .int (q_i v4_1))]) cx dX12_lowersHops_119 hl (k := 4) rfl (by decide) rfl (fun ls hl => ?_)
          refine lv_goto (tgt := 4) cx.1 cx.2.1 dX12_lowersHops_122 (by decide) ?_
          exact ih4 f4 v4_1 (by omega) (by omega) (v4_2 + 1) (by omega) (by omega) hq_mo_13 hq_mo_24 hgr4 (by omega) (by omega) H locs hB ls (lv_sub hl [3, 4, 0] rfl)
        · refine q_ald_n cx dX12_lowersHops_37 rfl (lv_at hl 2 rfl) ?_
          refine lv_iload cx.1 cx.2.1 dX12_lowersHops_38 (lv_at hl 0 rfl) ?_
          refine q_cVi (As := [.int (q_i y975)]) (rest := []) cx hB (fun _ h => h) hN hmo kmo (by decide) rfl (r_isOut l g hN hB.2.1 mo hmo kmo y975 (by omega) (by omega) sr hsr ksr hq_mo_13 hgr4) q_cX12_271 q_dX12_isOut (by decide) rfl rfl hl.1 rfl (Nat.le_of_ble_eq_true rfl) dX12_lowersHops_40 (fun y982 H locs f981 ry982 h983 hF hB => ?_)
          obtain ⟨rfl, ly982, uy982⟩ := h983
          refine q_ifeq (tgt := 49) cx ⟨by omega, by omega⟩ dX12_lowersHops_43 (by decide) (fun c984 => ?_) (fun c984 => ?_)
          · refine q_ald_n cx dX12_lowersHops_49 rfl (lv_at hl 2 rfl) ?_
            refine q_gX12_45 cx hB hmo kmo hq_mo_24 dX12_lowersHops_50 (fun hb985 kb985 => ?_)
            refine lv_iload cx.1 cx.2.1 dX12_lowersHops_53 (lv_at hl 0 rfl) ?_
            obtain ⟨x986, ex986⟩ : ∃ zz, q_is (q_z f4 hp (Int.toNat y975)) zz := ⟨_, q_isr _⟩
            refine q_iald (lo := 0) (hi := 1000) (n := 10) cx hB hhp khp (by decide) rfl rfl (by omega) (by omega) (by decide) rfl ex986 dX12_lowersHops_55 (fun lb987 ub987 => ?_)
            refine q_iconst cx dX12_lowersHops_56 ?_
            refine q_iadd cx dX12_lowersHops_57 ?_
            refine q_ald_n cx dX12_lowersHops_58 rfl (lv_at hl 2 rfl) ?_
            refine q_gX12_45 cx hB hmo kmo hq_mo_24 dX12_lowersHops_59 (fun hb988 kb988 => ?_)
            refine q_ild_n cx dX12_lowersHops_62 rfl (lv_at hl 1 rfl) ?_
            obtain ⟨x989, ex989⟩ : ∃ zz, q_is (q_z f4 hp (Int.toNat y972)) zz := ⟨_, q_isr _⟩
            refine q_iald (lo := 0) (hi := 1000) (n := 10) cx hB hhp khp (by decide) rfl rfl (by omega) (by omega) (by decide) rfl ex989 dX12_lowersHops_63 (fun lb990 ub990 => ?_)
            refine q_icge (tgt := 84) cx ⟨by omega, by omega⟩ ⟨by omega, by omega⟩ dX12_lowersHops_64 (by decide) (fun c991 => ?_) (fun c991 => ?_)
            · refine q_ald_n cx dX12_lowersHops_84 rfl (lv_at hl 2 rfl) ?_
              refine q_gX12_45 cx hB hmo kmo hq_mo_24 dX12_lowersHops_85 (fun hb992 kb992 => ?_)
              refine q_ild_n cx dX12_lowersHops_88 rfl (lv_at hl 1 rfl) ?_
              refine q_iald (lo := 0) (hi := 1000) (n := 10) cx hB hhp khp (by decide) rfl rfl (by omega) (by omega) (by decide) rfl ex989 dX12_lowersHops_89 (fun lb994 ub994 => ?_)
              refine q_iconst cx dX12_lowersHops_90 ?_
              refine q_iadd cx dX12_lowersHops_91 ?_
              refine q_ald_n cx dX12_lowersHops_92 rfl (lv_at hl 2 rfl) ?_
              refine q_gX12_45 cx hB hmo kmo hq_mo_24 dX12_lowersHops_93 (fun hb995 kb995 => ?_)
              refine lv_iload cx.1 cx.2.1 dX12_lowersHops_96 (lv_at hl 0 rfl) ?_
              refine q_iald (lo := 0) (hi := 1000) (n := 10) cx hB hhp khp (by decide) rfl rfl (by omega) (by omega) (by decide) rfl ex986 dX12_lowersHops_98 (fun lb997 ub997 => ?_)
              refine q_icge (tgt := 119) cx ⟨by omega, by omega⟩ ⟨by omega, by omega⟩ dX12_lowersHops_99 (by decide) (fun c998 => ?_) (fun c998 => ?_)
              · refine q_iinc (lv' := [(2, .int (q_i (v4_2 + 1))), (4, .int (q_i y975)), (3, .int (q_i y972)), (0, .ref mo), (1, .int (q_i v4_1))]) cx dX12_lowersHops_119 hl (k := 4) rfl (by decide) rfl (fun ls hl => ?_)
                refine lv_goto (tgt := 4) cx.1 cx.2.1 dX12_lowersHops_122 (by decide) ?_
                exact ih4 f4 v4_1 (by omega) (by omega) (v4_2 + 1) (by omega) (by omega) hq_mo_13 hq_mo_24 hgr4 (by omega) (by omega) H locs hB ls (lv_sub hl [3, 4, 0] rfl)
              · refine q_ald_n cx dX12_lowersHops_102 rfl (lv_at hl 2 rfl) ?_
                refine q_gX12_45 cx hB hmo kmo hq_mo_24 dX12_lowersHops_103 (fun hb999 kb999 => ?_)
                refine lv_iload cx.1 cx.2.1 dX12_lowersHops_106 (lv_at hl 0 rfl) ?_
                refine q_ald_n cx dX12_lowersHops_108 rfl (lv_at hl 2 rfl) ?_
                refine q_gX12_45 cx hB hmo kmo hq_mo_24 dX12_lowersHops_109 (fun hb1000 kb1000 => ?_)
                refine q_ild_n cx dX12_lowersHops_112 rfl (lv_at hl 1 rfl) ?_
                refine q_iald (lo := 0) (hi := 1000) (n := 10) cx hB hhp khp (by decide) rfl rfl (by omega) (by omega) (by decide) rfl ex989 dX12_lowersHops_113 (fun lb1002 ub1002 => ?_)
                refine q_iconst cx dX12_lowersHops_114 ?_
                refine q_iadd cx dX12_lowersHops_115 ?_
                refine q_iast (lo := 0) (hi := 1000) (n := 10) cx hB hhp khp (by decide) rfl rfl (by omega) (by omega) (by decide) rfl ⟨by omega, by omega⟩ (by omega) (by omega) (q_inWi (lo := 0) (hi := 9) (by decide) (by omega) (by omega)) dX12_lowersHops_116 (fun H locs f1003 ef1003 z1004 hB => ?_)
                have z1005 : q_is (q_z f1003 sr 1) x968 := by rw [ef1003, q_setz (Or.inl (fun q => by rw [q, khp] at ksr; exact absurd ksr (by decide)))]; exact ex968
                have z1006 : q_ir (q_r f1003 mo 13) sr := by rw [ef1003, q_setr (Or.inl (fun q => by rw [q, khp] at kmo; exact absurd kmo (by decide)))]; exact hq_mo_13
                have z1007 : q_ir (q_r f1003 mo 24) hp := by rw [ef1003, q_setr (Or.inl (fun q => by rw [q, khp] at kmo; exact absurd kmo (by decide)))]; exact hq_mo_24
                have g1008 : q_gr f1003 sr := q_gr_ne hgr4 ef1003 (fun q => q_kne (k := 151) (k2 := 159) (by decide) ksr khp q)
                have hs1579 := q_hs_put ef1003 z1004 (i := y975) (q_islt ex986 (by omega)) (by omega) (by omega)
                refine q_iconst cx dX12_lowersHops_117 ?_
                refine lv_istore_n (lv' := [(1, .int (q_i 1)), (4, .int (q_i y975)), (3, .int (q_i y972)), (0, .ref mo), (2, .int (q_i v4_2))]) cx.1 cx.2.1 dX12_lowersHops_118 rfl hl (by decide) rfl (fun ls hl => ?_)
                refine q_iinc (lv' := [(2, .int (q_i (v4_2 + 1))), (1, .int (q_i 1)), (4, .int (q_i y975)), (3, .int (q_i y972)), (0, .ref mo)]) cx dX12_lowersHops_119 hl (k := 4) rfl (by decide) rfl (fun ls hl => ?_)
                refine lv_goto (tgt := 4) cx.1 cx.2.1 dX12_lowersHops_122 (by decide) ?_
                exact ih4 f1003 1 (by decide) (by decide) (v4_2 + 1) (by omega) (by omega) z1006 z1007 g1008 (by omega) (by omega) H locs hB ls (lv_sub hl [4, 1, 0] rfl)
            · refine q_ald_n cx dX12_lowersHops_67 rfl (lv_at hl 2 rfl) ?_
              refine q_gX12_45 cx hB hmo kmo hq_mo_24 dX12_lowersHops_68 (fun hb1009 kb1009 => ?_)
              refine q_ild_n cx dX12_lowersHops_71 rfl (lv_at hl 1 rfl) ?_
              refine q_ald_n cx dX12_lowersHops_72 rfl (lv_at hl 2 rfl) ?_
              refine q_gX12_45 cx hB hmo kmo hq_mo_24 dX12_lowersHops_73 (fun hb1010 kb1010 => ?_)
              refine lv_iload cx.1 cx.2.1 dX12_lowersHops_76 (lv_at hl 0 rfl) ?_
              refine q_iald (lo := 0) (hi := 1000) (n := 10) cx hB hhp khp (by decide) rfl rfl (by omega) (by omega) (by decide) rfl ex986 dX12_lowersHops_78 (fun lb1012 ub1012 => ?_)
              refine q_iconst cx dX12_lowersHops_79 ?_
              refine q_iadd cx dX12_lowersHops_80 ?_
              refine q_iast (lo := 0) (hi := 1000) (n := 10) cx hB hhp khp (by decide) rfl rfl (by omega) (by omega) (by decide) rfl ⟨by omega, by omega⟩ (by omega) (by omega) (q_inWi (lo := 0) (hi := 9) (by decide) (by omega) (by omega)) dX12_lowersHops_81 (fun H locs f1013 ef1013 z1014 hB => ?_)
              have z1015 : q_is (q_z f1013 sr 1) x968 := by rw [ef1013, q_setz (Or.inl (fun q => by rw [q, khp] at ksr; exact absurd ksr (by decide)))]; exact ex968
              have z1016 : q_ir (q_r f1013 mo 13) sr := by rw [ef1013, q_setr (Or.inl (fun q => by rw [q, khp] at kmo; exact absurd kmo (by decide)))]; exact hq_mo_13
              have z1017 : q_ir (q_r f1013 mo 24) hp := by rw [ef1013, q_setr (Or.inl (fun q => by rw [q, khp] at kmo; exact absurd kmo (by decide)))]; exact hq_mo_24
              have g1018 : q_gr f1013 sr := q_gr_ne hgr4 ef1013 (fun q => q_kne (k := 151) (k2 := 159) (by decide) ksr khp q)
              have hs1593 := q_hs_put ef1013 z1014 (i := y972) (q_islt ex989 (by omega)) (by omega) (by omega)
              refine q_iconst cx dX12_lowersHops_82 ?_
              refine lv_istore_n (lv' := [(1, .int (q_i 1)), (4, .int (q_i y975)), (3, .int (q_i y972)), (0, .ref mo), (2, .int (q_i v4_2))]) cx.1 cx.2.1 dX12_lowersHops_83 rfl hl (by decide) rfl (fun ls hl => ?_)
              refine q_ald_n cx dX12_lowersHops_84 rfl (lv_at hl 3 rfl) ?_
              refine q_gX12_45 cx hB hmo kmo z1017 dX12_lowersHops_85 (fun hb1019 kb1019 => ?_)
              refine q_ild_n cx dX12_lowersHops_88 rfl (lv_at hl 2 rfl) ?_
              refine q_iald (lo := 0) (hi := 1000) (n := 10) cx hB hhp khp (by decide) rfl rfl (by omega) (by omega) (by decide) rfl z1014 dX12_lowersHops_89 (fun lb1021 ub1021 => ?_)
              refine q_iconst cx dX12_lowersHops_90 ?_
              refine q_iadd cx dX12_lowersHops_91 ?_
              refine q_ald_n cx dX12_lowersHops_92 rfl (lv_at hl 3 rfl) ?_
              refine q_gX12_45 cx hB hmo kmo z1017 dX12_lowersHops_93 (fun hb1022 kb1022 => ?_)
              refine lv_iload cx.1 cx.2.1 dX12_lowersHops_96 (lv_at hl 1 rfl) ?_
              obtain ⟨x1023, ex1023⟩ : ∃ zz, q_is (q_z f1013 hp (Int.toNat y975)) zz := ⟨_, q_isr _⟩
              refine q_iald (lo := 0) (hi := 1000) (n := 10) cx hB hhp khp (by decide) rfl rfl (by omega) (by omega) (by decide) rfl ex1023 dX12_lowersHops_98 (fun lb1024 ub1024 => ?_)
              refine q_icge (tgt := 119) cx ⟨by omega, by omega⟩ ⟨by omega, by omega⟩ dX12_lowersHops_99 (by decide) (fun c1025 => ?_) (fun c1025 => ?_)
              · refine q_iinc (lv' := [(2, .int (q_i (v4_2 + 1))), (1, .int (q_i 1)), (4, .int (q_i y975)), (3, .int (q_i y972)), (0, .ref mo)]) cx dX12_lowersHops_119 hl (k := 4) rfl (by decide) rfl (fun ls hl => ?_)
                refine lv_goto (tgt := 4) cx.1 cx.2.1 dX12_lowersHops_122 (by decide) ?_
                exact ih4 f1013 1 (by decide) (by decide) (v4_2 + 1) (by omega) (by omega) z1016 z1017 g1018 (by omega) (by omega) H locs hB ls (lv_sub hl [4, 1, 0] rfl)
              · refine q_ald_n cx dX12_lowersHops_102 rfl (lv_at hl 3 rfl) ?_
                refine q_gX12_45 cx hB hmo kmo z1017 dX12_lowersHops_103 (fun hb1026 kb1026 => ?_)
                refine lv_iload cx.1 cx.2.1 dX12_lowersHops_106 (lv_at hl 1 rfl) ?_
                refine q_ald_n cx dX12_lowersHops_108 rfl (lv_at hl 3 rfl) ?_
                refine q_gX12_45 cx hB hmo kmo z1017 dX12_lowersHops_109 (fun hb1027 kb1027 => ?_)
                refine q_ild_n cx dX12_lowersHops_112 rfl (lv_at hl 2 rfl) ?_
                refine q_iald (lo := 0) (hi := 1000) (n := 10) cx hB hhp khp (by decide) rfl rfl (by omega) (by omega) (by decide) rfl z1014 dX12_lowersHops_113 (fun lb1029 ub1029 => ?_)
                refine q_iconst cx dX12_lowersHops_114 ?_
                refine q_iadd cx dX12_lowersHops_115 ?_
                refine q_iast (lo := 0) (hi := 1000) (n := 10) cx hB hhp khp (by decide) rfl rfl (by omega) (by omega) (by decide) rfl ⟨by omega, by omega⟩ (by omega) (by omega) (q_inWi (lo := 0) (hi := 9) (by decide) (by omega) (by omega)) dX12_lowersHops_116 (fun H locs f1030 ef1030 z1031 hB => ?_)
                have z1032 : q_is (q_z f1030 sr 1) x968 := by rw [ef1030, q_setz (Or.inl (fun q => by rw [q, khp] at ksr; exact absurd ksr (by decide)))]; exact z1015
                have z1033 : q_ir (q_r f1030 mo 13) sr := by rw [ef1030, q_setr (Or.inl (fun q => by rw [q, khp] at kmo; exact absurd kmo (by decide)))]; exact z1016
                have z1034 : q_ir (q_r f1030 mo 24) hp := by rw [ef1030, q_setr (Or.inl (fun q => by rw [q, khp] at kmo; exact absurd kmo (by decide)))]; exact z1017
                have g1035 : q_gr f1030 sr := q_gr_ne g1018 ef1030 (fun q => q_kne (k := 151) (k2 := 159) (by decide) ksr khp q)
                have hs1618 := q_hs_put ef1030 z1031 (i := y975) (q_islt ex1023 (by omega)) (by omega) (by omega)
                refine q_iconst cx dX12_lowersHops_117 ?_
                refine lv_istore_n (lv' := [(1, .int (q_i 1)), (4, .int (q_i y975)), (3, .int (q_i y972)), (0, .ref mo), (2, .int (q_i v4_2))]) cx.1 cx.2.1 dX12_lowersHops_118 rfl hl (by decide) rfl (fun ls hl => ?_)
                refine q_iinc (lv' := [(2, .int (q_i (v4_2 + 1))), (1, .int (q_i 1)), (4, .int (q_i y975)), (3, .int (q_i y972)), (0, .ref mo)]) cx dX12_lowersHops_119 hl (k := 4) rfl (by decide) rfl (fun ls hl => ?_)
                refine lv_goto (tgt := 4) cx.1 cx.2.1 dX12_lowersHops_122 (by decide) ?_
                exact ih4 f1030 1 (by decide) (by decide) (v4_2 + 1) (by omega) (by omega) z1033 z1034 g1035 (by omega) (by omega) H locs hB ls (lv_sub hl [4, 1, 0] rfl)
          · refine lv_goto (tgt := 119) cx.1 cx.2.1 dX12_lowersHops_46 (by decide) ?_
            refine q_iinc (lv' := [(2, .int (q_i (v4_2 + 1))), (4, .int (q_i y975)), (3, .int (q_i y972)), (0, .ref mo), (1, .int (q_i v4_1))]) cx dX12_lowersHops_119 hl (k := 4) rfl (by decide) rfl (fun ls hl => ?_)
            refine lv_goto (tgt := 4) cx.1 cx.2.1 dX12_lowersHops_122 (by decide) ?_
            exact ih4 f4 v4_1 (by omega) (by omega) (v4_2 + 1) (by omega) (by omega) hq_mo_13 hq_mo_24 hgr4 (by omega) (by omega) H locs hB ls (lv_sub hl [3, 4, 0] rfl)
  obtain ⟨H, hH⟩ : ∃ H : Heap, H = s.heap := ⟨_, rfl⟩
  obtain ⟨locs, hlocs⟩ : ∃ z : List Loc, z = [] := ⟨_, rfl⟩
  rw [← hH, ← hlocs] at hB
  rw [← hH, ← hlocs]
  refine q_iconst cx dX12_lowersHops_0 ?_
  refine lv_istore_n (lv' := [(1, .int (q_i 0)), (0, .ref mo)]) cx.1 cx.2.1 dX12_lowersHops_1 rfl hl (by decide) rfl (fun ls hl => ?_)
  refine q_iconst cx dX12_lowersHops_2 ?_
  refine lv_istore_n (lv' := [(2, .int (q_i 0)), (1, .int (q_i 0)), (0, .ref mo)]) cx.1 cx.2.1 dX12_lowersHops_3 rfl hl (by decide) rfl (fun ls hl => ?_)
  exact J4 ((Int.toNat (2147483647 - 0)) + 1) f 0 (by decide) (by decide) 0 (by decide) (by decide) hr0 hr1 hgr ⟨Int.le_refl _, Or.inl rfl⟩ (Nat.lt_succ_self _) H locs hB ls (lv_sub hl [2, 1, 0] rfl)
