set_option maxHeartbeats 4000000 in
set_option maxRecDepth 100000 in
theorem r_nextNode (l : Launch) (g : q_G) {K : Nat → Nat} {L : List Nat} (hN : L.Nodup) {f : Nat → va_E} (hT : q_Ty g K L f) (mo : Nat) (hmo : mo ∈ L) (kmo : K mo = 12) (a0 : Int) (la0 : (-2147483648) ≤ a0) (ua0 : a0 ≤ 2147483647) (b0 : Int) (lb0 : (-2147483648) ≤ b0) (ub0 : b0 ≤ 2147483647) (sr : Nat) (hsr : sr ∈ L) (ksr : K sr = 151) (hp : Nat) (hhp : hp ∈ L) (khp : K hp = 159) (hr0 : q_ir (q_r f mo 13) sr) (hr1 : q_ir (q_r f mo 24) hp) (hgr : q_gr f sr) : q_Ct l g K L yX12_nextNode cX12_nextNode 3 (some .int) 6 135 [.ref mo, .int (q_i a0), .int (q_i b0)] f [(12, 0, 0), (159, 0, 9)] (q_Pi (fun (z : Int) (f1 : Nat → va_E) => (-1) ≤ z ∧ z ≤ 9)) := by
  refine q_ofb (by decide +kernel) hN hT (Nat.le_of_ble_eq_true rfl) ?_
  intro p e s m below meth c ls cx hr hlk hB hl
  have hl : lv_has ls 3 [(0, .ref mo), (1, .int (q_i a0)), (2, .int (q_i b0))] := hl
  obtain ⟨H, hH⟩ : ∃ H : Heap, H = s.heap := ⟨_, rfl⟩
  obtain ⟨locs, hlocs⟩ : ∃ z : List Loc, z = [] := ⟨_, rfl⟩
  rw [← hH, ← hlocs] at hB
  rw [← hH, ← hlocs]
  refine q_ald_n cx dX12_nextNode_0 rfl (lv_at hl 0 rfl) ?_
  refine q_ald_n cx dX12_nextNode_1 rfl (lv_at hl 0 rfl) ?_
  refine q_ild_n cx dX12_nextNode_2 rfl (lv_at hl 1 rfl) ?_
  refine q_cVi (As := [.int (q_i a0)]) (rest := [.ref mo]) cx hB (fun _ h => h) hN hmo kmo (by decide) rfl (r_isNode l g hN hB.2.1 mo hmo kmo a0 (by omega) (by omega) sr hsr ksr hr0) q_cX12_355 q_dX12_isNode (by decide) rfl rfl hl.1 rfl (Nat.le_of_ble_eq_true rfl) dX12_nextNode_3 (fun y51 H locs f50 ry51 h52 hF hB => ?_)
  rcases h52 with h53 | h54
  · obtain ⟨rfl, qy51, t55, t56⟩ := h53
    subst qy51
    refine q_ifeq (tgt := 21) cx ⟨by decide, by decide⟩ dX12_nextNode_6 (by decide) (fun c57 => ?_) (fun c57 => ?_)
    · exact absurd c57 (by omega)
    · refine q_ald_n cx dX12_nextNode_9 rfl (lv_at hl 0 rfl) ?_
      refine q_ild_n cx dX12_nextNode_10 rfl (lv_at hl 2 rfl) ?_
      refine q_cVi (As := [.int (q_i b0)]) (rest := [.ref mo]) cx hB (fun _ h => h) hN hmo kmo (by decide) rfl (r_isNode l g hN hB.2.1 mo hmo kmo b0 (by omega) (by omega) sr hsr ksr hr0) q_cX12_355 q_dX12_isNode (by decide) rfl rfl hl.1 rfl (Nat.le_of_ble_eq_true rfl) dX12_nextNode_11 (fun y59 H locs f58 ry59 h60 hF hB => ?_)
      rcases h60 with h61 | h62
      · obtain ⟨rfl, qy59, t63, t64⟩ := h61
        subst qy59
        refine q_ifeq (tgt := 21) cx ⟨by decide, by decide⟩ dX12_nextNode_14 (by decide) (fun c65 => ?_) (fun c65 => ?_)
        · exact absurd c65 (by omega)
        · refine q_iconst cx dX12_nextNode_17 ?_
          refine lv_goto (tgt := 22) cx.1 cx.2.1 dX12_nextNode_18 (by decide) ?_
          refine q_cVi (As := [.int (q_i 1)]) (rest := []) cx hB (fun _ h => h) hN hmo kmo (by decide) rfl (r_goes1 l g hN hB.2.1 mo hmo kmo 1 (by decide) (by decide)) q_cX12_85 q_dX12_goes (by decide) rfl rfl hl.1 rfl (Nat.le_of_ble_eq_true rfl) dX12_nextNode_22 (fun y67 H locs f66 ry67 h68 hF hB => ?_)
          obtain ⟨qy67, z69⟩ := h68
          have z70 : q_ir (q_r f66 mo 13) sr := Eq.trans (hF.r hmo (by rw [kmo]; rfl)) hr0
          have z71 : q_ir (q_r f66 mo 24) hp := Eq.trans (hF.r hmo (by rw [kmo]; rfl)) hr1
          have g72 : q_gr f66 sr := q_gr_fr hgr (fun i9 _ => hF.z hsr (by rw [ksr]; rfl))
          subst qy67
          refine q_ifeq (tgt := 37) cx ⟨by decide, by decide⟩ dX12_nextNode_25 (by decide) (fun c73 => ?_) (fun c73 => ?_)
          · exact absurd c73 (by omega)
          · refine q_ald_n cx dX12_nextNode_28 rfl (lv_at hl 0 rfl) ?_
            refine q_ild_n cx dX12_nextNode_29 rfl (lv_at hl 1 rfl) ?_
            refine q_ild_n cx dX12_nextNode_30 rfl (lv_at hl 2 rfl) ?_
            refine q_cVi (As := [.int (q_i a0), .int (q_i b0)]) (rest := []) cx hB (fun _ h => h) hN hmo kmo (by decide) rfl (r_nextOf l g hN hB.2.1 mo hmo kmo a0 (by omega) (by omega) b0 (by omega) (by omega) sr hsr ksr hp hhp khp z70 z71 g72) q_cX12_311 q_dX12_nextOf (by decide) rfl rfl hl.1 rfl (Nat.le_of_ble_eq_true rfl) dX12_nextNode_31 (fun y75 H locs f74 ry75 h76 hF hB => ?_)
            obtain ⟨ly75, uy75⟩ := h76
            have z77 : q_is (q_z f74 mo 0) 0 := Eq.trans (hF.z hmo (by rw [kmo]; rfl)) z69
            have z78 : q_ir (q_r f74 mo 13) sr := Eq.trans (hF.r hmo (by rw [kmo]; rfl)) z70
            have z79 : q_ir (q_r f74 mo 24) hp := Eq.trans (hF.r hmo (by rw [kmo]; rfl)) z71
            have g80 : q_gr f74 sr := q_gr_fr g72 (fun i9 _ => hF.z hsr (by rw [ksr]; rfl))
            refine lv_goto (tgt := 38) cx.1 cx.2.1 dX12_nextNode_34 (by decide) ?_
            refine q_iret cx hr hlk hB dX12_nextNode_38 ⟨by omega, by omega⟩ ?_
            exact ⟨(by omega), (by omega)⟩
      · obtain ⟨rfl, qy59⟩ := h62
        subst qy59
        refine q_ifeq (tgt := 21) cx ⟨by decide, by decide⟩ dX12_nextNode_14 (by decide) (fun c81 => ?_) (fun c81 => ?_)
        · refine q_iconst cx dX12_nextNode_21 ?_
          refine q_cVi (As := [.int (q_i 0)]) (rest := []) cx hB (fun _ h => h) hN hmo kmo (by decide) rfl (r_goes0 l g hN hB.2.1 mo hmo kmo 0 (by decide) (by decide)) q_cX12_85 q_dX12_goes (by decide) rfl rfl hl.1 rfl (Nat.le_of_ble_eq_true rfl) dX12_nextNode_22 (fun y83 H locs f82 ry83 h84 hF hB => ?_)
          obtain ⟨qy83, z85⟩ := h84
          have z86 : q_ir (q_r f82 mo 13) sr := Eq.trans (hF.r hmo (by rw [kmo]; rfl)) hr0
          have z87 : q_ir (q_r f82 mo 24) hp := Eq.trans (hF.r hmo (by rw [kmo]; rfl)) hr1
          have g88 : q_gr f82 sr := q_gr_fr hgr (fun i9 _ => hF.z hsr (by rw [ksr]; rfl))
          subst qy83
          refine q_ifeq (tgt := 37) cx ⟨by decide, by decide⟩ dX12_nextNode_25 (by decide) (fun c89 => ?_) (fun c89 => ?_)
          · refine q_iconst cx dX12_nextNode_37 ?_
            refine q_iret cx hr hlk hB dX12_nextNode_38 ⟨by decide, by decide⟩ ?_
            exact ⟨(by decide), (by decide)⟩
          · exact absurd c89 (by omega)
        · exact absurd c81 (by omega)
  · obtain ⟨rfl, qy51⟩ := h54
    subst qy51
    refine q_ifeq (tgt := 21) cx ⟨by decide, by decide⟩ dX12_nextNode_6 (by decide) (fun c90 => ?_) (fun c90 => ?_)
    · refine q_iconst cx dX12_nextNode_21 ?_
      refine q_cVi (As := [.int (q_i 0)]) (rest := []) cx hB (fun _ h => h) hN hmo kmo (by decide) rfl (r_goes0 l g hN hB.2.1 mo hmo kmo 0 (by decide) (by decide)) q_cX12_85 q_dX12_goes (by decide) rfl rfl hl.1 rfl (Nat.le_of_ble_eq_true rfl) dX12_nextNode_22 (fun y92 H locs f91 ry92 h93 hF hB => ?_)
      obtain ⟨qy92, z94⟩ := h93
      have z95 : q_ir (q_r f91 mo 13) sr := Eq.trans (hF.r hmo (by rw [kmo]; rfl)) hr0
      have z96 : q_ir (q_r f91 mo 24) hp := Eq.trans (hF.r hmo (by rw [kmo]; rfl)) hr1
      have g97 : q_gr f91 sr := q_gr_fr hgr (fun i9 _ => hF.z hsr (by rw [ksr]; rfl))
      subst qy92
      refine q_ifeq (tgt := 37) cx ⟨by decide, by decide⟩ dX12_nextNode_25 (by decide) (fun c98 => ?_) (fun c98 => ?_)
      · refine q_iconst cx dX12_nextNode_37 ?_
        refine q_iret cx hr hlk hB dX12_nextNode_38 ⟨by decide, by decide⟩ ?_
        exact ⟨(by decide), (by decide)⟩
      · exact absurd c98 (by omega)
    · exact absurd c90 (by omega)
set_option maxHeartbeats 4000000 in
set_option maxRecDepth 100000 in
theorem r_widest (l : Launch) (g : q_G) {K : Nat → Nat} {L : List Nat} (hN : L.Nodup) {f : Nat → va_E} (hT : q_Ty g K L f) (mo : Nat) (hmo : mo ∈ L) (kmo : K mo = 12) (sr : Nat) (hsr : sr ∈ L) (ksr : K sr = 151) (hp : Nat) (hhp : hp ∈ L) (khp : K hp = 159) (hr0 : q_ir (q_r f mo 13) sr) (hr1 : q_ir (q_r f mo 24) hp) (hgr : q_gr f sr) : q_Ct l g K L yX12_widest cX12_widest 4 (some .int) 6 132 [.ref mo] f [(12, 0, 0), (159, 0, 9)] (q_Pi (fun (z : Int) (f1 : Nat → va_E) => 0 ≤ z ∧ z ≤ 999)) := by
  refine q_ofb (by decide +kernel) hN hT (Nat.le_of_ble_eq_true rfl) ?_
  intro p e s m below meth c ls cx hr hlk hB hl
  have hl : lv_has ls 4 [(0, .ref mo)] := hl
  have J9 : ∀ (n : Nat) (f9 : Nat → va_E) (v9_1 : Int) (lv9_1 : 0 ≤ v9_1) (uv9_1 : v9_1 ≤ 999) (v9_2 : Int) (lv9_2 : 0 ≤ v9_2) (uv9_2 : v9_2 ≤ 10) (hq_mo_13 : q_ir (q_r f9 mo 13) sr) (hq_mo_24 : q_ir (q_r f9 mo 24) hp) (hgr9 : q_gr f9 sr) (hmu : (Int.toNat (2147483647 - v9_2)) < n) (H : Heap) (locs : List Loc) (hB : q_B g K L (fun q => q ∈ L) [(12, 0, 0), (159, 0, 9)] f f9 s H locs) (ls : Array Slot) (hl : lv_has ls 4 [(0, .ref mo), (1, .int (q_i v9_1)), (2, .int (q_i v9_2))]), W p l e { frames := 6, cells := 0, slots := 0, locals := 132 } s m ([.ref mo] : List Value).toArray below meth c H locs 0 0 (MQ below (q_Q g K L [(12, 0, 0), (159, 0, 9)] f (q_Pi (fun (z : Int) (f1 : Nat → va_E) => 0 ≤ z ∧ z ≤ 999))) ([.ref mo] : List Value).toArray s 0 0 (fun q => q ∈ L)) (F0 m 9 ls []) := by
    intro n
    induction n with
    | zero =>
      intro f9 v9_1 lv9_1 uv9_1 v9_2 lv9_2 uv9_2 hq_mo_13 hq_mo_24 hgr9 hmu
      exact absurd hmu (Nat.not_lt_zero _)
    | succ n ih9 =>
      intro f9 v9_1 lv9_1 uv9_1 v9_2 lv9_2 uv9_2 hq_mo_13 hq_mo_24 hgr9 hmu H locs hB ls hl
      have J21 : ∀ (n : Nat) (f21 : Nat → va_E) (v21_1 : Int) (lv21_1 : 0 ≤ v21_1) (uv21_1 : v21_1 ≤ 999) (v21_3 : Int) (lv21_3 : 0 ≤ v21_3) (uv21_3 : v21_3 ≤ 10) (buv9_2 : v9_2 ≤ 9) (hq_mo_13 : q_ir (q_r f21 mo 13) sr) (hq_mo_24 : q_ir (q_r f21 mo 24) hp) (hgr21 : q_gr f21 sr) (hmu : (Int.toNat (2147483647 - v21_3)) < n) (H : Heap) (locs : List Loc) (hB : q_B g K L (fun q => q ∈ L) [(12, 0, 0), (159, 0, 9)] f f21 s H locs) (ls : Array Slot) (hl : lv_has ls 4 [(0, .ref mo), (1, .int (q_i v21_1)), (2, .int (q_i v9_2)), (3, .int (q_i v21_3))]), W p l e { frames := 6, cells := 0, slots := 0, locals := 132 } s m ([.ref mo] : List Value).toArray below meth c H locs 0 0 (MQ below (q_Q g K L [(12, 0, 0), (159, 0, 9)] f (q_Pi (fun (z : Int) (f1 : Nat → va_E) => 0 ≤ z ∧ z ≤ 999))) ([.ref mo] : List Value).toArray s 0 0 (fun q => q ∈ L)) (F0 m 21 ls []) := by
        intro n
        induction n with
        | zero =>
          intro f21 v21_1 lv21_1 uv21_1 v21_3 lv21_3 uv21_3 buv9_2 hq_mo_13 hq_mo_24 hgr21 hmu
          exact absurd hmu (Nat.not_lt_zero _)
        | succ n ih21 =>
          intro f21 v21_1 lv21_1 uv21_1 v21_3 lv21_3 uv21_3 buv9_2 hq_mo_13 hq_mo_24 hgr21 hmu H locs hB ls hl
          refine q_ild_n cx dX12_widest_21 rfl (lv_at hl 3 rfl) ?_
          refine q_ald_n cx dX12_widest_22 rfl (lv_at hl 0 rfl) ?_
          refine q_gX12_20 cx hB hmo kmo hq_mo_13 dX12_widest_23 (fun hb226 kb226 => ?_)
          refine q_iconst cx dX12_widest_26 ?_
          obtain ⟨x227, ex227⟩ : ∃ zz, q_is (q_z f21 sr (Int.toNat 0)) zz := ⟨_, q_isr _⟩
          refine q_iald (lo := 0) (hi := 10) (n := 658) cx hB hsr ksr (by decide) rfl rfl (by decide) (by decide) (by decide) rfl ex227 dX12_widest_27 (fun lb228 ub228 => ?_)
          refine q_icge (tgt := 48) cx ⟨by omega, by omega⟩ ⟨by omega, by omega⟩ dX12_widest_28 (by decide) (fun c229 => ?_) (fun c229 => ?_)
          · refine q_iinc (lv' := [(2, .int (q_i (v9_2 + 1))), (0, .ref mo), (1, .int (q_i v21_1)), (3, .int (q_i v21_3))]) cx dX12_widest_48 hl (k := 2) rfl (by decide) rfl (fun ls hl => ?_)
            refine lv_goto (tgt := 9) cx.1 cx.2.1 dX12_widest_51 (by decide) ?_
            exact ih9 f21 v21_1 (by omega) (by omega) (v9_2 + 1) (by omega) (by omega) hq_mo_13 hq_mo_24 hgr21 (by omega) H locs hB ls (lv_sub hl [1, 2, 0] rfl)
          · refine q_ild_n cx dX12_widest_31 rfl (lv_at hl 1 rfl) ?_
            refine q_ald_n cx dX12_widest_32 rfl (lv_at hl 0 rfl) ?_
            refine q_ild_n cx dX12_widest_33 rfl (lv_at hl 2 rfl) ?_
            refine q_ild_n cx dX12_widest_34 rfl (lv_at hl 3 rfl) ?_
            refine q_cVi (As := [.int (q_i v9_2), .int (q_i v21_3)]) (rest := [.int (q_i v21_1)]) cx hB (fun _ h => h) hN hmo kmo (by decide) rfl (r_hopsBetween l g hN hB.2.1 mo hmo kmo v9_2 (by omega) (by omega) v21_3 (by omega) (by omega) sr hsr ksr hp hhp khp hq_mo_13 hq_mo_24 hgr21) q_cX12_402 q_dX12_hopsBetween (by decide) rfl rfl hl.1 rfl (Nat.le_of_ble_eq_true rfl) dX12_widest_35 (fun y231 H locs f230 ry231 h232 hF hB => ?_)
            obtain ⟨ly231, uy231⟩ := h232
            have z233 : q_is (q_z f230 sr 0) x227 := Eq.trans (hF.z hsr (by rw [ksr]; rfl)) ex227
            have z234 : q_ir (q_r f230 mo 13) sr := Eq.trans (hF.r hmo (by rw [kmo]; rfl)) hq_mo_13
            have z235 : q_ir (q_r f230 mo 24) hp := Eq.trans (hF.r hmo (by rw [kmo]; rfl)) hq_mo_24
            have g236 : q_gr f230 sr := q_gr_fr hgr21 (fun i9 _ => hF.z hsr (by rw [ksr]; rfl))
            refine q_cSi (As := [.int (q_i v21_1), .int (q_i y231)]) (rest := []) cx hB (fun _ h => h) hN (r_greater l g hN hB.2.1 v21_1 (by omega) (by omega) y231 (by omega) (by omega)) q_cX12_299 q_dX12_greater (by decide) rfl rfl hl.1 rfl (Nat.le_of_ble_eq_true rfl) dX12_widest_38 (fun y238 H locs f237 ry238 h239 hF hB => ?_)
            rcases h239 with h240 | h241
            · obtain ⟨rfl, qy238, t242⟩ := h240
              refine lv_istore_n (lv' := [(1, .int (q_i y238)), (0, .ref mo), (2, .int (q_i v9_2)), (3, .int (q_i v21_3))]) cx.1 cx.2.1 dX12_widest_41 rfl hl (by decide) rfl (fun ls hl => ?_)
              refine q_iinc (lv' := [(3, .int (q_i (v21_3 + 1))), (1, .int (q_i y238)), (0, .ref mo), (2, .int (q_i v9_2))]) cx dX12_widest_42 hl (k := 3) rfl (by decide) rfl (fun ls hl => ?_)
              refine lv_goto (tgt := 21) cx.1 cx.2.1 dX12_widest_45 (by decide) ?_
              exact ih21 f230 y238 (by omega) (by omega) (v21_3 + 1) (by omega) (by omega) (by omega) z234 z235 g236 (by omega) H locs hB ls (lv_sub hl [2, 1, 3, 0] rfl)
            · obtain ⟨rfl, qy238, t243⟩ := h241
              refine lv_istore_n (lv' := [(1, .int (q_i y238)), (0, .ref mo), (2, .int (q_i v9_2)), (3, .int (q_i v21_3))]) cx.1 cx.2.1 dX12_widest_41 rfl hl (by decide) rfl (fun ls hl => ?_)
              refine q_iinc (lv' := [(3, .int (q_i (v21_3 + 1))), (1, .int (q_i y238)), (0, .ref mo), (2, .int (q_i v9_2))]) cx dX12_widest_42 hl (k := 3) rfl (by decide) rfl (fun ls hl => ?_)
              refine lv_goto (tgt := 21) cx.1 cx.2.1 dX12_widest_45 (by decide) ?_
              exact ih21 f230 y238 (by omega) (by omega) (v21_3 + 1) (by omega) (by omega) (by omega) z234 z235 g236 (by omega) H locs hB ls (lv_sub hl [2, 1, 3, 0] rfl)
      refine q_ild_n cx dX12_widest_9 rfl (lv_at hl 2 rfl) ?_
      refine q_ald_n cx dX12_widest_10 rfl (lv_at hl 0 rfl) ?_
      refine q_gX12_20 cx hB hmo kmo hq_mo_13 dX12_widest_11 (fun hb244 kb244 => ?_)
      refine q_iconst cx dX12_widest_14 ?_
      obtain ⟨x245, ex245⟩ : ∃ zz, q_is (q_z f9 sr (Int.toNat 0)) zz := ⟨_, q_isr _⟩
      refine q_iald (lo := 0) (hi := 10) (n := 658) cx hB hsr ksr (by decide) rfl rfl (by decide) (by decide) (by decide) rfl ex245 dX12_widest_15 (fun lb246 ub246 => ?_)
      refine q_icge (tgt := 54) cx ⟨by omega, by omega⟩ ⟨by omega, by omega⟩ dX12_widest_16 (by decide) (fun c247 => ?_) (fun c247 => ?_)
      · refine q_ild_n cx dX12_widest_54 rfl (lv_at hl 1 rfl) ?_
        refine q_iret cx hr hlk hB dX12_widest_55 ⟨by omega, by omega⟩ ?_
        exact ⟨(by omega), (by omega)⟩
      · refine q_iconst cx dX12_widest_19 ?_
        refine lv_istore_n (lv' := [(3, .int (q_i 0)), (0, .ref mo), (1, .int (q_i v9_1)), (2, .int (q_i v9_2))]) cx.1 cx.2.1 dX12_widest_20 rfl hl (by decide) rfl (fun ls hl => ?_)
        exact J21 ((Int.toNat (2147483647 - 0)) + 1) f9 v9_1 (by omega) (by omega) 0 (by decide) (by decide) (by omega) hq_mo_13 hq_mo_24 hgr9 (Nat.lt_succ_self _) H locs hB ls (lv_sub hl [1, 2, 3, 0] rfl)
  obtain ⟨H, hH⟩ : ∃ H : Heap, H = s.heap := ⟨_, rfl⟩
  obtain ⟨locs, hlocs⟩ : ∃ z : List Loc, z = [] := ⟨_, rfl⟩
  rw [← hH, ← hlocs] at hB
  rw [← hH, ← hlocs]
  refine q_ald_n cx dX12_widest_0 rfl (lv_at hl 0 rfl) ?_
  refine q_iconst cx dX12_widest_1 ?_
  refine q_pX12_75 cx hB hmo kmo ⟨by decide, by decide⟩ (by decide) (by decide) rfl dX12_widest_2 (fun H locs f248 ef248 z249 hB => ?_)
  have z250 : q_ir (q_r f248 mo 13) sr := by rw [ef248, q_setr (Or.inr (by decide))]; exact hr0
  have z251 : q_ir (q_r f248 mo 24) hp := by rw [ef248, q_setr (Or.inr (by decide))]; exact hr1
  have g252 : q_gr f248 sr := q_gr_ne hgr ef248 (fun q => q_kne (k := 151) (k2 := 12) (by decide) ksr kmo q)
  refine q_iconst cx dX12_widest_5 ?_
  refine lv_istore_n (lv' := [(1, .int (q_i 0)), (0, .ref mo)]) cx.1 cx.2.1 dX12_widest_6 rfl hl (by decide) rfl (fun ls hl => ?_)
  refine q_iconst cx dX12_widest_7 ?_
  refine lv_istore_n (lv' := [(2, .int (q_i 0)), (1, .int (q_i 0)), (0, .ref mo)]) cx.1 cx.2.1 dX12_widest_8 rfl hl (by decide) rfl (fun ls hl => ?_)
  exact J9 ((Int.toNat (2147483647 - 0)) + 1) f248 0 (by decide) (by decide) 0 (by decide) (by decide) z250 z251 g252 (Nat.lt_succ_self _) H locs hB ls (lv_sub hl [2, 1, 0] rfl)
