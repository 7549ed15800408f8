set_option maxHeartbeats 4000000 in
set_option maxRecDepth 100000 in
theorem r_meanEnergy (l : Launch) (g : q_G) {K : Nat → Nat} {L : List Nat} (hN : L.Nodup) {f : Nat → va_E} (hT : q_Ty g K L f) (mo : Nat) (hmo : mo ∈ L) (kmo : K mo = 12) (sr : Nat) (hsr : sr ∈ L) (ksr : K sr = 151) (hr0 : q_ir (q_r f mo 13) sr) (hgr : q_gr f sr) : q_Ct l g K L yX12_meanEnergy cX12_meanEnergy 3 (some .double) 2 43 [.ref mo] f [(12, 0, 0)] (q_Pd (fun (z : UInt64) (f1 : Nat → va_E) => True)) := by
  refine q_ofb (by decide +kernel) hN hT (Nat.le_of_ble_eq_true rfl) ?_
  intro p e s m below meth c ls cx hr hlk hB hl
  have hl : lv_has ls 3 [(0, .ref mo)] := hl
  have J9 : ∀ (n : Nat) (f9 : Nat → va_E) (v9_1 : Int) (lv9_1 : (-2147483648) ≤ v9_1) (uv9_1 : v9_1 ≤ 2147483647) (v9_2 : Int) (lv9_2 : 0 ≤ v9_2) (uv9_2 : v9_2 ≤ 10) (hq_mo_13 : q_ir (q_r f9 mo 13) sr) (hgr9 : q_gr f9 sr) (hmu : (Int.toNat (2147483647 - v9_2)) < n) (H : Heap) (locs : List Loc) (hB : q_B g K L (fun q => q ∈ L) [(12, 0, 0)] f f9 s H locs) (ls : Array Slot) (hl : lv_has ls 3 [(0, .ref mo), (1, .int (q_i v9_1)), (2, .int (q_i v9_2))]), W p l e { frames := 2, cells := 0, slots := 0, locals := 43 } s m ([.ref mo] : List Value).toArray below meth c H locs 0 0 (MQ below (q_Q g K L [(12, 0, 0)] f (q_Pd (fun (z : UInt64) (f1 : Nat → va_E) => True))) ([.ref mo] : List Value).toArray s 0 0 (fun q => q ∈ L)) (F0 m 9 ls []) := by
    intro n
    induction n with
    | zero =>
      intro f9 v9_1 lv9_1 uv9_1 v9_2 lv9_2 uv9_2 hq_mo_13 hgr9 hmu
      exact absurd hmu (Nat.not_lt_zero _)
    | succ n ih9 =>
      intro f9 v9_1 lv9_1 uv9_1 v9_2 lv9_2 uv9_2 hq_mo_13 hgr9 hmu H locs hB ls hl
      refine q_ild_n cx dX12_meanEnergy_9 rfl (lv_at hl 2 rfl) ?_
      refine q_ald_n cx dX12_meanEnergy_10 rfl (lv_at hl 0 rfl) ?_
      refine q_gX12_20 cx hB hmo kmo hq_mo_13 dX12_meanEnergy_11 (fun hb169 kb169 => ?_)
      refine q_iconst cx dX12_meanEnergy_14 ?_
      obtain ⟨x170, ex170⟩ : ∃ zz, q_is (q_z f9 sr (Int.toNat 0)) zz := ⟨_, q_isr _⟩
      refine q_iald (lo := 0) (hi := 10) (n := 658) cx hB hsr ksr (by decide) rfl rfl (by decide) (by decide) (by decide) rfl ex170 dX12_meanEnergy_15 (fun lb171 ub171 => ?_)
      refine q_icge (tgt := 34) cx ⟨by omega, by omega⟩ ⟨by omega, by omega⟩ dX12_meanEnergy_16 (by decide) (fun c172 => ?_) (fun c172 => ?_)
      · refine q_ald_n cx dX12_meanEnergy_34 rfl (lv_at hl 0 rfl) ?_
        refine q_gX12_20 cx hB hmo kmo hq_mo_13 dX12_meanEnergy_35 (fun hb173 kb173 => ?_)
        refine q_iconst cx dX12_meanEnergy_38 ?_
        refine q_iald (lo := 0) (hi := 10) (n := 658) cx hB hsr ksr (by decide) rfl rfl (by decide) (by decide) (by decide) rfl ex170 dX12_meanEnergy_39 (fun lb175 ub175 => ?_)
        refine q_ifne (tgt := 47) cx ⟨by omega, by omega⟩ dX12_meanEnergy_40 (by decide) (fun c176 => ?_) (fun c176 => ?_)
        · refine q_ild_n cx dX12_meanEnergy_47 rfl (lv_at hl 1 rfl) ?_
          refine lv_i2d cx.1 cx.2.1 dX12_meanEnergy_48 ?_
          refine q_ald_n cx dX12_meanEnergy_49 rfl (lv_at hl 0 rfl) ?_
          refine q_gX12_20 cx hB hmo kmo hq_mo_13 dX12_meanEnergy_50 (fun hb177 kb177 => ?_)
          refine q_iconst cx dX12_meanEnergy_53 ?_
          refine q_iald (lo := 0) (hi := 10) (n := 658) cx hB hsr ksr (by decide) rfl rfl (by decide) (by decide) (by decide) rfl ex170 dX12_meanEnergy_54 (fun lb179 ub179 => ?_)
          refine lv_i2d cx.1 cx.2.1 dX12_meanEnergy_55 ?_
          have nd180 := k_ddiv (x := v9_1) (y := x170) (by omega) (by omega)
          refine lv_ddiv cx.1 cx.2.1 dX12_meanEnergy_56 nd180 ?_
          refine lv_topd (fun d180 ed180 => ?_)
          rw [← ed180] at nd180
          refine q_dret cx hr hlk hB dX12_meanEnergy_57 ?_
          trivial
        · refine lv_dconst0 cx.1 cx.2.1 dX12_meanEnergy_43 ?_
          refine lv_goto (tgt := 57) cx.1 cx.2.1 dX12_meanEnergy_44 (by decide) ?_
          refine q_dret cx hr hlk hB dX12_meanEnergy_57 ?_
          trivial
      · refine q_ild_n cx dX12_meanEnergy_19 rfl (lv_at hl 1 rfl) ?_
        refine q_ald_n cx dX12_meanEnergy_20 rfl (lv_at hl 0 rfl) ?_
        refine q_ild_n cx dX12_meanEnergy_21 rfl (lv_at hl 2 rfl) ?_
        refine q_iconst cx dX12_meanEnergy_22 ?_
        refine q_cVi (As := [.int (q_i v9_2), .int (q_i 2)]) (rest := [.int (q_i v9_1)]) cx hB (fun _ h => h) hN hmo kmo (by decide) rfl (r_ofNode2 l g hN hB.2.1 mo hmo kmo v9_2 (by omega) (by omega) 2 (by decide) (by decide) sr hsr ksr hq_mo_13 hgr9) q_cX12_256 q_dX12_ofNode (by decide) rfl rfl hl.1 rfl (Nat.le_of_ble_eq_true rfl) dX12_meanEnergy_23 (fun y182 H locs f181 ry182 h183 hF hB => ?_)
        obtain ⟨rfl, ly182, uy182, t184⟩ := h183
        refine q_iadd cx dX12_meanEnergy_26 ?_
        refine q_any (fun y185 ry185 ey185 => ?_)
        refine lv_istore_n (lv' := [(1, .int (q_i y185)), (0, .ref mo), (2, .int (q_i v9_2))]) cx.1 cx.2.1 dX12_meanEnergy_27 rfl hl (by decide) rfl (fun ls hl => ?_)
        refine q_iinc (lv' := [(2, .int (q_i (v9_2 + 1))), (1, .int (q_i y185)), (0, .ref mo)]) cx dX12_meanEnergy_28 hl (k := 2) rfl (by decide) rfl (fun ls hl => ?_)
        refine lv_goto (tgt := 9) cx.1 cx.2.1 dX12_meanEnergy_31 (by decide) ?_
        exact ih9 f9 y185 (by omega) (by omega) (v9_2 + 1) (by omega) (by omega) hq_mo_13 hgr9 (by omega) H locs hB ls (lv_sub hl [2, 1, 0] rfl)
  obtain ⟨H, hH⟩ : ∃ H : Heap, H = s.heap := ⟨_, rfl⟩
  obtain ⟨locs, hlocs⟩ : ∃ z : List Loc, z = [] := ⟨_, rfl⟩
  rw [← hH, ← hlocs] at hB
  rw [← hH, ← hlocs]
  refine q_ald_n cx dX12_meanEnergy_0 rfl (lv_at hl 0 rfl) ?_
  refine q_iconst cx dX12_meanEnergy_1 ?_
  refine q_pX12_75 cx hB hmo kmo ⟨by decide, by decide⟩ (by decide) (by decide) rfl dX12_meanEnergy_2 (fun H locs f186 ef186 z187 hB => ?_)
  have z188 : q_ir (q_r f186 mo 13) sr := by rw [ef186, q_setr (Or.inr (by decide))]; exact hr0
  have g189 : q_gr f186 sr := q_gr_ne hgr ef186 (fun q => q_kne (k := 151) (k2 := 12) (by decide) ksr kmo q)
  refine q_iconst cx dX12_meanEnergy_5 ?_
  refine lv_istore_n (lv' := [(1, .int (q_i 0)), (0, .ref mo)]) cx.1 cx.2.1 dX12_meanEnergy_6 rfl hl (by decide) rfl (fun ls hl => ?_)
  refine q_iconst cx dX12_meanEnergy_7 ?_
  refine lv_istore_n (lv' := [(2, .int (q_i 0)), (1, .int (q_i 0)), (0, .ref mo)]) cx.1 cx.2.1 dX12_meanEnergy_8 rfl hl (by decide) rfl (fun ls hl => ?_)
  exact J9 ((Int.toNat (2147483647 - 0)) + 1) f186 0 (by decide) (by decide) 0 (by decide) (by decide) z188 g189 (Nat.lt_succ_self _) H locs hB ls (lv_sub hl [2, 1, 0] rfl)
set_option maxHeartbeats 4000000 in
set_option maxRecDepth 100000 in
theorem r_awakeIn (l : Launch) (g : q_G) {K : Nat → Nat} {L : List Nat} (hN : L.Nodup) {f : Nat → va_E} (hT : q_Ty g K L f) (mo : Nat) (hmo : mo ∈ L) (kmo : K mo = 12) (a0 : Int) (la0 : (-2147483648) ≤ a0) (ua0 : a0 ≤ 2147483647) (sr : Nat) (hsr : sr ∈ L) (ksr : K sr = 151) (hr0 : q_ir (q_r f mo 13) sr) (hgr : q_gr f sr) : q_Ct l g K L yX12_awakeIn cX12_awakeIn 2 (some .int) 6 135 [.ref mo, .int (q_i a0)] f [(12, 0, 0)] (q_Pi (fun (z : Int) (f1 : Nat → va_E) => True)) := by
  refine q_ofb (by decide +kernel) hN hT (Nat.le_of_ble_eq_true rfl) ?_
  intro p e s m below meth c ls cx hr hlk hB hl
  have hl : lv_has ls 2 [(0, .ref mo), (1, .int (q_i a0))] := hl
  obtain ⟨H, hH⟩ : ∃ H : Heap, H = s.heap := ⟨_, rfl⟩
  obtain ⟨locs, hlocs⟩ : ∃ z : List Loc, z = [] := ⟨_, rfl⟩
  rw [← hH, ← hlocs] at hB
  rw [← hH, ← hlocs]
  refine q_ald_n cx dX12_awakeIn_0 rfl (lv_at hl 0 rfl) ?_
  refine q_ild_n cx dX12_awakeIn_1 rfl (lv_at hl 1 rfl) ?_
  refine q_i2l cx ⟨by omega, by omega⟩ dX12_awakeIn_2 ?_
  refine q_lconst (z := 0) cx (by decide) dX12_awakeIn_3 ?_
  refine lv_ldc2 (v := q_l 99) cx.1 cx.2.1 cx.2.2.2.1 (cx.2.2.2.2 _ q_h1973) dX12_awakeIn_4 ?_
  refine q_cSi (As := [.long (q_l a0), .long (q_l 0), .long (q_l 99)]) (rest := [.ref mo]) cx hB (fun _ h => h) hN (r_isIn l g hN hB.2.1 a0 (by omega) (by omega) 0 (by decide) (by decide) 99 (by decide) (by decide)) q_cX12_93 q_dX12_isIn (by decide) rfl rfl hl.1 rfl (Nat.le_of_ble_eq_true rfl) dX12_awakeIn_7 (fun y27 H locs f26 ry27 h28 hF hB => ?_)
  rcases h28 with h29 | h30
  · obtain ⟨rfl, qy27, t31, t32⟩ := h29
    subst qy27
    refine q_cVi (As := [.int (q_i 1)]) (rest := []) cx hB (fun _ h => h) hN hmo kmo (by decide) rfl (r_goes1 l g hN hB.2.1 mo hmo kmo 1 (by decide) (by decide)) q_cX12_85 q_dX12_goes (by decide) rfl rfl hl.1 rfl (Nat.le_of_ble_eq_true rfl) dX12_awakeIn_10 (fun y34 H locs f33 ry34 h35 hF hB => ?_)
    obtain ⟨qy34, z36⟩ := h35
    have z37 : q_ir (q_r f33 mo 13) sr := Eq.trans (hF.r hmo (by rw [kmo]; rfl)) hr0
    have g38 : q_gr f33 sr := q_gr_fr hgr (fun i9 _ => hF.z hsr (by rw [ksr]; rfl))
    subst qy34
    refine q_ifeq (tgt := 24) cx ⟨by decide, by decide⟩ dX12_awakeIn_13 (by decide) (fun c39 => ?_) (fun c39 => ?_)
    · exact absurd c39 (by omega)
    · refine q_ald_n cx dX12_awakeIn_16 rfl (lv_at hl 0 rfl) ?_
      refine q_ild_n cx dX12_awakeIn_17 rfl (lv_at hl 1 rfl) ?_
      refine q_cVi (As := [.int (q_i a0)]) (rest := []) cx hB (fun _ h => h) hN hmo kmo (by decide) rfl (r_awakeSet l g hN hB.2.1 mo hmo kmo a0 (by omega) (by omega) sr hsr ksr z37 g38) q_cX12_286 q_dX12_awakeSet (by decide) rfl rfl hl.1 rfl (Nat.le_of_ble_eq_true rfl) dX12_awakeIn_18 (fun y41 H locs f40 ry41 h42 hF hB => ?_)
      obtain rfl := h42
      refine lv_goto (tgt := 25) cx.1 cx.2.1 dX12_awakeIn_21 (by decide) ?_
      refine q_iret cx hr hlk hB dX12_awakeIn_25 ⟨by omega, by omega⟩ ?_
      trivial
  · obtain ⟨rfl, qy27, t43⟩ := h30
    subst qy27
    refine q_cVi (As := [.int (q_i 0)]) (rest := []) cx hB (fun _ h => h) hN hmo kmo (by decide) rfl (r_goes0 l g hN hB.2.1 mo hmo kmo 0 (by decide) (by decide)) q_cX12_85 q_dX12_goes (by decide) rfl rfl hl.1 rfl (Nat.le_of_ble_eq_true rfl) dX12_awakeIn_10 (fun y45 H locs f44 ry45 h46 hF hB => ?_)
    obtain ⟨qy45, z47⟩ := h46
    have z48 : q_ir (q_r f44 mo 13) sr := Eq.trans (hF.r hmo (by rw [kmo]; rfl)) hr0
    have g49 : q_gr f44 sr := q_gr_fr hgr (fun i9 _ => hF.z hsr (by rw [ksr]; rfl))
    subst qy45
    refine q_ifeq (tgt := 24) cx ⟨by decide, by decide⟩ dX12_awakeIn_13 (by decide) (fun c50 => ?_) (fun c50 => ?_)
    · refine q_iconst cx dX12_awakeIn_24 ?_
      refine q_iret cx hr hlk hB dX12_awakeIn_25 ⟨by decide, by decide⟩ ?_
      trivial
    · exact absurd c50 (by omega)
set_option maxHeartbeats 4000000 in
set_option maxRecDepth 100000 in
theorem r_meetsIn (l : Launch) (g : q_G) {K : Nat → Nat} {L : List Nat} (hN : L.Nodup) {f : Nat → va_E} (hT : q_Ty g K L f) (mo : Nat) (hmo : mo ∈ L) (kmo : K mo = 12) (a0 : Int) (la0 : (-2147483648) ≤ a0) (ua0 : a0 ≤ 2147483647) (b0 : Int) (lb0 : (-2147483648) ≤ b0) (ub0 : b0 ≤ 2147483647) (sr : Nat) (hsr : sr ∈ L) (ksr : K sr = 151) (hr0 : q_ir (q_r f mo 13) sr) (hgr : q_gr f sr) : q_Ct l g K L yX12_meetsIn cX12_meetsIn 3 (some .int) 6 135 [.ref mo, .int (q_i a0), .int (q_i b0)] f [(12, 0, 0)] (q_Pi (fun (z : Int) (f1 : Nat → va_E) => (-1) ≤ z ∧ z ≤ 60)) := by
  refine q_ofb (by decide +kernel) hN hT (Nat.le_of_ble_eq_true rfl) ?_
  intro p e s m below meth c ls cx hr hlk hB hl
  have hl : lv_has ls 3 [(0, .ref mo), (1, .int (q_i a0)), (2, .int (q_i b0))] := hl
  obtain ⟨H, hH⟩ : ∃ H : Heap, H = s.heap := ⟨_, rfl⟩
  obtain ⟨locs, hlocs⟩ : ∃ z : List Loc, z = [] := ⟨_, rfl⟩
  rw [← hH, ← hlocs] at hB
  rw [← hH, ← hlocs]
  refine q_ald_n cx dX12_meetsIn_0 rfl (lv_at hl 0 rfl) ?_
  refine q_ald_n cx dX12_meetsIn_1 rfl (lv_at hl 0 rfl) ?_
  refine q_ild_n cx dX12_meetsIn_2 rfl (lv_at hl 1 rfl) ?_
  refine q_cVi (As := [.int (q_i a0)]) (rest := [.ref mo]) cx hB (fun _ h => h) hN hmo kmo (by decide) rfl (r_isNode l g hN hB.2.1 mo hmo kmo a0 (by omega) (by omega) sr hsr ksr hr0) q_cX12_355 q_dX12_isNode (by decide) rfl rfl hl.1 rfl (Nat.le_of_ble_eq_true rfl) dX12_meetsIn_3 (fun y44 H locs f43 ry44 h45 hF hB => ?_)
  rcases h45 with h46 | h47
  · obtain ⟨rfl, qy44, t48, t49⟩ := h46
    subst qy44
    refine q_ifeq (tgt := 21) cx ⟨by decide, by decide⟩ dX12_meetsIn_6 (by decide) (fun c50 => ?_) (fun c50 => ?_)
    · exact absurd c50 (by omega)
    · refine q_ald_n cx dX12_meetsIn_9 rfl (lv_at hl 0 rfl) ?_
      refine q_ild_n cx dX12_meetsIn_10 rfl (lv_at hl 2 rfl) ?_
      refine q_cVi (As := [.int (q_i b0)]) (rest := [.ref mo]) cx hB (fun _ h => h) hN hmo kmo (by decide) rfl (r_isNode l g hN hB.2.1 mo hmo kmo b0 (by omega) (by omega) sr hsr ksr hr0) q_cX12_355 q_dX12_isNode (by decide) rfl rfl hl.1 rfl (Nat.le_of_ble_eq_true rfl) dX12_meetsIn_11 (fun y52 H locs f51 ry52 h53 hF hB => ?_)
      rcases h53 with h54 | h55
      · obtain ⟨rfl, qy52, t56, t57⟩ := h54
        subst qy52
        refine q_ifeq (tgt := 21) cx ⟨by decide, by decide⟩ dX12_meetsIn_14 (by decide) (fun c58 => ?_) (fun c58 => ?_)
        · exact absurd c58 (by omega)
        · refine q_iconst cx dX12_meetsIn_17 ?_
          refine lv_goto (tgt := 22) cx.1 cx.2.1 dX12_meetsIn_18 (by decide) ?_
          refine q_cVi (As := [.int (q_i 1)]) (rest := []) cx hB (fun _ h => h) hN hmo kmo (by decide) rfl (r_goes1 l g hN hB.2.1 mo hmo kmo 1 (by decide) (by decide)) q_cX12_85 q_dX12_goes (by decide) rfl rfl hl.1 rfl (Nat.le_of_ble_eq_true rfl) dX12_meetsIn_22 (fun y60 H locs f59 ry60 h61 hF hB => ?_)
          obtain ⟨qy60, z62⟩ := h61
          have z63 : q_ir (q_r f59 mo 13) sr := Eq.trans (hF.r hmo (by rw [kmo]; rfl)) hr0
          have g64 : q_gr f59 sr := q_gr_fr hgr (fun i9 _ => hF.z hsr (by rw [ksr]; rfl))
          subst qy60
          refine q_ifeq (tgt := 37) cx ⟨by decide, by decide⟩ dX12_meetsIn_25 (by decide) (fun c65 => ?_) (fun c65 => ?_)
          · exact absurd c65 (by omega)
          · refine q_ald_n cx dX12_meetsIn_28 rfl (lv_at hl 0 rfl) ?_
            refine q_ild_n cx dX12_meetsIn_29 rfl (lv_at hl 1 rfl) ?_
            refine q_ild_n cx dX12_meetsIn_30 rfl (lv_at hl 2 rfl) ?_
            refine q_cVi (As := [.int (q_i a0), .int (q_i b0)]) (rest := []) cx hB (fun _ h => h) hN hmo kmo (by decide) rfl (r_meeting l g hN hB.2.1 mo hmo kmo a0 (by omega) (by omega) b0 (by omega) (by omega) sr hsr ksr z63 g64) q_cX12_393 q_dX12_meeting (by decide) rfl rfl hl.1 rfl (Nat.le_of_ble_eq_true rfl) dX12_meetsIn_31 (fun y67 H locs f66 ry67 h68 hF hB => ?_)
            obtain ⟨rfl, ly67, uy67⟩ := h68
            refine lv_goto (tgt := 38) cx.1 cx.2.1 dX12_meetsIn_34 (by decide) ?_
            refine q_iret cx hr hlk hB dX12_meetsIn_38 ⟨by omega, by omega⟩ ?_
            exact ⟨(by omega), (by omega)⟩
      · obtain ⟨rfl, qy52⟩ := h55
        subst qy52
        refine q_ifeq (tgt := 21) cx ⟨by decide, by decide⟩ dX12_meetsIn_14 (by decide) (fun c69 => ?_) (fun c69 => ?_)
        · refine q_iconst cx dX12_meetsIn_21 ?_
          refine q_cVi (As := [.int (q_i 0)]) (rest := []) cx hB (fun _ h => h) hN hmo kmo (by decide) rfl (r_goes0 l g hN hB.2.1 mo hmo kmo 0 (by decide) (by decide)) q_cX12_85 q_dX12_goes (by decide) rfl rfl hl.1 rfl (Nat.le_of_ble_eq_true rfl) dX12_meetsIn_22 (fun y71 H locs f70 ry71 h72 hF hB => ?_)
          obtain ⟨qy71, z73⟩ := h72
          have z74 : q_ir (q_r f70 mo 13) sr := Eq.trans (hF.r hmo (by rw [kmo]; rfl)) hr0
          have g75 : q_gr f70 sr := q_gr_fr hgr (fun i9 _ => hF.z hsr (by rw [ksr]; rfl))
          subst qy71
          refine q_ifeq (tgt := 37) cx ⟨by decide, by decide⟩ dX12_meetsIn_25 (by decide) (fun c76 => ?_) (fun c76 => ?_)
          · refine q_iconst cx dX12_meetsIn_37 ?_
            refine q_iret cx hr hlk hB dX12_meetsIn_38 ⟨by decide, by decide⟩ ?_
            exact ⟨(by decide), (by decide)⟩
          · exact absurd c76 (by omega)
        · exact absurd c69 (by omega)
  · obtain ⟨rfl, qy44⟩ := h47
    subst qy44
    refine q_ifeq (tgt := 21) cx ⟨by decide, by decide⟩ dX12_meetsIn_6 (by decide) (fun c77 => ?_) (fun c77 => ?_)
    · refine q_iconst cx dX12_meetsIn_21 ?_
      refine q_cVi (As := [.int (q_i 0)]) (rest := []) cx hB (fun _ h => h) hN hmo kmo (by decide) rfl (r_goes0 l g hN hB.2.1 mo hmo kmo 0 (by decide) (by decide)) q_cX12_85 q_dX12_goes (by decide) rfl rfl hl.1 rfl (Nat.le_of_ble_eq_true rfl) dX12_meetsIn_22 (fun y79 H locs f78 ry79 h80 hF hB => ?_)
      obtain ⟨qy79, z81⟩ := h80
      have z82 : q_ir (q_r f78 mo 13) sr := Eq.trans (hF.r hmo (by rw [kmo]; rfl)) hr0
      have g83 : q_gr f78 sr := q_gr_fr hgr (fun i9 _ => hF.z hsr (by rw [ksr]; rfl))
      subst qy79
      refine q_ifeq (tgt := 37) cx ⟨by decide, by decide⟩ dX12_meetsIn_25 (by decide) (fun c84 => ?_) (fun c84 => ?_)
      · refine q_iconst cx dX12_meetsIn_37 ?_
        refine q_iret cx hr hlk hB dX12_meetsIn_38 ⟨by decide, by decide⟩ ?_
        exact ⟨(by decide), (by decide)⟩
      · exact absurd c84 (by omega)
    · exact absurd c77 (by omega)
set_option maxHeartbeats 4000000 in
set_option maxRecDepth 100000 in
theorem r_worstLink (l : Launch) (g : q_G) {K : Nat → Nat} {L : List Nat} (hN : L.Nodup) {f : Nat → va_E} (hT : q_Ty g K L f) (mo : Nat) (hmo : mo ∈ L) (kmo : K mo = 12) (sr : Nat) (hsr : sr ∈ L) (ksr : K sr = 151) (hr0 : q_ir (q_r f mo 13) sr) (hgr : q_gr f sr) : q_Ct l g K L yX12_worstLink cX12_worstLink 5 (some .int) 7 158 [.ref mo] f [(12, 0, 0)] (q_Pi (fun (z : Int) (f1 : Nat → va_E) => (-1) ≤ z ∧ z ≤ 15)) := by
  refine q_ofb (by decide +kernel) hN hT (Nat.le_of_ble_eq_true rfl) ?_
  intro p e s m below meth c ls cx hr hlk hB hl
  have hl : lv_has ls 5 [(0, .ref mo)] := hl
  have J11 : ∀ (n : Nat) (f11 : Nat → va_E) (v11_1 : Int) (lv11_1 : (-1) ≤ v11_1) (uv11_1 : v11_1 ≤ 15) (v11_2 : Int) (lv11_2 : (-1) ≤ v11_2) (uv11_2 : v11_2 ≤ 1000) (v11_3 : Int) (lv11_3 : 0 ≤ v11_3) (uv11_3 : v11_3 ≤ 16) (hq_mo_13 : q_ir (q_r f11 mo 13) sr) (hgr11 : q_gr f11 sr) (hmu : (Int.toNat (2147483647 - v11_3)) < n) (H : Heap) (locs : List Loc) (hB : q_B g K L (fun q => q ∈ L) [(12, 0, 0)] f f11 s H locs) (ls : Array Slot) (hl : lv_has ls 5 [(0, .ref mo), (1, .int (q_i v11_1)), (2, .int (q_i v11_2)), (3, .int (q_i v11_3))]), W p l e { frames := 7, cells := 0, slots := 0, locals := 158 } s m ([.ref mo] : List Value).toArray below meth c H locs 0 0 (MQ below (q_Q g K L [(12, 0, 0)] f (q_Pi (fun (z : Int) (f1 : Nat → va_E) => (-1) ≤ z ∧ z ≤ 15))) ([.ref mo] : List Value).toArray s 0 0 (fun q => q ∈ L)) (F0 m 11 ls []) := by
    intro n
    induction n with
    | zero =>
      intro f11 v11_1 lv11_1 uv11_1 v11_2 lv11_2 uv11_2 v11_3 lv11_3 uv11_3 hq_mo_13 hgr11 hmu
      exact absurd hmu (Nat.not_lt_zero _)
    | succ n ih11 =>
      intro f11 v11_1 lv11_1 uv11_1 v11_2 lv11_2 uv11_2 v11_3 lv11_3 uv11_3 hq_mo_13 hgr11 hmu H locs hB ls hl
      refine q_ild_n cx dX12_worstLink_11 rfl (lv_at hl 3 rfl) ?_
      refine q_ald_n cx dX12_worstLink_12 rfl (lv_at hl 0 rfl) ?_
      refine q_gX12_20 cx hB hmo kmo hq_mo_13 dX12_worstLink_13 (fun hb201 kb201 => ?_)
      refine q_iconst cx dX12_worstLink_16 ?_
      obtain ⟨x202, ex202⟩ : ∃ zz, q_is (q_z f11 sr (Int.toNat 1)) zz := ⟨_, q_isr _⟩
      refine q_iald (lo := 0) (hi := 16) (n := 658) cx hB hsr ksr (by decide) rfl rfl (by decide) (by decide) (by decide) rfl ex202 dX12_worstLink_17 (fun lb203 ub203 => ?_)
      refine q_icge (tgt := 59) cx ⟨by omega, by omega⟩ ⟨by omega, by omega⟩ dX12_worstLink_18 (by decide) (fun c204 => ?_) (fun c204 => ?_)
      · refine q_ild_n cx dX12_worstLink_59 rfl (lv_at hl 1 rfl) ?_
        refine q_iret cx hr hlk hB dX12_worstLink_60 ⟨by omega, by omega⟩ ?_
        exact ⟨(by omega), (by omega)⟩
      · refine q_ald_n cx dX12_worstLink_21 rfl (lv_at hl 0 rfl) ?_
        refine q_ald_n cx dX12_worstLink_22 rfl (lv_at hl 0 rfl) ?_
        refine q_ild_n cx dX12_worstLink_23 rfl (lv_at hl 3 rfl) ?_
        refine q_iconst cx dX12_worstLink_24 ?_
        refine q_cVi (As := [.int (q_i v11_3), .int (q_i 0)]) (rest := [.ref mo]) cx hB (fun _ h => h) hN hmo kmo (by decide) rfl (r_ofLink0 l g hN hB.2.1 mo hmo kmo v11_3 (by omega) (by omega) 0 (by decide) (by decide) sr hsr ksr hq_mo_13 hgr11) q_cX12_210 q_dX12_ofLink (by decide) rfl rfl hl.1 rfl (Nat.le_of_ble_eq_true rfl) dX12_worstLink_25 (fun y206 H locs f205 ry206 h207 hF hB => ?_)
        obtain ⟨rfl, ly206, uy206⟩ := h207
        refine q_ald_n cx dX12_worstLink_28 rfl (lv_at hl 0 rfl) ?_
        refine q_ild_n cx dX12_worstLink_29 rfl (lv_at hl 3 rfl) ?_
        refine q_iconst cx dX12_worstLink_30 ?_
        refine q_cVi (As := [.int (q_i v11_3), .int (q_i 1)]) (rest := [.int (q_i y206), .ref mo]) cx hB (fun _ h => h) hN hmo kmo (by decide) rfl (r_ofLink1 l g hN hB.2.1 mo hmo kmo v11_3 (by omega) (by omega) 1 (by decide) (by decide) sr hsr ksr hq_mo_13 hgr11) q_cX12_210 q_dX12_ofLink (by decide) rfl rfl hl.1 rfl (Nat.le_of_ble_eq_true rfl) dX12_worstLink_31 (fun y209 H locs f208 ry209 h210 hF hB => ?_)
        obtain ⟨rfl, ly209, uy209⟩ := h210
        refine q_cVi (As := [.int (q_i y206), .int (q_i y209)]) (rest := []) cx hB (fun _ h => h) hN hmo kmo (by decide) rfl (r_lateness l g hN hB.2.1 mo hmo kmo y206 (by omega) (by omega) y209 (by omega) (by omega) sr hsr ksr hq_mo_13 hgr11) q_cX12_396 q_dX12_lateness (by decide) rfl rfl hl.1 rfl (Nat.le_of_ble_eq_true rfl) dX12_worstLink_34 (fun y212 H locs f211 ry212 h213 hF hB => ?_)
        obtain ⟨rfl, ly212, uy212⟩ := h213
        refine lv_istore (lv' := [(4, .int (q_i y212)), (0, .ref mo), (1, .int (q_i v11_1)), (2, .int (q_i v11_2)), (3, .int (q_i v11_3))]) cx.1 cx.2.1 dX12_worstLink_37 hl (by decide) rfl (fun ls hl => ?_)
        refine lv_iload cx.1 cx.2.1 dX12_worstLink_39 (lv_at hl 0 rfl) ?_
        refine q_ild_n cx dX12_worstLink_41 rfl (lv_at hl 3 rfl) ?_
        refine q_icgt (tgt := 48) cx ⟨by omega, by omega⟩ ⟨by omega, by omega⟩ dX12_worstLink_42 (by decide) (fun c214 => ?_) (fun c214 => ?_)
        · refine lv_iload cx.1 cx.2.1 dX12_worstLink_48 (lv_at hl 0 rfl) ?_
          refine lv_istore_n (lv' := [(2, .int (q_i y212)), (4, .int (q_i y212)), (0, .ref mo), (1, .int (q_i v11_1)), (3, .int (q_i v11_3))]) cx.1 cx.2.1 dX12_worstLink_50 rfl hl (by decide) rfl (fun ls hl => ?_)
          refine q_ild_n cx dX12_worstLink_51 rfl (lv_at hl 4 rfl) ?_
          refine lv_istore_n (lv' := [(1, .int (q_i v11_3)), (2, .int (q_i y212)), (4, .int (q_i y212)), (0, .ref mo), (3, .int (q_i v11_3))]) cx.1 cx.2.1 dX12_worstLink_52 rfl hl (by decide) rfl (fun ls hl => ?_)
          refine q_iinc (lv' := [(3, .int (q_i (v11_3 + 1))), (1, .int (q_i v11_3)), (2, .int (q_i y212)), (4, .int (q_i y212)), (0, .ref mo)]) cx dX12_worstLink_53 hl (k := 4) rfl (by decide) rfl (fun ls hl => ?_)
          refine lv_goto (tgt := 11) cx.1 cx.2.1 dX12_worstLink_56 (by decide) ?_
          exact ih11 f11 v11_3 (by omega) (by omega) y212 (by omega) (by omega) (v11_3 + 1) (by omega) (by omega) hq_mo_13 hgr11 (by omega) H locs hB ls (lv_sub hl [4, 1, 2, 0] rfl)
        · refine lv_goto (tgt := 53) cx.1 cx.2.1 dX12_worstLink_45 (by decide) ?_
          refine q_iinc (lv' := [(3, .int (q_i (v11_3 + 1))), (4, .int (q_i y212)), (0, .ref mo), (1, .int (q_i v11_1)), (2, .int (q_i v11_2))]) cx dX12_worstLink_53 hl (k := 4) rfl (by decide) rfl (fun ls hl => ?_)
          refine lv_goto (tgt := 11) cx.1 cx.2.1 dX12_worstLink_56 (by decide) ?_
          exact ih11 f11 v11_1 (by omega) (by omega) v11_2 (by omega) (by omega) (v11_3 + 1) (by omega) (by omega) hq_mo_13 hgr11 (by omega) H locs hB ls (lv_sub hl [2, 3, 4, 0] rfl)
  obtain ⟨H, hH⟩ : ∃ H : Heap, H = s.heap := ⟨_, rfl⟩
  obtain ⟨locs, hlocs⟩ : ∃ z : List Loc, z = [] := ⟨_, rfl⟩
  rw [← hH, ← hlocs] at hB
  rw [← hH, ← hlocs]
  refine q_ald_n cx dX12_worstLink_0 rfl (lv_at hl 0 rfl) ?_
  refine q_iconst cx dX12_worstLink_1 ?_
  refine q_pX12_75 cx hB hmo kmo ⟨by decide, by decide⟩ (by decide) (by decide) rfl dX12_worstLink_2 (fun H locs f215 ef215 z216 hB => ?_)
  have z217 : q_ir (q_r f215 mo 13) sr := by rw [ef215, q_setr (Or.inr (by decide))]; exact hr0
  have g218 : q_gr f215 sr := q_gr_ne hgr ef215 (fun q => q_kne (k := 151) (k2 := 12) (by decide) ksr kmo q)
  refine q_iconst cx dX12_worstLink_5 ?_
  refine lv_istore_n (lv' := [(1, .int (q_i (-1))), (0, .ref mo)]) cx.1 cx.2.1 dX12_worstLink_6 rfl hl (by decide) rfl (fun ls hl => ?_)
  refine q_iconst cx dX12_worstLink_7 ?_
  refine lv_istore_n (lv' := [(2, .int (q_i (-1))), (1, .int (q_i (-1))), (0, .ref mo)]) cx.1 cx.2.1 dX12_worstLink_8 rfl hl (by decide) rfl (fun ls hl => ?_)
  refine q_iconst cx dX12_worstLink_9 ?_
  refine lv_istore_n (lv' := [(3, .int (q_i 0)), (2, .int (q_i (-1))), (1, .int (q_i (-1))), (0, .ref mo)]) cx.1 cx.2.1 dX12_worstLink_10 rfl hl (by decide) rfl (fun ls hl => ?_)
  exact J11 ((Int.toNat (2147483647 - 0)) + 1) f215 (-1) (by decide) (by decide) (-1) (by decide) (by decide) 0 (by decide) (by decide) z217 g218 (Nat.lt_succ_self _) H locs hB ls (lv_sub hl [3, 2, 1, 0] rfl)
set_option maxHeartbeats 4000000 in
set_option maxRecDepth 100000 in
theorem r_busiest (l : Launch) (g : q_G) {K : Nat → Nat} {L : List Nat} (hN : L.Nodup) {f : Nat → va_E} (hT : q_Ty g K L f) (mo : Nat) (hmo : mo ∈ L) (kmo : K mo = 12) (sr : Nat) (hsr : sr ∈ L) (ksr : K sr = 151) (hr0 : q_ir (q_r f mo 13) sr) (hgr : q_gr f sr) : q_Ct l g K L yX12_busiest cX12_busiest 3 (some .int) 6 135 [.ref mo] f [(12, 0, 0)] (q_Pi (fun (z : Int) (f1 : Nat → va_E) => 1 ≤ z ∧ z ≤ 60)) := by
  refine q_ofb (by decide +kernel) hN hT (Nat.le_of_ble_eq_true rfl) ?_
  intro p e s m below meth c ls cx hr hlk hB hl
  have hl : lv_has ls 3 [(0, .ref mo)] := hl
  have J9 : ∀ (n : Nat) (f9 : Nat → va_E) (v9_1 : Int) (lv9_1 : 1 ≤ v9_1) (uv9_1 : v9_1 ≤ 60) (v9_2 : Int) (lv9_2 : 2 ≤ v9_2) (uv9_2 : v9_2 ≤ 61) (hq_mo_13 : q_ir (q_r f9 mo 13) sr) (hgr9 : q_gr f9 sr) (hmu : (Int.toNat (2147483647 - v9_2)) < n) (H : Heap) (locs : List Loc) (hB : q_B g K L (fun q => q ∈ L) [(12, 0, 0)] f f9 s H locs) (ls : Array Slot) (hl : lv_has ls 3 [(0, .ref mo), (1, .int (q_i v9_1)), (2, .int (q_i v9_2))]), W p l e { frames := 6, cells := 0, slots := 0, locals := 135 } s m ([.ref mo] : List Value).toArray below meth c H locs 0 0 (MQ below (q_Q g K L [(12, 0, 0)] f (q_Pi (fun (z : Int) (f1 : Nat → va_E) => 1 ≤ z ∧ z ≤ 60))) ([.ref mo] : List Value).toArray s 0 0 (fun q => q ∈ L)) (F0 m 9 ls []) := by
    intro n
    induction n with
    | zero =>
      intro f9 v9_1 lv9_1 uv9_1 v9_2 lv9_2 uv9_2 hq_mo_13 hgr9 hmu
      exact absurd hmu (Nat.not_lt_zero _)
    | succ n ih9 =>
      intro f9 v9_1 lv9_1 uv9_1 v9_2 lv9_2 uv9_2 hq_mo_13 hgr9 hmu H locs hB ls hl
      refine q_ild_n cx dX12_busiest_9 rfl (lv_at hl 2 rfl) ?_
      refine q_ald_n cx dX12_busiest_10 rfl (lv_at hl 0 rfl) ?_
      refine q_gX12_20 cx hB hmo kmo hq_mo_13 dX12_busiest_11 (fun hb328 kb328 => ?_)
      refine q_iconst cx dX12_busiest_14 ?_
      obtain ⟨x329, ex329⟩ : ∃ zz, q_is (q_z f9 sr (Int.toNat 2)) zz := ⟨_, q_isr _⟩
      refine q_sald cx hB hsr ksr (by decide) (by decide) ex329 dX12_busiest_15 (fun rx329 => ?_)
      obtain ⟨lx329, ux329⟩ : 4 ≤ x329 ∧ x329 ≤ 60 := q_isb ex329 (q_gr_at hgr9 (by decide) rfl)
      refine q_icgt (tgt := 46) cx ⟨by omega, by omega⟩ ⟨by omega, by omega⟩ dX12_busiest_16 (by decide) (fun c331 => ?_) (fun c331 => ?_)
      · refine q_ild_n cx dX12_busiest_46 rfl (lv_at hl 1 rfl) ?_
        refine q_iret cx hr hlk hB dX12_busiest_47 ⟨by omega, by omega⟩ ?_
        exact ⟨(by omega), (by omega)⟩
      · refine q_ald_n cx dX12_busiest_19 rfl (lv_at hl 0 rfl) ?_
        refine q_ild_n cx dX12_busiest_20 rfl (lv_at hl 2 rfl) ?_
        refine q_cVi (As := [.int (q_i v9_2)]) (rest := []) cx hB (fun _ h => h) hN hmo kmo (by decide) rfl (r_awakeSet l g hN hB.2.1 mo hmo kmo v9_2 (by omega) (by omega) sr hsr ksr hq_mo_13 hgr9) q_cX12_286 q_dX12_awakeSet (by decide) rfl rfl hl.1 rfl (Nat.le_of_ble_eq_true rfl) dX12_busiest_21 (fun y333 H locs f332 ry333 h334 hF hB => ?_)
        obtain rfl := h334
        refine q_cSi (As := [.int (q_i y333)]) (rest := []) cx hB (fun _ h => h) hN (r_bits l g hN hB.2.1 y333 (by omega) (by omega)) q_cX12_399 q_dX12_bits (by decide) rfl rfl hl.1 rfl (Nat.le_of_ble_eq_true rfl) dX12_busiest_24 (fun y336 H locs f335 ry336 h337 hF hB => ?_)
        obtain rfl := h337
        refine q_ald_n cx dX12_busiest_27 rfl (lv_at hl 0 rfl) ?_
        refine q_ild_n cx dX12_busiest_28 rfl (lv_at hl 1 rfl) ?_
        refine q_cVi (As := [.int (q_i v9_1)]) (rest := [.int (q_i y336)]) cx hB (fun _ h => h) hN hmo kmo (by decide) rfl (r_awakeSet l g hN hB.2.1 mo hmo kmo v9_1 (by omega) (by omega) sr hsr ksr hq_mo_13 hgr9) q_cX12_286 q_dX12_awakeSet (by decide) rfl rfl hl.1 rfl (Nat.le_of_ble_eq_true rfl) dX12_busiest_29 (fun y339 H locs f338 ry339 h340 hF hB => ?_)
        obtain rfl := h340
        refine q_cSi (As := [.int (q_i y339)]) (rest := [.int (q_i y336)]) cx hB (fun _ h => h) hN (r_bits l g hN hB.2.1 y339 (by omega) (by omega)) q_cX12_399 q_dX12_bits (by decide) rfl rfl hl.1 rfl (Nat.le_of_ble_eq_true rfl) dX12_busiest_32 (fun y342 H locs f341 ry342 h343 hF hB => ?_)
        obtain rfl := h343
        refine q_icle (tgt := 40) cx ⟨by omega, by omega⟩ ⟨by omega, by omega⟩ dX12_busiest_35 (by decide) (fun c344 => ?_) (fun c344 => ?_)
        · refine q_iinc (lv' := [(2, .int (q_i (v9_2 + 1))), (0, .ref mo), (1, .int (q_i v9_1))]) cx dX12_busiest_40 hl (k := 2) rfl (by decide) rfl (fun ls hl => ?_)
          refine lv_goto (tgt := 9) cx.1 cx.2.1 dX12_busiest_43 (by decide) ?_
          exact ih9 f9 v9_1 (by omega) (by omega) (v9_2 + 1) (by omega) (by omega) hq_mo_13 hgr9 (by omega) H locs hB ls (lv_sub hl [1, 2, 0] rfl)
        · refine q_ild_n cx dX12_busiest_38 rfl (lv_at hl 2 rfl) ?_
          refine lv_istore_n (lv' := [(1, .int (q_i v9_2)), (0, .ref mo), (2, .int (q_i v9_2))]) cx.1 cx.2.1 dX12_busiest_39 rfl hl (by decide) rfl (fun ls hl => ?_)
          refine q_iinc (lv' := [(2, .int (q_i (v9_2 + 1))), (1, .int (q_i v9_2)), (0, .ref mo)]) cx dX12_busiest_40 hl (k := 2) rfl (by decide) rfl (fun ls hl => ?_)
          refine lv_goto (tgt := 9) cx.1 cx.2.1 dX12_busiest_43 (by decide) ?_
          exact ih9 f9 v9_2 (by omega) (by omega) (v9_2 + 1) (by omega) (by omega) hq_mo_13 hgr9 (by omega) H locs hB ls (lv_sub hl [2, 1, 0] rfl)
  obtain ⟨H, hH⟩ : ∃ H : Heap, H = s.heap := ⟨_, rfl⟩
  obtain ⟨locs, hlocs⟩ : ∃ z : List Loc, z = [] := ⟨_, rfl⟩
  rw [← hH, ← hlocs] at hB
  rw [← hH, ← hlocs]
  refine q_ald_n cx dX12_busiest_0 rfl (lv_at hl 0 rfl) ?_
  refine q_iconst cx dX12_busiest_1 ?_
  refine q_pX12_75 cx hB hmo kmo ⟨by decide, by decide⟩ (by decide) (by decide) rfl dX12_busiest_2 (fun H locs f345 ef345 z346 hB => ?_)
  have z347 : q_ir (q_r f345 mo 13) sr := by rw [ef345, q_setr (Or.inr (by decide))]; exact hr0
  have g348 : q_gr f345 sr := q_gr_ne hgr ef345 (fun q => q_kne (k := 151) (k2 := 12) (by decide) ksr kmo q)
  refine q_iconst cx dX12_busiest_5 ?_
  refine lv_istore_n (lv' := [(1, .int (q_i 1)), (0, .ref mo)]) cx.1 cx.2.1 dX12_busiest_6 rfl hl (by decide) rfl (fun ls hl => ?_)
  refine q_iconst cx dX12_busiest_7 ?_
  refine lv_istore_n (lv' := [(2, .int (q_i 2)), (1, .int (q_i 1)), (0, .ref mo)]) cx.1 cx.2.1 dX12_busiest_8 rfl hl (by decide) rfl (fun ls hl => ?_)
  exact J9 ((Int.toNat (2147483647 - 2)) + 1) f345 1 (by decide) (by decide) 2 (by decide) (by decide) z347 g348 (Nat.lt_succ_self _) H locs hB ls (lv_sub hl [2, 1, 0] rfl)
set_option maxHeartbeats 4000000 in
set_option maxRecDepth 100000 in
theorem r_hops (l : Launch) (g : q_G) {K : Nat → Nat} {L : List Nat} (hN : L.Nodup) {f : Nat → va_E} (hT : q_Ty g K L f) (mo : Nat) (hmo : mo ∈ L) (kmo : K mo = 12) (a0 : Int) (la0 : (-2147483648) ≤ a0) (ua0 : a0 ≤ 2147483647) (b0 : Int) (lb0 : (-2147483648) ≤ b0) (ub0 : b0 ≤ 2147483647) (sr : Nat) (hsr : sr ∈ L) (ksr : K sr = 151) (hp : Nat) (hhp : hp ∈ L) (khp : K hp = 159) (hr0 : q_ir (q_r f mo 13) sr) (hr1 : q_ir (q_r f mo 24) hp) (hgr : q_gr f sr) : q_Ct l g K L yX12_hops cX12_hops 3 (some .int) 6 132 [.ref mo, .int (q_i a0), .int (q_i b0)] f [(12, 0, 0), (159, 0, 9)] (q_Pi (fun (z : Int) (f1 : Nat → va_E) => (-1) ≤ z ∧ z ≤ 999)) := by
  refine q_ofb (by decide +kernel) hN hT (Nat.le_of_ble_eq_true rfl) ?_
  intro p e s m below meth c ls cx hr hlk hB hl
  have hl : lv_has ls 3 [(0, .ref mo), (1, .int (q_i a0)), (2, .int (q_i b0))] := hl
  obtain ⟨H, hH⟩ : ∃ H : Heap, H = s.heap := ⟨_, rfl⟩
  obtain ⟨locs, hlocs⟩ : ∃ z : List Loc, z = [] := ⟨_, rfl⟩
  rw [← hH, ← hlocs] at hB
  rw [← hH, ← hlocs]
  refine q_ald_n cx dX12_hops_0 rfl (lv_at hl 0 rfl) ?_
  refine q_ald_n cx dX12_hops_1 rfl (lv_at hl 0 rfl) ?_
  refine q_ild_n cx dX12_hops_2 rfl (lv_at hl 1 rfl) ?_
  refine q_cVi (As := [.int (q_i a0)]) (rest := [.ref mo]) cx hB (fun _ h => h) hN hmo kmo (by decide) rfl (r_isNode l g hN hB.2.1 mo hmo kmo a0 (by omega) (by omega) sr hsr ksr hr0) q_cX12_355 q_dX12_isNode (by decide) rfl rfl hl.1 rfl (Nat.le_of_ble_eq_true rfl) dX12_hops_3 (fun y51 H locs f50 ry51 h52 hF hB => ?_)
  rcases h52 with h53 | h54
  · obtain ⟨rfl, qy51, t55, t56⟩ := h53
    subst qy51
    refine q_ifeq (tgt := 21) cx ⟨by decide, by decide⟩ dX12_hops_6 (by decide) (fun c57 => ?_) (fun c57 => ?_)
    · exact absurd c57 (by omega)
    · refine q_ald_n cx dX12_hops_9 rfl (lv_at hl 0 rfl) ?_
      refine q_ild_n cx dX12_hops_10 rfl (lv_at hl 2 rfl) ?_
      refine q_cVi (As := [.int (q_i b0)]) (rest := [.ref mo]) cx hB (fun _ h => h) hN hmo kmo (by decide) rfl (r_isNode l g hN hB.2.1 mo hmo kmo b0 (by omega) (by omega) sr hsr ksr hr0) q_cX12_355 q_dX12_isNode (by decide) rfl rfl hl.1 rfl (Nat.le_of_ble_eq_true rfl) dX12_hops_11 (fun y59 H locs f58 ry59 h60 hF hB => ?_)
      rcases h60 with h61 | h62
      · obtain ⟨rfl, qy59, t63, t64⟩ := h61
        subst qy59
        refine q_ifeq (tgt := 21) cx ⟨by decide, by decide⟩ dX12_hops_14 (by decide) (fun c65 => ?_) (fun c65 => ?_)
        · exact absurd c65 (by omega)
        · refine q_iconst cx dX12_hops_17 ?_
          refine lv_goto (tgt := 22) cx.1 cx.2.1 dX12_hops_18 (by decide) ?_
          refine q_cVi (As := [.int (q_i 1)]) (rest := []) cx hB (fun _ h => h) hN hmo kmo (by decide) rfl (r_goes1 l g hN hB.2.1 mo hmo kmo 1 (by decide) (by decide)) q_cX12_85 q_dX12_goes (by decide) rfl rfl hl.1 rfl (Nat.le_of_ble_eq_true rfl) dX12_hops_22 (fun y67 H locs f66 ry67 h68 hF hB => ?_)
          obtain ⟨qy67, z69⟩ := h68
          have z70 : q_ir (q_r f66 mo 13) sr := Eq.trans (hF.r hmo (by rw [kmo]; rfl)) hr0
          have z71 : q_ir (q_r f66 mo 24) hp := Eq.trans (hF.r hmo (by rw [kmo]; rfl)) hr1
          have g72 : q_gr f66 sr := q_gr_fr hgr (fun i9 _ => hF.z hsr (by rw [ksr]; rfl))
          subst qy67
          refine q_ifeq (tgt := 37) cx ⟨by decide, by decide⟩ dX12_hops_25 (by decide) (fun c73 => ?_) (fun c73 => ?_)
          · exact absurd c73 (by omega)
          · refine q_ald_n cx dX12_hops_28 rfl (lv_at hl 0 rfl) ?_
            refine q_ild_n cx dX12_hops_29 rfl (lv_at hl 1 rfl) ?_
            refine q_ild_n cx dX12_hops_30 rfl (lv_at hl 2 rfl) ?_
            refine q_cVi (As := [.int (q_i a0), .int (q_i b0)]) (rest := []) cx hB (fun _ h => h) hN hmo kmo (by decide) rfl (r_hopsBetween l g hN hB.2.1 mo hmo kmo a0 (by omega) (by omega) b0 (by omega) (by omega) sr hsr ksr hp hhp khp z70 z71 g72) q_cX12_402 q_dX12_hopsBetween (by decide) rfl rfl hl.1 rfl (Nat.le_of_ble_eq_true rfl) dX12_hops_31 (fun y75 H locs f74 ry75 h76 hF hB => ?_)
            obtain ⟨ly75, uy75⟩ := h76
            have z77 : q_is (q_z f74 mo 0) 0 := Eq.trans (hF.z hmo (by rw [kmo]; rfl)) z69
            have z78 : q_ir (q_r f74 mo 13) sr := Eq.trans (hF.r hmo (by rw [kmo]; rfl)) z70
            have z79 : q_ir (q_r f74 mo 24) hp := Eq.trans (hF.r hmo (by rw [kmo]; rfl)) z71
            have g80 : q_gr f74 sr := q_gr_fr g72 (fun i9 _ => hF.z hsr (by rw [ksr]; rfl))
            refine lv_goto (tgt := 38) cx.1 cx.2.1 dX12_hops_34 (by decide) ?_
            refine q_iret cx hr hlk hB dX12_hops_38 ⟨by omega, by omega⟩ ?_
            exact ⟨(by omega), (by omega)⟩
      · obtain ⟨rfl, qy59⟩ := h62
        subst qy59
        refine q_ifeq (tgt := 21) cx ⟨by decide, by decide⟩ dX12_hops_14 (by decide) (fun c81 => ?_) (fun c81 => ?_)
        · refine q_iconst cx dX12_hops_21 ?_
          refine q_cVi (As := [.int (q_i 0)]) (rest := []) cx hB (fun _ h => h) hN hmo kmo (by decide) rfl (r_goes0 l g hN hB.2.1 mo hmo kmo 0 (by decide) (by decide)) q_cX12_85 q_dX12_goes (by decide) rfl rfl hl.1 rfl (Nat.le_of_ble_eq_true rfl) dX12_hops_22 (fun y83 H locs f82 ry83 h84 hF hB => ?_)
          obtain ⟨qy83, z85⟩ := h84
          have z86 : q_ir (q_r f82 mo 13) sr := Eq.trans (hF.r hmo (by rw [kmo]; rfl)) hr0
          have z87 : q_ir (q_r f82 mo 24) hp := Eq.trans (hF.r hmo (by rw [kmo]; rfl)) hr1
          have g88 : q_gr f82 sr := q_gr_fr hgr (fun i9 _ => hF.z hsr (by rw [ksr]; rfl))
          subst qy83
          refine q_ifeq (tgt := 37) cx ⟨by decide, by decide⟩ dX12_hops_25 (by decide) (fun c89 => ?_) (fun c89 => ?_)
          · refine q_iconst cx dX12_hops_37 ?_
            refine q_iret cx hr hlk hB dX12_hops_38 ⟨by decide, by decide⟩ ?_
            exact ⟨(by decide), (by decide)⟩
          · exact absurd c89 (by omega)
        · exact absurd c81 (by omega)
  · obtain ⟨rfl, qy51⟩ := h54
    subst qy51
    refine q_ifeq (tgt := 21) cx ⟨by decide, by decide⟩ dX12_hops_6 (by decide) (fun c90 => ?_) (fun c90 => ?_)
    · refine q_iconst cx dX12_hops_21 ?_
      refine q_cVi (As := [.int (q_i 0)]) (rest := []) cx hB (fun _ h => h) hN hmo kmo (by decide) rfl (r_goes0 l g hN hB.2.1 mo hmo kmo 0 (by decide) (by decide)) q_cX12_85 q_dX12_goes (by decide) rfl rfl hl.1 rfl (Nat.le_of_ble_eq_true rfl) dX12_hops_22 (fun y92 H locs f91 ry92 h93 hF hB => ?_)
      obtain ⟨qy92, z94⟩ := h93
      have z95 : q_ir (q_r f91 mo 13) sr := Eq.trans (hF.r hmo (by rw [kmo]; rfl)) hr0
      have z96 : q_ir (q_r f91 mo 24) hp := Eq.trans (hF.r hmo (by rw [kmo]; rfl)) hr1
      have g97 : q_gr f91 sr := q_gr_fr hgr (fun i9 _ => hF.z hsr (by rw [ksr]; rfl))
      subst qy92
      refine q_ifeq (tgt := 37) cx ⟨by decide, by decide⟩ dX12_hops_25 (by decide) (fun c98 => ?_) (fun c98 => ?_)
      · refine q_iconst cx dX12_hops_37 ?_
        refine q_iret cx hr hlk hB dX12_hops_38 ⟨by decide, by decide⟩ ?_
        exact ⟨(by decide), (by decide)⟩
      · exact absurd c98 (by omega)
    · exact absurd c90 (by omega)
set_option maxHeartbeats 4000000 in
set_option maxRecDepth 100000 in
theorem r_nextNode (l : Launch) (g : q_G) {K : Nat → Nat} {L : List Nat} (hN : L.Nodup) {f : Nat → va_E} (hT : q_Ty g K L f) (mo : Nat) (hmo : mo ∈ L) (kmo : K mo = 12) (a0 : Int) (la0 : (-2147483648) ≤ a0) (ua0 : a0 ≤ 2147483647) (b0 : Int) (lb0 : (-2147483648) ≤ b0) (ub0 : b0 ≤ 2147483647) (sr : Nat) (hsr : sr ∈ L) (ksr : K sr = 151) (hp : Nat) (hhp : hp ∈ L) (khp : K hp = 159) (hr0 : q_ir (q_r f mo 13) sr) (hr1 : q_ir (q_r f mo 24) hp) (hgr : q_gr f sr) : q_Ct l g K L yX12_nextNode cX12_nextNode 3 (some .int) 6 135 [.ref mo, .int (q_i a0), .int (q_i b0)] f [(12, 0, 0), (159, 0, 9)] (q_Pi (fun (z : Int) (f1 : Nat → va_E) => (-1) ≤ z ∧ z ≤ 9)) := by
  refine q_ofb (by decide +kernel) hN hT (Nat.le_of_ble_eq_true rfl) ?_
  intro p e s m below meth c ls cx hr hlk hB hl
  have hl : lv_has ls 3 [(0, .ref mo), (1, .int (q_i a0)), (2, .int (q_i b0))] := hl
  obtain ⟨H, hH⟩ : ∃ H : Heap, H = s.heap := ⟨_, rfl⟩
  obtain ⟨locs, hlocs⟩ : ∃ z : List Loc, z = [] := ⟨_, rfl⟩
  rw [← hH, ← hlocs] at hB
  rw [← hH, ← hlocs]
  refine q_ald_n cx dX12_nextNode_0 rfl (lv_at hl 0 rfl) ?_
  refine q_ald_n cx dX12_nextNode_1 rfl (lv_at hl 0 rfl) ?_
  refine q_ild_n cx dX12_nextNode_2 rfl (lv_at hl 1 rfl) ?_
  refine q_cVi (As := [.int (q_i a0)]) (rest := [.ref mo]) cx hB (fun _ h => h) hN hmo kmo (by decide) rfl (r_isNode l g hN hB.2.1 mo hmo kmo a0 (by omega) (by omega) sr hsr ksr hr0) q_cX12_355 q_dX12_isNode (by decide) rfl rfl hl.1 rfl (Nat.le_of_ble_eq_true rfl) dX12_nextNode_3 (fun y51 H locs f50 ry51 h52 hF hB => ?_)
  rcases h52 with h53 | h54
  · obtain ⟨rfl, qy51, t55, t56⟩ := h53
    subst qy51
    refine q_ifeq (tgt := 21) cx ⟨by decide, by decide⟩ dX12_nextNode_6 (by decide) (fun c57 => ?_) (fun c57 => ?_)
    · exact absurd c57 (by omega)
    · refine q_ald_n cx dX12_nextNode_9 rfl (lv_at hl 0 rfl) ?_
      refine q_ild_n cx dX12_nextNode_10 rfl (lv_at hl 2 rfl) ?_
      refine q_cVi (As := [.int (q_i b0)]) (rest := [.ref mo]) cx hB (fun _ h => h) hN hmo kmo (by decide) rfl (r_isNode l g hN hB.2.1 mo hmo kmo b0 (by omega) (by omega) sr hsr ksr hr0) q_cX12_355 q_dX12_isNode (by decide) rfl rfl hl.1 rfl (Nat.le_of_ble_eq_true rfl) dX12_nextNode_11 (fun y59 H locs f58 ry59 h60 hF hB => ?_)
      rcases h60 with h61 | h62
      · obtain ⟨rfl, qy59, t63, t64⟩ := h61
        subst qy59
        refine q_ifeq (tgt := 21) cx ⟨by decide, by decide⟩ dX12_nextNode_14 (by decide) (fun c65 => ?_) (fun c65 => ?_)
        · exact absurd c65 (by omega)
        · refine q_iconst cx dX12_nextNode_17 ?_
          refine lv_goto (tgt := 22) cx.1 cx.2.1 dX12_nextNode_18 (by decide) ?_
          refine q_cVi (As := [.int (q_i 1)]) (rest := []) cx hB (fun _ h => h) hN hmo kmo (by decide) rfl (r_goes1 l g hN hB.2.1 mo hmo kmo 1 (by decide) (by decide)) q_cX12_85 q_dX12_goes (by decide) rfl rfl hl.1 rfl (Nat.le_of_ble_eq_true rfl) dX12_nextNode_22 (fun y67 H locs f66 ry67 h68 hF hB => ?_)
          obtain ⟨qy67, z69⟩ := h68
          have z70 : q_ir (q_r f66 mo 13) sr := Eq.trans (hF.r hmo (by rw [kmo]; rfl)) hr0
          have z71 : q_ir (q_r f66 mo 24) hp := Eq.trans (hF.r hmo (by rw [kmo]; rfl)) hr1
          have g72 : q_gr f66 sr := q_gr_fr hgr (fun i9 _ => hF.z hsr (by rw [ksr]; rfl))
          subst qy67
          refine q_ifeq (tgt := 37) cx ⟨by decide, by decide⟩ dX12_nextNode_25 (by decide) (fun c73 => ?_) (fun c73 => ?_)
          · exact absurd c73 (by omega)
          · refine q_ald_n cx dX12_nextNode_28 rfl (lv_at hl 0 rfl) ?_
            refine q_ild_n cx dX12_nextNode_29 rfl (lv_at hl 1 rfl) ?_
            refine q_ild_n cx dX12_nextNode_30 rfl (lv_at hl 2 rfl) ?_
            refine q_cVi (As := [.int (q_i a0), .int (q_i b0)]) (rest := []) cx hB (fun _ h => h) hN hmo kmo (by decide) rfl (r_nextOf l g hN hB.2.1 mo hmo kmo a0 (by omega) (by omega) b0 (by omega) (by omega) sr hsr ksr hp hhp khp z70 z71 g72) q_cX12_311 q_dX12_nextOf (by decide) rfl rfl hl.1 rfl (Nat.le_of_ble_eq_true rfl) dX12_nextNode_31 (fun y75 H locs f74 ry75 h76 hF hB => ?_)
            obtain ⟨ly75, uy75⟩ := h76
            have z77 : q_is (q_z f74 mo 0) 0 := Eq.trans (hF.z hmo (by rw [kmo]; rfl)) z69
            have z78 : q_ir (q_r f74 mo 13) sr := Eq.trans (hF.r hmo (by rw [kmo]; rfl)) z70
            have z79 : q_ir (q_r f74 mo 24) hp := Eq.trans (hF.r hmo (by rw [kmo]; rfl)) z71
            have g80 : q_gr f74 sr := q_gr_fr g72 (fun i9 _ => hF.z hsr (by rw [ksr]; rfl))
            refine lv_goto (tgt := 38) cx.1 cx.2.1 dX12_nextNode_34 (by decide) ?_
            refine q_iret cx hr hlk hB dX12_nextNode_38 ⟨by omega, by omega⟩ ?_
            exact ⟨(by omega), (by omega)⟩
      · obtain ⟨rfl, qy59⟩ := h62
        subst qy59
        refine q_ifeq (tgt := 21) cx ⟨by decide, by decide⟩ dX12_nextNode_14 (by decide) (fun c81 => ?_) (fun c81 => ?_)
        · refine q_iconst cx dX12_nextNode_21 ?_
          refine q_cVi (As := [.int (q_i 0)]) (rest := []) cx hB (fun _ h => h) hN hmo kmo (by decide) rfl (r_goes0 l g hN hB.2.1 mo hmo kmo 0 (by decide) (by decide)) q_cX12_85 q_dX12_goes (by decide) rfl rfl hl.1 rfl (Nat.le_of_ble_eq_true rfl) dX12_nextNode_22 (fun y83 H locs f82 ry83 h84 hF hB => ?_)
          obtain ⟨qy83, z85⟩ := h84
          have z86 : q_ir (q_r f82 mo 13) sr := Eq.trans (hF.r hmo (by rw [kmo]; rfl)) hr0
          have z87 : q_ir (q_r f82 mo 24) hp := Eq.trans (hF.r hmo (by rw [kmo]; rfl)) hr1
          have g88 : q_gr f82 sr := q_gr_fr hgr (fun i9 _ => hF.z hsr (by rw [ksr]; rfl))
          subst qy83
          refine q_ifeq (tgt := 37) cx ⟨by decide, by decide⟩ dX12_nextNode_25 (by decide) (fun c89 => ?_) (fun c89 => ?_)
          · refine q_iconst cx dX12_nextNode_37 ?_
            refine q_iret cx hr hlk hB dX12_nextNode_38 ⟨by decide, by decide⟩ ?_
            exact ⟨(by decide), (by decide)⟩
          · exact absurd c89 (by omega)
        · exact absurd c81 (by omega)
  · obtain ⟨rfl, qy51⟩ := h54
    subst qy51
    refine q_ifeq (tgt := 21) cx ⟨by decide, by decide⟩ dX12_nextNode_6 (by decide) (fun c90 => ?_) (fun c90 => ?_)
    · refine q_iconst cx dX12_nextNode_21 ?_
      refine q_cVi (As := [.int (q_i 0)]) (rest := []) cx hB (fun _ h => h) hN hmo kmo (by decide) rfl (r_goes0 l g hN hB.2.1 mo hmo kmo 0 (by decide) (by decide)) q_cX12_85 q_dX12_goes (by decide) rfl rfl hl.1 rfl (Nat.le_of_ble_eq_true rfl) dX12_nextNode_22 (fun y92 H locs f91 ry92 h93 hF hB => ?_)
      obtain ⟨qy92, z94⟩ := h93
      have z95 : q_ir (q_r f91 mo 13) sr := Eq.trans (hF.r hmo (by rw [kmo]; rfl)) hr0
      have z96 : q_ir (q_r f91 mo 24) hp := Eq.trans (hF.r hmo (by rw [kmo]; rfl)) hr1
      have g97 : q_gr f91 sr := q_gr_fr hgr (fun i9 _ => hF.z hsr (by rw [ksr]; rfl))
      subst qy92
      refine q_ifeq (tgt := 37) cx ⟨by decide, by decide⟩ dX12_nextNode_25 (by decide) (fun c98 => ?_) (fun c98 => ?_)
      · refine q_iconst cx dX12_nextNode_37 ?_
        refine q_iret cx hr hlk hB dX12_nextNode_38 ⟨by decide, by decide⟩ ?_
        exact ⟨(by decide), (by decide)⟩
      · exact absurd c98 (by omega)
    · exact absurd c90 (by omega)
set_option maxHeartbeats 4000000 in
set_option maxRecDepth 100000 in
theorem r_widest (l : Launch) (g : q_G) {K : Nat → Nat} {L : List Nat} (hN : L.Nodup) {f : Nat → va_E} (hT : q_Ty g K L f) (mo : Nat) (hmo : mo ∈ L) (kmo : K mo = 12) (sr : Nat) (hsr : sr ∈ L) (ksr : K sr = 151) (hp : Nat) (hhp : hp ∈ L) (khp : K hp = 159) (hr0 : q_ir (q_r f mo 13) sr) (hr1 : q_ir (q_r f mo 24) hp) (hgr : q_gr f sr) : q_Ct l g K L yX12_widest cX12_widest 4 (some .int) 6 132 [.ref mo] f [(12, 0, 0), (159, 0, 9)] (q_Pi (fun (z : Int) (f1 : Nat → va_E) => 0 ≤ z ∧ z ≤ 999)) := by
  refine q_ofb (by decide +kernel) hN hT (Nat.le_of_ble_eq_true rfl) ?_
  intro p e s m below meth c ls cx hr hlk hB hl
  have hl : lv_has ls 4 [(0, .ref mo)] := hl
  have J9 : ∀ (n : Nat) (f9 : Nat → va_E) (v9_1 : Int) (lv9_1 : 0 ≤ v9_1) (uv9_1 : v9_1 ≤ 999) (v9_2 : Int) (lv9_2 : 0 ≤ v9_2) (uv9_2 : v9_2 ≤ 10) (hq_mo_13 : q_ir (q_r f9 mo 13) sr) (hq_mo_24 : q_ir (q_r f9 mo 24) hp) (hgr9 : q_gr f9 sr) (hmu : (Int.toNat (2147483647 - v9_2)) < n) (H : Heap) (locs : List Loc) (hB : q_B g K L (fun q => q ∈ L) [(12, 0, 0), (159, 0, 9)] f f9 s H locs) (ls : Array Slot) (hl : lv_has ls 4 [(0, .ref mo), (1, .int (q_i v9_1)), (2, .int (q_i v9_2))]), W p l e { frames := 6, cells := 0, slots := 0, locals := 132 } s m ([.ref mo] : List Value).toArray below meth c H locs 0 0 (MQ below (q_Q g K L [(12, 0, 0), (159, 0, 9)] f (q_Pi (fun (z : Int) (f1 : Nat → va_E) => 0 ≤ z ∧ z ≤ 999))) ([.ref mo] : List Value).toArray s 0 0 (fun q => q ∈ L)) (F0 m 9 ls []) := by
    intro n
    induction n with
    | zero =>
      intro f9 v9_1 lv9_1 uv9_1 v9_2 lv9_2 uv9_2 hq_mo_13 hq_mo_24 hgr9 hmu
      exact absurd hmu (Nat.not_lt_zero _)
    | succ n ih9 =>
      intro f9 v9_1 lv9_1 uv9_1 v9_2 lv9_2 uv9_2 hq_mo_13 hq_mo_24 hgr9 hmu H locs hB ls hl
      have J21 : ∀ (n : Nat) (f21 : Nat → va_E) (v21_1 : Int) (lv21_1 : 0 ≤ v21_1) (uv21_1 : v21_1 ≤ 999) (v21_3 : Int) (lv21_3 : 0 ≤ v21_3) (uv21_3 : v21_3 ≤ 10) (buv9_2 : v9_2 ≤ 9) (hq_mo_13 : q_ir (q_r f21 mo 13) sr) (hq_mo_24 : q_ir (q_r f21 mo 24) hp) (hgr21 : q_gr f21 sr) (hmu : (Int.toNat (2147483647 - v21_3)) < n) (H : Heap) (locs : List Loc) (hB : q_B g K L (fun q => q ∈ L) [(12, 0, 0), (159, 0, 9)] f f21 s H locs) (ls : Array Slot) (hl : lv_has ls 4 [(0, .ref mo), (1, .int (q_i v21_1)), (2, .int (q_i v9_2)), (3, .int (q_i v21_3))]), W p l e { frames := 6, cells := 0, slots := 0, locals := 132 } s m ([.ref mo] : List Value).toArray below meth c H locs 0 0 (MQ below (q_Q g K L [(12, 0, 0), (159, 0, 9)] f (q_Pi (fun (z : Int) (f1 : Nat → va_E) => 0 ≤ z ∧ z ≤ 999))) ([.ref mo] : List Value).toArray s 0 0 (fun q => q ∈ L)) (F0 m 21 ls []) := by
        intro n
        induction n with
        | zero =>
          intro f21 v21_1 lv21_1 uv21_1 v21_3 lv21_3 uv21_3 buv9_2 hq_mo_13 hq_mo_24 hgr21 hmu
          exact absurd hmu (Nat.not_lt_zero _)
        | succ n ih21 =>
          intro f21 v21_1 lv21_1 uv21_1 v21_3 lv21_3 uv21_3 buv9_2 hq_mo_13 hq_mo_24 hgr21 hmu H locs hB ls hl
          refine q_ild_n cx dX12_widest_21 rfl (lv_at hl 3 rfl) ?_
          refine q_ald_n cx dX12_widest_22 rfl (lv_at hl 0 rfl) ?_
          refine q_gX12_20 cx hB hmo kmo hq_mo_13 dX12_widest_23 (fun hb226 kb226 => ?_)
          refine q_iconst cx dX12_widest_26 ?_
          obtain ⟨x227, ex227⟩ : ∃ zz, q_is (q_z f21 sr (Int.toNat 0)) zz := ⟨_, q_isr _⟩
          refine q_iald (lo := 0) (hi := 10) (n := 658) cx hB hsr ksr (by decide) rfl rfl (by decide) (by decide) (by decide) rfl ex227 dX12_widest_27 (fun lb228 ub228 => ?_)
          refine q_icge (tgt := 48) cx ⟨by omega, by omega⟩ ⟨by omega, by omega⟩ dX12_widest_28 (by decide) (fun c229 => ?_) (fun c229 => ?_)
          · refine q_iinc (lv' := [(2, .int (q_i (v9_2 + 1))), (0, .ref mo), (1, .int (q_i v21_1)), (3, .int (q_i v21_3))]) cx dX12_widest_48 hl (k := 2) rfl (by decide) rfl (fun ls hl => ?_)
            refine lv_goto (tgt := 9) cx.1 cx.2.1 dX12_widest_51 (by decide) ?_
            exact ih9 f21 v21_1 (by omega) (by omega) (v9_2 + 1) (by omega) (by omega) hq_mo_13 hq_mo_24 hgr21 (by omega) H locs hB ls (lv_sub hl [1, 2, 0] rfl)
          · refine q_ild_n cx dX12_widest_31 rfl (lv_at hl 1 rfl) ?_
            refine q_ald_n cx dX12_widest_32 rfl (lv_at hl 0 rfl) ?_
            refine q_ild_n cx dX12_widest_33 rfl (lv_at hl 2 rfl) ?_
            refine q_ild_n cx dX12_widest_34 rfl (lv_at hl 3 rfl) ?_
            refine q_cVi (As := [.int (q_i v9_2), .int (q_i v21_3)]) (rest := [.int (q_i v21_1)]) cx hB (fun _ h => h) hN hmo kmo (by decide) rfl (r_hopsBetween l g hN hB.2.1 mo hmo kmo v9_2 (by omega) (by omega) v21_3 (by omega) (by omega) sr hsr ksr hp hhp khp hq_mo_13 hq_mo_24 hgr21) q_cX12_402 q_dX12_hopsBetween (by decide) rfl rfl hl.1 rfl (Nat.le_of_ble_eq_true rfl) dX12_widest_35 (fun y231 H locs f230 ry231 h232 hF hB => ?_)
            obtain ⟨ly231, uy231⟩ := h232
            have z233 : q_is (q_z f230 sr 0) x227 := Eq.trans (hF.z hsr (by rw [ksr]; rfl)) ex227
            have z234 : q_ir (q_r f230 mo 13) sr := Eq.trans (hF.r hmo (by rw [kmo]; rfl)) hq_mo_13
            have z235 : q_ir (q_r f230 mo 24) hp := Eq.trans (hF.r hmo (by rw [kmo]; rfl)) hq_mo_24
            have g236 : q_gr f230 sr := q_gr_fr hgr21 (fun i9 _ => hF.z hsr (by rw [ksr]; rfl))
            refine q_cSi (As := [.int (q_i v21_1), .int (q_i y231)]) (rest := []) cx hB (fun _ h => h) hN (r_greater l g hN hB.2.1 v21_1 (by omega) (by omega) y231 (by omega) (by omega)) q_cX12_299 q_dX12_greater (by decide) rfl rfl hl.1 rfl (Nat.le_of_ble_eq_true rfl) dX12_widest_38 (fun y238 H locs f237 ry238 h239 hF hB => ?_)
            rcases h239 with h240 | h241
            · obtain ⟨rfl, qy238, t242⟩ := h240
              refine lv_istore_n (lv' := [(1, .int (q_i y238)), (0, .ref mo), (2, .int (q_i v9_2)), (3, .int (q_i v21_3))]) cx.1 cx.2.1 dX12_widest_41 rfl hl (by decide) rfl (fun ls hl => ?_)
              refine q_iinc (lv' := [(3, .int (q_i (v21_3 + 1))), (1, .int (q_i y238)), (0, .ref mo), (2, .int (q_i v9_2))]) cx dX12_widest_42 hl (k := 3) rfl (by decide) rfl (fun ls hl => ?_)
              refine lv_goto (tgt := 21) cx.1 cx.2.1 dX12_widest_45 (by decide) ?_
              exact ih21 f230 y238 (by omega) (by omega) (v21_3 + 1) (by omega) (by omega) (by omega) z234 z235 g236 (by omega) H locs hB ls (lv_sub hl [2, 1, 3, 0] rfl)
            · obtain ⟨rfl, qy238, t243⟩ := h241
              refine lv_istore_n (lv' := [(1, .int (q_i y238)), (0, .ref mo), (2, .int (q_i v9_2)), (3, .int (q_i v21_3))]) cx.1 cx.2.1 dX12_widest_41 rfl hl (by decide) rfl (fun ls hl => ?_)
              refine q_iinc (lv' := [(3, .int (q_i (v21_3 + 1))), (1, .int (q_i y238)), (0, .ref mo), (2, .int (q_i v9_2))]) cx dX12_widest_42 hl (k := 3) rfl (by decide) rfl (fun ls hl => ?_)
              refine lv_goto (tgt := 21) cx.1 cx.2.1 dX12_widest_45 (by decide) ?_
              exact ih21 f230 y238 (by omega) (by omega) (v21_3 + 1) (by omega) (by omega) (by omega) z234 z235 g236 (by omega) H locs hB ls (lv_sub hl [2, 1, 3, 0] rfl)
      refine q_ild_n cx dX12_widest_9 rfl (lv_at hl 2 rfl) ?_
      refine q_ald_n cx dX12_widest_10 rfl (lv_at hl 0 rfl) ?_
      refine q_gX12_20 cx hB hmo kmo hq_mo_13 dX12_widest_11 (fun hb244 kb244 => ?_)
      refine q_iconst cx dX12_widest_14 ?_
      obtain ⟨x245, ex245⟩ : ∃ zz, q_is (q_z f9 sr (Int.toNat 0)) zz := ⟨_, q_isr _⟩
      refine q_iald (lo := 0) (hi := 10) (n := 658) cx hB hsr ksr (by decide) rfl rfl (by decide) (by decide) (by decide) rfl ex245 dX12_widest_15 (fun lb246 ub246 => ?_)
      refine q_icge (tgt := 54) cx ⟨by omega, by omega⟩ ⟨by omega, by omega⟩ dX12_widest_16 (by decide) (fun c247 => ?_) (fun c247 => ?_)
      · refine q_ild_n cx dX12_widest_54 rfl (lv_at hl 1 rfl) ?_
        refine q_iret cx hr hlk hB dX12_widest_55 ⟨by omega, by omega⟩ ?_
        exact ⟨(by omega), (by omega)⟩
      · refine q_iconst cx dX12_widest_19 ?_
        refine lv_istore_n (lv' := [(3, .int (q_i 0)), (0, .ref mo), (1, .int (q_i v9_1)), (2, .int (q_i v9_2))]) cx.1 cx.2.1 dX12_widest_20 rfl hl (by decide) rfl (fun ls hl => ?_)
        exact J21 ((Int.toNat (2147483647 - 0)) + 1) f9 v9_1 (by omega) (by omega) 0 (by decide) (by decide) (by omega) hq_mo_13 hq_mo_24 hgr9 (Nat.lt_succ_self _) H locs hB ls (lv_sub hl [1, 2, 3, 0] rfl)
  obtain ⟨H, hH⟩ : ∃ H : Heap, H = s.heap := ⟨_, rfl⟩
  obtain ⟨locs, hlocs⟩ : ∃ z : List Loc, z = [] := ⟨_, rfl⟩
  rw [← hH, ← hlocs] at hB
  rw [← hH, ← hlocs]
  refine q_ald_n cx dX12_widest_0 rfl (lv_at hl 0 rfl) ?_
  refine q_iconst cx dX12_widest_1 ?_
  refine q_pX12_75 cx hB hmo kmo ⟨by decide, by decide⟩ (by decide) (by decide) rfl dX12_widest_2 (fun H locs f248 ef248 z249 hB => ?_)
  have z250 : q_ir (q_r f248 mo 13) sr := by rw [ef248, q_setr (Or.inr (by decide))]; exact hr0
  have z251 : q_ir (q_r f248 mo 24) hp := by rw [ef248, q_setr (Or.inr (by decide))]; exact hr1
  have g252 : q_gr f248 sr := q_gr_ne hgr ef248 (fun q => q_kne (k := 151) (k2 := 12) (by decide) ksr kmo q)
  refine q_iconst cx dX12_widest_5 ?_
  refine lv_istore_n (lv' := [(1, .int (q_i 0)), (0, .ref mo)]) cx.1 cx.2.1 dX12_widest_6 rfl hl (by decide) rfl (fun ls hl => ?_)
  refine q_iconst cx dX12_widest_7 ?_
  refine lv_istore_n (lv' := [(2, .int (q_i 0)), (1, .int (q_i 0)), (0, .ref mo)]) cx.1 cx.2.1 dX12_widest_8 rfl hl (by decide) rfl (fun ls hl => ?_)
  exact J9 ((Int.toNat (2147483647 - 0)) + 1) f248 0 (by decide) (by decide) 0 (by decide) (by decide) z250 z251 g252 (Nat.lt_succ_self _) H locs hB ls (lv_sub hl [2, 1, 0] rfl)
