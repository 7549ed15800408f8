set_option maxHeartbeats 4000000 in
set_option maxRecDepth 100000 in
theorem r_mustBeWord0 (l : Launch) (g : q_G) {K : Nat → Nat} {L : List Nat} (hN : L.Nodup) {f : Nat → va_E} (hT : q_Ty g K L f) (mo : Nat) (hmo : mo ∈ L) (kmo : K mo = 12) (hf0 : q_is (q_z f mo 8) 0) : q_Ct l g K L yX12_mustBeWord cX12_mustBeWord 1 none 1 21 [.ref mo] f [(12, 8, 9)] (q_Pv (fun (f1 : Nat → va_E) => (q_is (q_z f1 mo 8) 0) ∨ (1 ≤ q_z f1 mo 8 ∧ q_z f1 mo 8 ≤ 5))) := by
  refine q_ofb (by decide +kernel) hN hT (Nat.le_of_ble_eq_true rfl) ?_
  intro p e s m below meth c ls cx hr hlk hB hl
  have hl : lv_has ls 1 [(0, .ref mo)] := hl
  obtain ⟨H, hH⟩ : ∃ H : Heap, H = s.heap := ⟨_, rfl⟩
  obtain ⟨locs, hlocs⟩ : ∃ z : List Loc, z = [] := ⟨_, rfl⟩
  rw [← hH, ← hlocs] at hB
  rw [← hH, ← hlocs]
  refine q_ald_n cx dX12_mustBeWord_0 rfl (lv_at hl 0 rfl) ?_
  refine q_cVi (As := []) (rest := []) cx hB (fun _ h => h) hN hmo kmo (by decide) rfl (r_isGood0 l g hN hB.2.1 mo hmo kmo hf0) q_cX12_130 q_dX12_isGood (by decide) rfl rfl hl.1 rfl (Nat.le_of_ble_eq_true rfl) dX12_mustBeWord_1 (fun y15 H locs f14 ry15 h16 hF hB => ?_)
  obtain ⟨rfl, qy15⟩ := h16
  subst qy15
  refine q_ifeq (tgt := 20) cx ⟨by decide, by decide⟩ dX12_mustBeWord_4 (by decide) (fun c17 => ?_) (fun c17 => ?_)
  · exact absurd c17 (by omega)
  · refine q_ald_n cx dX12_mustBeWord_7 rfl (lv_at hl 0 rfl) ?_
    obtain ⟨x18, ex18⟩ : ∃ zz, q_is (q_z f mo 6) zz := ⟨_, q_isr _⟩
    refine q_gX12_117 cx hB hmo kmo ex18 dX12_mustBeWord_8 (fun lb19 ub19 => ?_)
    refine q_iconst cx dX12_mustBeWord_11 ?_
    refine q_iceq (tgt := 20) cx ⟨by omega, by omega⟩ ⟨by decide, by decide⟩ dX12_mustBeWord_12 (by decide) (fun c20 => ?_) (fun c20 => ?_)
    · refine q_vret cx hr hlk hB dX12_mustBeWord_20 ?_
      exact (Or.inl hf0)
    · refine q_ald_n cx dX12_mustBeWord_15 rfl (lv_at hl 0 rfl) ?_
      refine q_iconst cx dX12_mustBeWord_16 ?_
      refine q_cVv (As := [.int (q_i 1)]) (rest := []) cx hB (fun _ h => h) hN hmo kmo (by decide) rfl (r_wrong0 l g hN hB.2.1 mo hmo kmo 1 (by decide) (by decide) hf0) q_cX12_137 q_dX12_wrong (by decide) rfl rfl hl.1 rfl (Nat.le_of_ble_eq_true rfl) dX12_mustBeWord_17 (fun H locs f21 h23 hF hB => ?_)
      obtain ⟨lz24, uz24⟩ := h23
      have z25 : q_is (q_z f21 mo 6) x18 := Eq.trans (hF.z hmo (by rw [kmo]; rfl)) ex18
      obtain ⟨x26, ex26⟩ : ∃ zz, q_is (q_z f21 mo 8) zz := ⟨_, q_isr _⟩
      obtain ⟨lx26, ux26⟩ := q_isb ex26 ⟨lz24, uz24⟩
      refine q_vret cx hr hlk hB dX12_mustBeWord_20 ?_
      exact (Or.inr ⟨(q_isl ex26 (by omega)), (q_isu ex26 (by omega))⟩)
set_option maxHeartbeats 4000000 in
set_option maxRecDepth 100000 in
theorem r_mustBeWord1 (l : Launch) (g : q_G) {K : Nat → Nat} {L : List Nat} (hN : L.Nodup) {f : Nat → va_E} (hT : q_Ty g K L f) (mo : Nat) (hmo : mo ∈ L) (kmo : K mo = 12) (er : Int) (ler : 1 ≤ er) (uer : er ≤ 5) (hf0 : q_is (q_z f mo 8) er) : q_Ct l g K L yX12_mustBeWord cX12_mustBeWord 1 none 1 20 [.ref mo] f [] (q_Pv (fun (f1 : Nat → va_E) => f = f1)) := by
  refine q_ofb (by decide +kernel) hN hT (Nat.le_of_ble_eq_true rfl) ?_
  intro p e s m below meth c ls cx hr hlk hB hl
  have hl : lv_has ls 1 [(0, .ref mo)] := hl
  obtain ⟨H, hH⟩ : ∃ H : Heap, H = s.heap := ⟨_, rfl⟩
  obtain ⟨locs, hlocs⟩ : ∃ z : List Loc, z = [] := ⟨_, rfl⟩
  rw [← hH, ← hlocs] at hB
  rw [← hH, ← hlocs]
  refine q_ald_n cx dX12_mustBeWord_0 rfl (lv_at hl 0 rfl) ?_
  refine q_cVi (As := []) (rest := []) cx hB (fun _ h => h) hN hmo kmo (by decide) rfl (r_isGood1 l g hN hB.2.1 mo hmo kmo er (by omega) (by omega) hf0) q_cX12_130 q_dX12_isGood (by decide) rfl rfl hl.1 rfl (Nat.le_of_ble_eq_true rfl) dX12_mustBeWord_1 (fun y6 H locs f5 ry6 h7 hF hB => ?_)
  obtain ⟨rfl, qy6⟩ := h7
  subst qy6
  refine q_ifeq (tgt := 20) cx ⟨by decide, by decide⟩ dX12_mustBeWord_4 (by decide) (fun c8 => ?_) (fun c8 => ?_)
  · refine q_vret cx hr hlk hB dX12_mustBeWord_20 ?_
    exact rfl
  · exact absurd c8 (by omega)
set_option maxHeartbeats 4000000 in
set_option maxRecDepth 100000 in
theorem r_named (l : Launch) (g : q_G) {K : Nat → Nat} {L : List Nat} (hN : L.Nodup) {f : Nat → va_E} (hT : q_Ty g K L f) (mo : Nat) (hmo : mo ∈ L) (kmo : K mo = 12) (sr : Nat) (hsr : sr ∈ L) (ksr : K sr = 151) (nm : Nat) (hnm : nm ∈ L) (knm : K nm = 156) (hr0 : q_ir (q_r f mo 13) sr) (hr1 : q_ir (q_r f mo 18) nm) : q_Ct l g K L yX12_named cX12_named 3 (some .int) 0 0 [.ref mo] f [] (q_Pi (fun (z : Int) (f1 : Nat → va_E) => f = f1 ∧ (-1) ≤ z ∧ z ≤ 9)) := by
  refine q_ofb (by decide +kernel) hN hT (Nat.le_of_ble_eq_true rfl) ?_
  intro p e s m below meth c ls cx hr hlk hB hl
  have hl : lv_has ls 3 [(0, .ref mo)] := hl
  have J4 : ∀ (n : Nat) (v4_1 : Int) (lv4_1 : (-1) ≤ v4_1) (uv4_1 : v4_1 ≤ 9) (v4_2 : Int) (lv4_2 : 0 ≤ v4_2) (uv4_2 : v4_2 ≤ 10) (hq_mo_13 : q_ir (q_r f mo 13) sr) (hq_mo_18 : q_ir (q_r f mo 18) nm) (hmu : (Int.toNat (2147483647 - v4_2)) < n) (H : Heap) (locs : List Loc) (hB : q_B g K L (fun q => q ∈ L) [] f f s H locs) (ls : Array Slot) (hl : lv_has ls 3 [(0, .ref mo), (1, .int (q_i v4_1)), (2, .int (q_i v4_2))]), W p l e { frames := 0, cells := 0, slots := 0, locals := 0 } s m ([.ref mo] : List Value).toArray below meth c H locs 0 0 (MQ below (q_Q g K L [] f (q_Pi (fun (z : Int) (f1 : Nat → va_E) => f = f1 ∧ (-1) ≤ z ∧ z ≤ 9))) ([.ref mo] : List Value).toArray s 0 0 (fun q => q ∈ L)) (F0 m 4 ls []) := by
    intro n
    induction n with
    | zero =>
      intro v4_1 lv4_1 uv4_1 v4_2 lv4_2 uv4_2 hq_mo_13 hq_mo_18 hmu
      exact absurd hmu (Nat.not_lt_zero _)
    | succ n ih4 =>
      intro v4_1 lv4_1 uv4_1 v4_2 lv4_2 uv4_2 hq_mo_13 hq_mo_18 hmu H locs hB ls hl
      refine q_ild_n cx dX12_named_4 rfl (lv_at hl 2 rfl) ?_
      refine q_ald_n cx dX12_named_5 rfl (lv_at hl 0 rfl) ?_
      refine q_gX12_20 cx hB hmo kmo hq_mo_13 dX12_named_6 (fun hb91 kb91 => ?_)
      refine q_iconst cx dX12_named_9 ?_
      obtain ⟨x92, ex92⟩ : ∃ zz, q_is (q_z f sr (Int.toNat 0)) zz := ⟨_, q_isr _⟩
      refine q_iald (lo := 0) (hi := 10) (n := 658) cx hB hsr ksr (by decide) rfl rfl (by decide) (by decide) (by decide) rfl ex92 dX12_named_10 (fun lb93 ub93 => ?_)
      refine q_icge (tgt := 40) cx ⟨by omega, by omega⟩ ⟨by omega, by omega⟩ dX12_named_11 (by decide) (fun c94 => ?_) (fun c94 => ?_)
      · refine q_ild_n cx dX12_named_40 rfl (lv_at hl 1 rfl) ?_
        refine q_iret cx hr hlk hB dX12_named_41 ⟨by omega, by omega⟩ ?_
        exact ⟨rfl, (by omega), (by omega)⟩
      · refine q_ald_n cx dX12_named_14 rfl (lv_at hl 0 rfl) ?_
        refine q_gX12_35 cx hB hmo kmo hq_mo_18 dX12_named_15 (fun hb95 kb95 => ?_)
        refine q_ild_n cx dX12_named_18 rfl (lv_at hl 2 rfl) ?_
        obtain ⟨j96, ej96⟩ : ∃ zz, q_j f nm (Int.toNat v4_2) = zz := ⟨_, rfl⟩
        refine q_lald (n := 10) cx hB hnm knm (by decide) rfl rfl (by omega) (by omega) (by decide) rfl ej96 dX12_named_19 ?_
        refine q_ald_n cx dX12_named_20 rfl (lv_at hl 0 rfl) ?_
        obtain ⟨j97, ej97⟩ : ∃ zz, q_j f mo 12 = zz := ⟨_, rfl⟩
        refine q_gX12_110 cx hB hmo kmo ej97 dX12_named_21 ?_
        refine q_lcmp cx dX12_named_24 (fun y98 ly98 uy98 ey98 gy98 hy98 => ?_)
        refine q_ifne (tgt := 32) cx ⟨by omega, by omega⟩ dX12_named_25 (by decide) (fun c99 => ?_) (fun c99 => ?_)
        · refine q_ild_n cx dX12_named_32 rfl (lv_at hl 1 rfl) ?_
          refine lv_istore_n (lv' := [(1, .int (q_i v4_1)), (0, .ref mo), (2, .int (q_i v4_2))]) cx.1 cx.2.1 dX12_named_33 rfl hl (by decide) rfl (fun ls hl => ?_)
          refine q_iinc (lv' := [(2, .int (q_i (v4_2 + 1))), (1, .int (q_i v4_1)), (0, .ref mo)]) cx dX12_named_34 hl (k := 2) rfl (by decide) rfl (fun ls hl => ?_)
          refine lv_goto (tgt := 4) cx.1 cx.2.1 dX12_named_37 (by decide) ?_
          exact ih4 v4_1 (by omega) (by omega) (v4_2 + 1) (by omega) (by omega) hq_mo_13 hq_mo_18 (by omega) H locs hB ls (lv_sub hl [2, 1, 0] rfl)
        · refine q_ild_n cx dX12_named_28 rfl (lv_at hl 2 rfl) ?_
          refine lv_goto (tgt := 33) cx.1 cx.2.1 dX12_named_29 (by decide) ?_
          refine lv_istore_n (lv' := [(1, .int (q_i v4_2)), (0, .ref mo), (2, .int (q_i v4_2))]) cx.1 cx.2.1 dX12_named_33 rfl hl (by decide) rfl (fun ls hl => ?_)
          refine q_iinc (lv' := [(2, .int (q_i (v4_2 + 1))), (1, .int (q_i v4_2)), (0, .ref mo)]) cx dX12_named_34 hl (k := 2) rfl (by decide) rfl (fun ls hl => ?_)
          refine lv_goto (tgt := 4) cx.1 cx.2.1 dX12_named_37 (by decide) ?_
          exact ih4 v4_2 (by omega) (by omega) (v4_2 + 1) (by omega) (by omega) hq_mo_13 hq_mo_18 (by omega) H locs hB ls (lv_sub hl [2, 1, 0] rfl)
  obtain ⟨H, hH⟩ : ∃ H : Heap, H = s.heap := ⟨_, rfl⟩
  obtain ⟨locs, hlocs⟩ : ∃ z : List Loc, z = [] := ⟨_, rfl⟩
  rw [← hH, ← hlocs] at hB
  rw [← hH, ← hlocs]
  refine q_iconst cx dX12_named_0 ?_
  refine lv_istore_n (lv' := [(1, .int (q_i (-1))), (0, .ref mo)]) cx.1 cx.2.1 dX12_named_1 rfl hl (by decide) rfl (fun ls hl => ?_)
  refine q_iconst cx dX12_named_2 ?_
  refine lv_istore_n (lv' := [(2, .int (q_i 0)), (1, .int (q_i (-1))), (0, .ref mo)]) cx.1 cx.2.1 dX12_named_3 rfl hl (by decide) rfl (fun ls hl => ?_)
  exact J4 ((Int.toNat (2147483647 - 0)) + 1) (-1) (by decide) (by decide) 0 (by decide) (by decide) hr0 hr1 (Nat.lt_succ_self _) H locs hB ls (lv_sub hl [2, 1, 0] rfl)
set_option maxHeartbeats 4000000 in
set_option maxRecDepth 100000 in
theorem r_told0 (l : Launch) (g : q_G) {K : Nat → Nat} {L : List Nat} (hN : L.Nodup) {f : Nat → va_E} (hT : q_Ty g K L f) (mo : Nat) (hmo : mo ∈ L) (kmo : K mo = 12) (sr : Nat) (hsr : sr ∈ L) (ksr : K sr = 151) (nm : Nat) (hnm : nm ∈ L) (knm : K nm = 156) (bu : Nat) (hbu : bu ∈ L) (kbu : K bu = 150) (xp : Int) (lxp : 0 ≤ xp) (uxp : xp ≤ 600) (hf0 : q_is (q_z f mo 8) 0) (hf1 : q_is (q_z f mo 4) xp) (hr0 : q_ir (q_r f mo 13) sr) (hr1 : q_ir (q_r f mo 18) nm) (hr2 : q_ir (q_r f mo 1) bu) : q_Ct l g K L yX12_told cX12_told 2 (some .int) 2 43 [.ref mo] f [(12, 4, 9), (12, 12, 12)] (q_Pi (fun (z : Int) (f1 : Nat → va_E) => (0 ≤ z ∧ z ≤ 9 ∧ q_is (q_z f1 mo 8) 0 ∧ (xp ≤ q_z f1 mo 4) ∧ (k_po (q_z f1 mo 6) (q_z f1 mo 4) xp)) ∨ ((-1) ≤ z ∧ z ≤ 9 ∧ 1 ≤ q_z f1 mo 8 ∧ q_z f1 mo 8 ≤ 5))) := by
  refine q_ofb (by decide +kernel) hN hT (Nat.le_of_ble_eq_true rfl) ?_
  intro p e s m below meth c ls cx hr hlk hB hl
  have hl : lv_has ls 2 [(0, .ref mo)] := hl
  obtain ⟨H, hH⟩ : ∃ H : Heap, H = s.heap := ⟨_, rfl⟩
  obtain ⟨locs, hlocs⟩ : ∃ z : List Loc, z = [] := ⟨_, rfl⟩
  rw [← hH, ← hlocs] at hB
  rw [← hH, ← hlocs]
  refine q_ald_n cx dX12_told_0 rfl (lv_at hl 0 rfl) ?_
  refine q_cVv (As := []) (rest := []) cx hB (fun _ h => h) hN hmo kmo (by decide) rfl (r_mustBeWord0 l g hN hB.2.1 mo hmo kmo hf0) q_cX12_175 q_dX12_mustBeWord (by decide) rfl rfl hl.1 rfl (Nat.le_of_ble_eq_true rfl) dX12_told_1 (fun H locs f71 h73 hF hB => ?_)
  rcases h73 with h74 | h75
  · have z76 := h74
    have z77 : q_is (q_z f71 mo 4) xp := Eq.trans (hF.z hmo (by rw [kmo]; rfl)) hf1
    have z78 : q_ir (q_r f71 mo 13) sr := Eq.trans (hF.r hmo (by rw [kmo]; rfl)) hr0
    have z79 : q_ir (q_r f71 mo 18) nm := Eq.trans (hF.r hmo (by rw [kmo]; rfl)) hr1
    have z80 : q_ir (q_r f71 mo 1) bu := Eq.trans (hF.r hmo (by rw [kmo]; rfl)) hr2
    refine q_ald_n cx dX12_told_4 rfl (lv_at hl 0 rfl) ?_
    refine q_cVi (As := []) (rest := []) cx hB (fun _ h => h) hN hmo kmo (by decide) rfl (r_isGood0 l g hN hB.2.1 mo hmo kmo z76) q_cX12_130 q_dX12_isGood (by decide) rfl rfl hl.1 rfl (Nat.le_of_ble_eq_true rfl) dX12_told_5 (fun y82 H locs f81 ry82 h83 hF hB => ?_)
    obtain ⟨rfl, qy82⟩ := h83
    subst qy82
    refine q_ifeq (tgt := 18) cx ⟨by decide, by decide⟩ dX12_told_8 (by decide) (fun c84 => ?_) (fun c84 => ?_)
    · exact absurd c84 (by omega)
    · refine q_ald_n cx dX12_told_11 rfl (lv_at hl 0 rfl) ?_
      refine q_cVi (As := []) (rest := []) cx hB (fun _ h => h) hN hmo kmo (by decide) rfl (r_named l g hN hB.2.1 mo hmo kmo sr hsr ksr nm hnm knm z78 z79) q_cX12_178 q_dX12_named (by decide) rfl rfl hl.1 rfl (Nat.le_of_ble_eq_true rfl) dX12_told_12 (fun y86 H locs f85 ry86 h87 hF hB => ?_)
      obtain ⟨rfl, ly86, uy86⟩ := h87
      refine lv_goto (tgt := 19) cx.1 cx.2.1 dX12_told_15 (by decide) ?_
      refine lv_istore_n (lv' := [(1, .int (q_i y86)), (0, .ref mo)]) cx.1 cx.2.1 dX12_told_19 rfl hl (by decide) rfl (fun ls hl => ?_)
      refine q_ald_n cx dX12_told_20 rfl (lv_at hl 1 rfl) ?_
      refine q_cVi (As := []) (rest := []) cx hB (fun _ h => h) hN hmo kmo (by decide) rfl (r_isGood0 l g hN hB.2.1 mo hmo kmo z76) q_cX12_130 q_dX12_isGood (by decide) rfl rfl hl.1 rfl (Nat.le_of_ble_eq_true rfl) dX12_told_21 (fun y89 H locs f88 ry89 h90 hF hB => ?_)
      obtain ⟨rfl, qy89⟩ := h90
      subst qy89
      refine q_ifeq (tgt := 37) cx ⟨by decide, by decide⟩ dX12_told_24 (by decide) (fun c91 => ?_) (fun c91 => ?_)
      · exact absurd c91 (by omega)
      · refine q_ild_n cx dX12_told_27 rfl (lv_at hl 0 rfl) ?_
        refine q_iconst cx dX12_told_28 ?_
        refine q_icne (tgt := 37) cx ⟨by omega, by omega⟩ ⟨by decide, by decide⟩ dX12_told_29 (by decide) (fun c92 => ?_) (fun c92 => ?_)
        · refine q_ald_n cx dX12_told_37 rfl (lv_at hl 1 rfl) ?_
          refine q_cVi (As := []) (rest := []) cx hB (fun _ h => h) hN hmo kmo (by decide) rfl (r_isGood0 l g hN hB.2.1 mo hmo kmo z76) q_cX12_130 q_dX12_isGood (by decide) rfl rfl hl.1 rfl (Nat.le_of_ble_eq_true rfl) dX12_told_38 (fun y94 H locs f93 ry94 h95 hF hB => ?_)
          obtain ⟨rfl, qy94⟩ := h95
          subst qy94
          refine q_ifeq (tgt := 48) cx ⟨by decide, by decide⟩ dX12_told_41 (by decide) (fun c96 => ?_) (fun c96 => ?_)
          · exact absurd c96 (by omega)
          · refine q_ald_n cx dX12_told_44 rfl (lv_at hl 1 rfl) ?_
            obtain ⟨x97, ex97⟩ : ∃ zz, q_is (q_z f71 mo 3) zz := ⟨_, q_isr _⟩
            obtain ⟨lx97, ux97⟩ := q_isb ex97 (q_fib hB.2.1 hmo kmo (by decide) rfl)
            refine q_cVv (As := []) (rest := []) cx hB (fun _ h => h) hN hmo kmo (by decide) rfl (r_goOn l g hN hB.2.1 mo hmo kmo bu hbu kbu xp (by omega) (by omega) x97 (by omega) (by omega) z77 ex97 z80) q_cX12_140 q_dX12_goOn (by decide) rfl rfl hl.1 rfl (Nat.le_of_ble_eq_true rfl) dX12_told_45 (fun H locs f98 h100 hF hB => ?_)
            obtain ⟨t101, t102⟩ := h100
            have z103 : q_is (q_z f98 mo 8) 0 := Eq.trans (hF.z hmo (by rw [kmo]; rfl)) z76
            have z104 : q_is (q_z f98 mo 3) x97 := Eq.trans (hF.z hmo (by rw [kmo]; rfl)) ex97
            have z105 : q_ir (q_r f98 mo 13) sr := Eq.trans (hF.r hmo (by rw [kmo]; rfl)) z78
            have z106 : q_ir (q_r f98 mo 18) nm := Eq.trans (hF.r hmo (by rw [kmo]; rfl)) z79
            have z107 : q_ir (q_r f98 mo 1) bu := Eq.trans (hF.r hmo (by rw [kmo]; rfl)) z80
            obtain ⟨x108, ex108⟩ : ∃ zz, q_is (q_z f98 mo 4) zz := ⟨_, q_isr _⟩
            obtain ⟨lx108, ux108⟩ := q_isb ex108 (q_fib hB.2.1 hmo kmo (by decide) rfl)
            obtain ⟨x109, ex109⟩ : ∃ zz, q_is (q_z f98 mo 6) zz := ⟨_, q_isr _⟩
            obtain ⟨lx109, ux109⟩ := q_isb ex109 (q_fib hB.2.1 hmo kmo (by decide) rfl)
            replace t101 := q_isl9 ex108 t101
            replace t102 := k_po_si ex109 ex108 t102
            refine q_ild_n cx dX12_told_48 rfl (lv_at hl 0 rfl) ?_
            refine q_iret cx hr hlk hB dX12_told_49 ⟨by omega, by omega⟩ ?_
            exact (Or.inl ⟨(by omega), (by omega), z103, (q_isl ex108 (by omega)), (k_po_is ex109 ex108 (k_po_mono t102 (by omega)))⟩)
        · refine q_ald_n cx dX12_told_32 rfl (lv_at hl 1 rfl) ?_
          refine q_iconst cx dX12_told_33 ?_
          refine q_cVv (As := [.int (q_i 4)]) (rest := []) cx hB (fun _ h => h) hN hmo kmo (by decide) rfl (r_wrong0 l g hN hB.2.1 mo hmo kmo 4 (by decide) (by decide) z76) q_cX12_137 q_dX12_wrong (by decide) rfl rfl hl.1 rfl (Nat.le_of_ble_eq_true rfl) dX12_told_34 (fun H locs f110 h112 hF hB => ?_)
          obtain ⟨lz113, uz113⟩ := h112
          have z114 : q_is (q_z f110 mo 4) xp := Eq.trans (hF.z hmo (by rw [kmo]; rfl)) z77
          have z115 : q_ir (q_r f110 mo 13) sr := Eq.trans (hF.r hmo (by rw [kmo]; rfl)) z78
          have z116 : q_ir (q_r f110 mo 18) nm := Eq.trans (hF.r hmo (by rw [kmo]; rfl)) z79
          have z117 : q_ir (q_r f110 mo 1) bu := Eq.trans (hF.r hmo (by rw [kmo]; rfl)) z80
          obtain ⟨x118, ex118⟩ : ∃ zz, q_is (q_z f110 mo 8) zz := ⟨_, q_isr _⟩
          obtain ⟨lx118, ux118⟩ := q_isb ex118 ⟨lz113, uz113⟩
          refine q_ald_n cx dX12_told_37 rfl (lv_at hl 1 rfl) ?_
          refine q_cVi (As := []) (rest := []) cx hB (fun _ h => h) hN hmo kmo (by decide) rfl (r_isGood1 l g hN hB.2.1 mo hmo kmo x118 (by omega) (by omega) ex118) q_cX12_130 q_dX12_isGood (by decide) rfl rfl hl.1 rfl (Nat.le_of_ble_eq_true rfl) dX12_told_38 (fun y120 H locs f119 ry120 h121 hF hB => ?_)
          obtain ⟨rfl, qy120⟩ := h121
          subst qy120
          refine q_ifeq (tgt := 48) cx ⟨by decide, by decide⟩ dX12_told_41 (by decide) (fun c122 => ?_) (fun c122 => ?_)
          · refine q_ild_n cx dX12_told_48 rfl (lv_at hl 0 rfl) ?_
            refine q_iret cx hr hlk hB dX12_told_49 ⟨by omega, by omega⟩ ?_
            exact (Or.inr ⟨(by omega), (by omega), (q_isl ex118 (by omega)), (q_isu ex118 (by omega))⟩)
          · exact absurd c122 (by omega)
  · obtain ⟨lz123, uz123⟩ := h75
    have z124 : q_is (q_z f71 mo 4) xp := Eq.trans (hF.z hmo (by rw [kmo]; rfl)) hf1
    have z125 : q_ir (q_r f71 mo 13) sr := Eq.trans (hF.r hmo (by rw [kmo]; rfl)) hr0
    have z126 : q_ir (q_r f71 mo 18) nm := Eq.trans (hF.r hmo (by rw [kmo]; rfl)) hr1
    have z127 : q_ir (q_r f71 mo 1) bu := Eq.trans (hF.r hmo (by rw [kmo]; rfl)) hr2
    obtain ⟨x128, ex128⟩ : ∃ zz, q_is (q_z f71 mo 8) zz := ⟨_, q_isr _⟩
    obtain ⟨lx128, ux128⟩ := q_isb ex128 ⟨lz123, uz123⟩
    refine q_ald_n cx dX12_told_4 rfl (lv_at hl 0 rfl) ?_
    refine q_cVi (As := []) (rest := []) cx hB (fun _ h => h) hN hmo kmo (by decide) rfl (r_isGood1 l g hN hB.2.1 mo hmo kmo x128 (by omega) (by omega) ex128) q_cX12_130 q_dX12_isGood (by decide) rfl rfl hl.1 rfl (Nat.le_of_ble_eq_true rfl) dX12_told_5 (fun y130 H locs f129 ry130 h131 hF hB => ?_)
    obtain ⟨rfl, qy130⟩ := h131
    subst qy130
    refine q_ifeq (tgt := 18) cx ⟨by decide, by decide⟩ dX12_told_8 (by decide) (fun c132 => ?_) (fun c132 => ?_)
    · refine q_iconst cx dX12_told_18 ?_
      refine lv_istore_n (lv' := [(1, .int (q_i (-1))), (0, .ref mo)]) cx.1 cx.2.1 dX12_told_19 rfl hl (by decide) rfl (fun ls hl => ?_)
      refine q_ald_n cx dX12_told_20 rfl (lv_at hl 1 rfl) ?_
      refine q_cVi (As := []) (rest := []) cx hB (fun _ h => h) hN hmo kmo (by decide) rfl (r_isGood1 l g hN hB.2.1 mo hmo kmo x128 (by omega) (by omega) ex128) q_cX12_130 q_dX12_isGood (by decide) rfl rfl hl.1 rfl (Nat.le_of_ble_eq_true rfl) dX12_told_21 (fun y134 H locs f133 ry134 h135 hF hB => ?_)
      obtain ⟨rfl, qy134⟩ := h135
      subst qy134
      refine q_ifeq (tgt := 37) cx ⟨by decide, by decide⟩ dX12_told_24 (by decide) (fun c136 => ?_) (fun c136 => ?_)
      · refine q_ald_n cx dX12_told_37 rfl (lv_at hl 1 rfl) ?_
        refine q_cVi (As := []) (rest := []) cx hB (fun _ h => h) hN hmo kmo (by decide) rfl (r_isGood1 l g hN hB.2.1 mo hmo kmo x128 (by omega) (by omega) ex128) q_cX12_130 q_dX12_isGood (by decide) rfl rfl hl.1 rfl (Nat.le_of_ble_eq_true rfl) dX12_told_38 (fun y138 H locs f137 ry138 h139 hF hB => ?_)
        obtain ⟨rfl, qy138⟩ := h139
        subst qy138
        refine q_ifeq (tgt := 48) cx ⟨by decide, by decide⟩ dX12_told_41 (by decide) (fun c140 => ?_) (fun c140 => ?_)
        · refine q_ild_n cx dX12_told_48 rfl (lv_at hl 0 rfl) ?_
          refine q_iret cx hr hlk hB dX12_told_49 ⟨by decide, by decide⟩ ?_
          exact (Or.inr ⟨(by decide), (by decide), (q_isl ex128 (by omega)), (q_isu ex128 (by omega))⟩)
        · exact absurd c140 (by omega)
      · exact absurd c136 (by omega)
    · exact absurd c132 (by omega)
set_option maxHeartbeats 4000000 in
set_option maxRecDepth 100000 in
theorem r_told1 (l : Launch) (g : q_G) {K : Nat → Nat} {L : List Nat} (hN : L.Nodup) {f : Nat → va_E} (hT : q_Ty g K L f) (mo : Nat) (hmo : mo ∈ L) (kmo : K mo = 12) (er : Int) (ler : 1 ≤ er) (uer : er ≤ 5) (hf0 : q_is (q_z f mo 8) er) : q_Ct l g K L yX12_told cX12_told 2 (some .int) 2 40 [.ref mo] f [] (q_Pi (fun (z : Int) (f1 : Nat → va_E) => f = f1 ∧ z = (-1))) := by
  refine q_ofb (by decide +kernel) hN hT (Nat.le_of_ble_eq_true rfl) ?_
  intro p e s m below meth c ls cx hr hlk hB hl
  have hl : lv_has ls 2 [(0, .ref mo)] := hl
  obtain ⟨H, hH⟩ : ∃ H : Heap, H = s.heap := ⟨_, rfl⟩
  obtain ⟨locs, hlocs⟩ : ∃ z : List Loc, z = [] := ⟨_, rfl⟩
  rw [← hH, ← hlocs] at hB
  rw [← hH, ← hlocs]
  refine q_ald_n cx dX12_told_0 rfl (lv_at hl 0 rfl) ?_
  refine q_cVv (As := []) (rest := []) cx hB (fun _ h => h) hN hmo kmo (by decide) rfl (r_mustBeWord1 l g hN hB.2.1 mo hmo kmo er (by omega) (by omega) hf0) q_cX12_175 q_dX12_mustBeWord (by decide) rfl rfl hl.1 rfl (Nat.le_of_ble_eq_true rfl) dX12_told_1 (fun H locs f16 h18 hF hB => ?_)
  obtain rfl := h18
  refine q_ald_n cx dX12_told_4 rfl (lv_at hl 0 rfl) ?_
  refine q_cVi (As := []) (rest := []) cx hB (fun _ h => h) hN hmo kmo (by decide) rfl (r_isGood1 l g hN hB.2.1 mo hmo kmo er (by omega) (by omega) hf0) q_cX12_130 q_dX12_isGood (by decide) rfl rfl hl.1 rfl (Nat.le_of_ble_eq_true rfl) dX12_told_5 (fun y20 H locs f19 ry20 h21 hF hB => ?_)
  obtain ⟨rfl, qy20⟩ := h21
  subst qy20
  refine q_ifeq (tgt := 18) cx ⟨by decide, by decide⟩ dX12_told_8 (by decide) (fun c22 => ?_) (fun c22 => ?_)
  · refine q_iconst cx dX12_told_18 ?_
    refine lv_istore_n (lv' := [(1, .int (q_i (-1))), (0, .ref mo)]) cx.1 cx.2.1 dX12_told_19 rfl hl (by decide) rfl (fun ls hl => ?_)
    refine q_ald_n cx dX12_told_20 rfl (lv_at hl 1 rfl) ?_
    refine q_cVi (As := []) (rest := []) cx hB (fun _ h => h) hN hmo kmo (by decide) rfl (r_isGood1 l g hN hB.2.1 mo hmo kmo er (by omega) (by omega) hf0) q_cX12_130 q_dX12_isGood (by decide) rfl rfl hl.1 rfl (Nat.le_of_ble_eq_true rfl) dX12_told_21 (fun y24 H locs f23 ry24 h25 hF hB => ?_)
    obtain ⟨rfl, qy24⟩ := h25
    subst qy24
    refine q_ifeq (tgt := 37) cx ⟨by decide, by decide⟩ dX12_told_24 (by decide) (fun c26 => ?_) (fun c26 => ?_)
    · refine q_ald_n cx dX12_told_37 rfl (lv_at hl 1 rfl) ?_
      refine q_cVi (As := []) (rest := []) cx hB (fun _ h => h) hN hmo kmo (by decide) rfl (r_isGood1 l g hN hB.2.1 mo hmo kmo er (by omega) (by omega) hf0) q_cX12_130 q_dX12_isGood (by decide) rfl rfl hl.1 rfl (Nat.le_of_ble_eq_true rfl) dX12_told_38 (fun y28 H locs f27 ry28 h29 hF hB => ?_)
      obtain ⟨rfl, qy28⟩ := h29
      subst qy28
      refine q_ifeq (tgt := 48) cx ⟨by decide, by decide⟩ dX12_told_41 (by decide) (fun c30 => ?_) (fun c30 => ?_)
      · refine q_ild_n cx dX12_told_48 rfl (lv_at hl 0 rfl) ?_
        refine q_iret cx hr hlk hB dX12_told_49 ⟨by decide, by decide⟩ ?_
        exact ⟨rfl, rfl⟩
      · exact absurd c30 (by omega)
    · exact absurd c26 (by omega)
  · exact absurd c22 (by omega)
set_option maxHeartbeats 4000000 in
set_option maxRecDepth 100000 in
theorem r_once0 (l : Launch) (g : q_G) {K : Nat → Nat} {L : List Nat} (hN : L.Nodup) {f : Nat → va_E} (hT : q_Ty g K L f) (mo : Nat) (hmo : mo ∈ L) (kmo : K mo = 12) (a0 : Int) (la0 : 0 ≤ a0) (ua0 : a0 ≤ 2) (bu : Nat) (hbu : bu ∈ L) (kbu : K bu = 150) (xp : Int) (lxp : 0 ≤ xp) (uxp : xp ≤ 600) (hf0 : q_is (q_z f mo 8) 0) (hf1 : q_is (q_z f mo 4) xp) (hr0 : q_ir (q_r f mo 1) bu) : q_Ct l g K L yX12_once cX12_once 2 none 2 43 [.ref mo, .int (q_i a0)] f [(12, 4, 9), (12, 12, 12), (12, 23, 23)] (q_Pv (fun (f1 : Nat → va_E) => (q_is (q_z f1 mo 8) 0 ∧ (xp ≤ q_z f1 mo 4) ∧ (k_po (q_z f1 mo 6) (q_z f1 mo 4) xp)) ∨ (1 ≤ q_z f1 mo 8 ∧ q_z f1 mo 8 ≤ 5))) := by
  refine q_ofb (by decide +kernel) hN hT (Nat.le_of_ble_eq_true rfl) ?_
  intro p e s m below meth c ls cx hr hlk hB hl
  have hl : lv_has ls 2 [(0, .ref mo), (1, .int (q_i a0))] := hl
  obtain ⟨H, hH⟩ : ∃ H : Heap, H = s.heap := ⟨_, rfl⟩
  obtain ⟨locs, hlocs⟩ : ∃ z : List Loc, z = [] := ⟨_, rfl⟩
  rw [← hH, ← hlocs] at hB
  rw [← hH, ← hlocs]
  refine q_ald_n cx dX12_once_0 rfl (lv_at hl 0 rfl) ?_
  obtain ⟨x51, ex51⟩ : ∃ zz, q_is (q_z f mo 23) zz := ⟨_, q_isr _⟩
  refine q_gX12_182 cx hB hmo kmo ex51 dX12_once_1 (fun lb52 ub52 => ?_)
  refine q_ild_n cx dX12_once_4 rfl (lv_at hl 1 rfl) ?_
  refine q_cSi (As := [.int (q_i x51), .int (q_i a0)]) (rest := []) cx hB (fun _ h => h) hN (r_has l g hN hB.2.1 x51 (by omega) (by omega) a0 (by omega) (by omega)) q_cX12_185 q_dX12_has (by decide) rfl rfl hl.1 rfl (Nat.le_of_ble_eq_true rfl) dX12_once_5 (fun y54 H locs f53 ry54 h55 hF hB => ?_)
  obtain ⟨rfl, ly54, uy54⟩ := h55
  refine q_ifeq (tgt := 16) cx ⟨by omega, by omega⟩ dX12_once_8 (by decide) (fun c56 => ?_) (fun c56 => ?_)
  · refine q_ald_n cx dX12_once_16 rfl (lv_at hl 0 rfl) ?_
    refine lv_dup cx.1 cx.2.1 dX12_once_17 rfl ?_
    refine q_gX12_182 cx hB hmo kmo ex51 dX12_once_18 (fun lb57 ub57 => ?_)
    refine q_iconst cx dX12_once_21 ?_
    refine q_ild_n cx dX12_once_22 rfl (lv_at hl 1 rfl) ?_
    refine q_ishl cx dX12_once_23 (fun y58 ry58 ey58 => ?_)
    refine q_ior cx dX12_once_24 (fun y59 ry59 ey59 => ?_)
    refine q_pX12_182 cx hB hmo kmo ⟨by omega, by omega⟩ (by omega) (by omega) rfl dX12_once_25 (fun H locs f60 ef60 z61 hB => ?_)
    have z62 : q_is (q_z f60 mo 8) 0 := by rw [ef60, q_setz (Or.inr (by decide))]; exact hf0
    have z63 : q_is (q_z f60 mo 4) xp := by rw [ef60, q_setz (Or.inr (by decide))]; exact hf1
    have z64 : q_ir (q_r f60 mo 1) bu := by rw [ef60, q_setr (Or.inr (by decide))]; exact hr0
    refine q_ald_n cx dX12_once_28 rfl (lv_at hl 0 rfl) ?_
    refine q_cVi (As := []) (rest := []) cx hB (fun _ h => h) hN hmo kmo (by decide) rfl (r_isGood0 l g hN hB.2.1 mo hmo kmo z62) q_cX12_130 q_dX12_isGood (by decide) rfl rfl hl.1 rfl (Nat.le_of_ble_eq_true rfl) dX12_once_29 (fun y66 H locs f65 ry66 h67 hF hB => ?_)
    obtain ⟨rfl, qy66⟩ := h67
    subst qy66
    refine q_ifeq (tgt := 39) cx ⟨by decide, by decide⟩ dX12_once_32 (by decide) (fun c68 => ?_) (fun c68 => ?_)
    · exact absurd c68 (by omega)
    · refine q_ald_n cx dX12_once_35 rfl (lv_at hl 0 rfl) ?_
      obtain ⟨x69, ex69⟩ : ∃ zz, q_is (q_z f60 mo 3) zz := ⟨_, q_isr _⟩
      obtain ⟨lx69, ux69⟩ := q_isb ex69 (q_fib hB.2.1 hmo kmo (by decide) rfl)
      refine q_cVv (As := []) (rest := []) cx hB (fun _ h => h) hN hmo kmo (by decide) rfl (r_goOn l g hN hB.2.1 mo hmo kmo bu hbu kbu xp (by omega) (by omega) x69 (by omega) (by omega) z63 ex69 z64) q_cX12_140 q_dX12_goOn (by decide) rfl rfl hl.1 rfl (Nat.le_of_ble_eq_true rfl) dX12_once_36 (fun H locs f70 h72 hF hB => ?_)
      obtain ⟨t73, t74⟩ := h72
      have z75 : q_is (q_z f70 mo 8) 0 := Eq.trans (hF.z hmo (by rw [kmo]; rfl)) z62
      have z76 : q_is (q_z f70 mo 23) y59 := Eq.trans (hF.z hmo (by rw [kmo]; rfl)) z61
      have z77 : q_is (q_z f70 mo 3) x69 := Eq.trans (hF.z hmo (by rw [kmo]; rfl)) ex69
      have z78 : q_ir (q_r f70 mo 1) bu := Eq.trans (hF.r hmo (by rw [kmo]; rfl)) z64
      obtain ⟨x79, ex79⟩ : ∃ zz, q_is (q_z f70 mo 4) zz := ⟨_, q_isr _⟩
      obtain ⟨lx79, ux79⟩ := q_isb ex79 (q_fib hB.2.1 hmo kmo (by decide) rfl)
      obtain ⟨x80, ex80⟩ : ∃ zz, q_is (q_z f70 mo 6) zz := ⟨_, q_isr _⟩
      obtain ⟨lx80, ux80⟩ := q_isb ex80 (q_fib hB.2.1 hmo kmo (by decide) rfl)
      replace t73 := q_isl9 ex79 t73
      replace t74 := k_po_si ex80 ex79 t74
      refine q_vret cx hr hlk hB dX12_once_39 ?_
      exact (Or.inl ⟨z75, (q_isl ex79 (by omega)), (k_po_is ex80 ex79 (k_po_mono t74 (by omega)))⟩)
  · refine q_ald_n cx dX12_once_11 rfl (lv_at hl 0 rfl) ?_
    refine q_iconst cx dX12_once_12 ?_
    refine q_cVv (As := [.int (q_i 3)]) (rest := []) cx hB (fun _ h => h) hN hmo kmo (by decide) rfl (r_wrong0 l g hN hB.2.1 mo hmo kmo 3 (by decide) (by decide) hf0) q_cX12_137 q_dX12_wrong (by decide) rfl rfl hl.1 rfl (Nat.le_of_ble_eq_true rfl) dX12_once_13 (fun H locs f81 h83 hF hB => ?_)
    obtain ⟨lz84, uz84⟩ := h83
    have z85 : q_is (q_z f81 mo 4) xp := Eq.trans (hF.z hmo (by rw [kmo]; rfl)) hf1
    have z86 : q_is (q_z f81 mo 23) x51 := Eq.trans (hF.z hmo (by rw [kmo]; rfl)) ex51
    have z87 : q_ir (q_r f81 mo 1) bu := Eq.trans (hF.r hmo (by rw [kmo]; rfl)) hr0
    obtain ⟨x88, ex88⟩ : ∃ zz, q_is (q_z f81 mo 8) zz := ⟨_, q_isr _⟩
    obtain ⟨lx88, ux88⟩ := q_isb ex88 ⟨lz84, uz84⟩
    refine q_ald_n cx dX12_once_16 rfl (lv_at hl 0 rfl) ?_
    refine lv_dup cx.1 cx.2.1 dX12_once_17 rfl ?_
    refine q_gX12_182 cx hB hmo kmo z86 dX12_once_18 (fun lb89 ub89 => ?_)
    refine q_iconst cx dX12_once_21 ?_
    refine q_ild_n cx dX12_once_22 rfl (lv_at hl 1 rfl) ?_
    refine q_ishl cx dX12_once_23 (fun y90 ry90 ey90 => ?_)
    refine q_ior cx dX12_once_24 (fun y91 ry91 ey91 => ?_)
    refine q_pX12_182 cx hB hmo kmo ⟨by omega, by omega⟩ (by omega) (by omega) rfl dX12_once_25 (fun H locs f92 ef92 z93 hB => ?_)
    have z94 : q_is (q_z f92 mo 4) xp := by rw [ef92, q_setz (Or.inr (by decide))]; exact z85
    have z95 : q_is (q_z f92 mo 8) x88 := by rw [ef92, q_setz (Or.inr (by decide))]; exact ex88
    have z96 : q_ir (q_r f92 mo 1) bu := by rw [ef92, q_setr (Or.inr (by decide))]; exact z87
    refine q_ald_n cx dX12_once_28 rfl (lv_at hl 0 rfl) ?_
    refine q_cVi (As := []) (rest := []) cx hB (fun _ h => h) hN hmo kmo (by decide) rfl (r_isGood1 l g hN hB.2.1 mo hmo kmo x88 (by omega) (by omega) z95) q_cX12_130 q_dX12_isGood (by decide) rfl rfl hl.1 rfl (Nat.le_of_ble_eq_true rfl) dX12_once_29 (fun y98 H locs f97 ry98 h99 hF hB => ?_)
    obtain ⟨rfl, qy98⟩ := h99
    subst qy98
    refine q_ifeq (tgt := 39) cx ⟨by decide, by decide⟩ dX12_once_32 (by decide) (fun c100 => ?_) (fun c100 => ?_)
    · refine q_vret cx hr hlk hB dX12_once_39 ?_
      exact (Or.inr ⟨(q_isl z95 (by omega)), (q_isu z95 (by omega))⟩)
    · exact absurd c100 (by omega)
set_option maxHeartbeats 4000000 in
set_option maxRecDepth 100000 in
theorem r_after0 (l : Launch) (g : q_G) {K : Nat → Nat} {L : List Nat} (hN : L.Nodup) {f : Nat → va_E} (hT : q_Ty g K L f) (mo : Nat) (hmo : mo ∈ L) (kmo : K mo = 12) (w0 : Int64) (a1 : Int) (la1 : (-2147483648) ≤ a1) (ua1 : a1 ≤ 2147483647) (b1 : Int) (lb1 : (-2147483648) ≤ b1) (ub1 : b1 ≤ 2147483647) (bu : Nat) (hbu : bu ∈ L) (kbu : K bu = 150) (xp : Int) (lxp : 0 ≤ xp) (uxp : xp ≤ 600) (hf0 : q_is (q_z f mo 8) 0) (hf1 : q_is (q_z f mo 4) xp) (hr0 : q_ir (q_r f mo 1) bu) : q_Ct l g K L yX12_after cX12_after 5 (some .int) 3 70 [.ref mo, .long w0, .int (q_i a1), .int (q_i b1)] f [(12, 4, 9), (12, 12, 12)] (q_Pi (fun (z : Int) (f1 : Nat → va_E) => (q_is (q_z f1 mo 8) 0 ∧ (xp ≤ q_z f1 mo 4) ∧ (k_po (q_z f1 mo 6) (q_z f1 mo 4) xp) ∧ (a1 ≤ z) ∧ (z ≤ b1)) ∨ (1 ≤ q_z f1 mo 8 ∧ q_z f1 mo 8 ≤ 5))) := by
  refine q_ofb (by decide +kernel) hN hT (Nat.le_of_ble_eq_true rfl) ?_
  intro p e s m below meth c ls cx hr hlk hB hl
  have hl : lv_has ls 5 [(0, .ref mo), (1, .long w0), (3, .int (q_i a1)), (4, .int (q_i b1))] := hl
  obtain ⟨H, hH⟩ : ∃ H : Heap, H = s.heap := ⟨_, rfl⟩
  obtain ⟨locs, hlocs⟩ : ∃ z : List Loc, z = [] := ⟨_, rfl⟩
  rw [← hH, ← hlocs] at hB
  rw [← hH, ← hlocs]
  refine q_ald_n cx dX12_after_0 rfl (lv_at hl 0 rfl) ?_
  refine q_lld_n cx dX12_after_1 rfl (lv_at hl 1 rfl) ?_
  refine q_cVv (As := [.long w0]) (rest := []) cx hB (fun _ h => h) hN hmo kmo (by decide) rfl (r_mustWord0 l g hN hB.2.1 mo hmo kmo w0 bu hbu kbu xp (by omega) (by omega) hf0 hf1 hr0) q_cX12_189 q_dX12_mustWord (by decide) rfl rfl hl.1 rfl (Nat.le_of_ble_eq_true rfl) dX12_after_2 (fun H locs f39 h41 hF hB => ?_)
  rcases h41 with h42 | h43
  · obtain ⟨z44, t45, t46, t47⟩ := h42
    have z48 : q_ir (q_r f39 mo 1) bu := Eq.trans (hF.r hmo (by rw [kmo]; rfl)) hr0
    obtain ⟨x49, ex49⟩ : ∃ zz, q_is (q_z f39 mo 4) zz := ⟨_, q_isr _⟩
    obtain ⟨lx49, ux49⟩ := q_isb ex49 (q_fib hB.2.1 hmo kmo (by decide) rfl)
    obtain ⟨x50, ex50⟩ : ∃ zz, q_is (q_z f39 mo 6) zz := ⟨_, q_isr _⟩
    obtain ⟨lx50, ux50⟩ := q_isb ex50 (q_fib hB.2.1 hmo kmo (by decide) rfl)
    replace t45 := q_isl9 ex49 t45
    replace t46 := k_po_si ex50 ex49 t46
    refine q_ald_n cx dX12_after_5 rfl (lv_at hl 0 rfl) ?_
    refine q_ild_n cx dX12_after_6 rfl (lv_at hl 2 rfl) ?_
    refine lv_iload cx.1 cx.2.1 dX12_after_7 (lv_at hl 3 rfl) ?_
    refine q_cVi (As := [.int (q_i a1), .int (q_i b1)]) (rest := []) cx hB (fun _ h => h) hN hmo kmo (by decide) rfl (r_number0 l g hN hB.2.1 mo hmo kmo a1 (by omega) (by omega) b1 (by omega) (by omega) bu hbu kbu x49 (by omega) (by omega) z44 ex49 z48) q_cX12_193 q_dX12_number (by decide) rfl rfl hl.1 rfl (Nat.le_of_ble_eq_true rfl) dX12_after_9 (fun y52 H locs f51 ry52 h53 hF hB => ?_)
    rcases h53 with h54 | h55
    · obtain ⟨z56, t57, t58, t59, t60⟩ := h54
      have z61 : q_ir (q_r f51 mo 1) bu := Eq.trans (hF.r hmo (by rw [kmo]; rfl)) z48
      obtain ⟨x62, ex62⟩ : ∃ zz, q_is (q_z f51 mo 4) zz := ⟨_, q_isr _⟩
      obtain ⟨lx62, ux62⟩ := q_isb ex62 (q_fib hB.2.1 hmo kmo (by decide) rfl)
      obtain ⟨x63, ex63⟩ : ∃ zz, q_is (q_z f51 mo 6) zz := ⟨_, q_isr _⟩
      obtain ⟨lx63, ux63⟩ := q_isb ex63 (q_fib hB.2.1 hmo kmo (by decide) rfl)
      replace t57 := q_isl9 ex62 t57
      replace t58 := k_po_si ex63 ex62 t58
      refine q_iret cx hr hlk hB dX12_after_12 ⟨by omega, by omega⟩ ?_
      exact (Or.inl ⟨z56, (q_isl ex62 (by omega)), (k_po_is ex63 ex62 (k_po_mono t58 (by omega))), (by omega), (by omega)⟩)
    · obtain ⟨lz64, uz64⟩ := h55
      have z65 : q_ir (q_r f51 mo 1) bu := Eq.trans (hF.r hmo (by rw [kmo]; rfl)) z48
      obtain ⟨x66, ex66⟩ : ∃ zz, q_is (q_z f51 mo 8) zz := ⟨_, q_isr _⟩
      obtain ⟨lx66, ux66⟩ := q_isb ex66 ⟨lz64, uz64⟩
      obtain ⟨x67, ex67⟩ : ∃ zz, q_is (q_z f51 mo 4) zz := ⟨_, q_isr _⟩
      obtain ⟨lx67, ux67⟩ := q_isb ex67 (q_fib hB.2.1 hmo kmo (by decide) rfl)
      obtain ⟨x68, ex68⟩ : ∃ zz, q_is (q_z f51 mo 6) zz := ⟨_, q_isr _⟩
      obtain ⟨lx68, ux68⟩ := q_isb ex68 (q_fib hB.2.1 hmo kmo (by decide) rfl)
      refine q_iret cx hr hlk hB dX12_after_12 ⟨by omega, by omega⟩ ?_
      exact (Or.inr ⟨(q_isl ex66 (by omega)), (q_isu ex66 (by omega))⟩)
  · obtain ⟨lz69, uz69⟩ := h43
    have z70 : q_ir (q_r f39 mo 1) bu := Eq.trans (hF.r hmo (by rw [kmo]; rfl)) hr0
    obtain ⟨x71, ex71⟩ : ∃ zz, q_is (q_z f39 mo 8) zz := ⟨_, q_isr _⟩
    obtain ⟨lx71, ux71⟩ := q_isb ex71 ⟨lz69, uz69⟩
    obtain ⟨x72, ex72⟩ : ∃ zz, q_is (q_z f39 mo 4) zz := ⟨_, q_isr _⟩
    obtain ⟨lx72, ux72⟩ := q_isb ex72 (q_fib hB.2.1 hmo kmo (by decide) rfl)
    obtain ⟨x73, ex73⟩ : ∃ zz, q_is (q_z f39 mo 6) zz := ⟨_, q_isr _⟩
    obtain ⟨lx73, ux73⟩ := q_isb ex73 (q_fib hB.2.1 hmo kmo (by decide) rfl)
    refine q_ald_n cx dX12_after_5 rfl (lv_at hl 0 rfl) ?_
    refine q_ild_n cx dX12_after_6 rfl (lv_at hl 2 rfl) ?_
    refine lv_iload cx.1 cx.2.1 dX12_after_7 (lv_at hl 3 rfl) ?_
    refine q_cVi (As := [.int (q_i a1), .int (q_i b1)]) (rest := []) cx hB (fun _ h => h) hN hmo kmo (by decide) rfl (r_number1 l g hN hB.2.1 mo hmo kmo a1 (by omega) (by omega) b1 (by omega) (by omega) x71 (by omega) (by omega) ex71) q_cX12_193 q_dX12_number (by decide) rfl rfl hl.1 rfl (Nat.le_of_ble_eq_true rfl) dX12_after_9 (fun y75 H locs f74 ry75 h76 hF hB => ?_)
    obtain rfl := h76
    refine q_iret cx hr hlk hB dX12_after_12 ⟨by omega, by omega⟩ ?_
    exact (Or.inr ⟨(q_isl ex71 (by omega)), (q_isu ex71 (by omega))⟩)
set_option maxHeartbeats 4000000 in
set_option maxRecDepth 100000 in
theorem r_after1 (l : Launch) (g : q_G) {K : Nat → Nat} {L : List Nat} (hN : L.Nodup) {f : Nat → va_E} (hT : q_Ty g K L f) (mo : Nat) (hmo : mo ∈ L) (kmo : K mo = 12) (w0 : Int64) (a1 : Int) (la1 : (-2147483648) ≤ a1) (ua1 : a1 ≤ 2147483647) (b1 : Int) (lb1 : (-2147483648) ≤ b1) (ub1 : b1 ≤ 2147483647) (er : Int) (ler : 1 ≤ er) (uer : er ≤ 5) (hf0 : q_is (q_z f mo 8) er) : q_Ct l g K L yX12_after cX12_after 5 (some .int) 3 65 [.ref mo, .long w0, .int (q_i a1), .int (q_i b1)] f [] (q_Pi (fun (z : Int) (f1 : Nat → va_E) => f = f1)) := by
  refine q_ofb (by decide +kernel) hN hT (Nat.le_of_ble_eq_true rfl) ?_
  intro p e s m below meth c ls cx hr hlk hB hl
  have hl : lv_has ls 5 [(0, .ref mo), (1, .long w0), (3, .int (q_i a1)), (4, .int (q_i b1))] := hl
  obtain ⟨H, hH⟩ : ∃ H : Heap, H = s.heap := ⟨_, rfl⟩
  obtain ⟨locs, hlocs⟩ : ∃ z : List Loc, z = [] := ⟨_, rfl⟩
  rw [← hH, ← hlocs] at hB
  rw [← hH, ← hlocs]
  refine q_ald_n cx dX12_after_0 rfl (lv_at hl 0 rfl) ?_
  refine q_lld_n cx dX12_after_1 rfl (lv_at hl 1 rfl) ?_
  refine q_cVv (As := [.long w0]) (rest := []) cx hB (fun _ h => h) hN hmo kmo (by decide) rfl (r_mustWord1 l g hN hB.2.1 mo hmo kmo w0 er (by omega) (by omega) hf0) q_cX12_189 q_dX12_mustWord (by decide) rfl rfl hl.1 rfl (Nat.le_of_ble_eq_true rfl) dX12_after_2 (fun H locs f7 h9 hF hB => ?_)
  obtain rfl := h9
  refine q_ald_n cx dX12_after_5 rfl (lv_at hl 0 rfl) ?_
  refine q_ild_n cx dX12_after_6 rfl (lv_at hl 2 rfl) ?_
  refine lv_iload cx.1 cx.2.1 dX12_after_7 (lv_at hl 3 rfl) ?_
  refine q_cVi (As := [.int (q_i a1), .int (q_i b1)]) (rest := []) cx hB (fun _ h => h) hN hmo kmo (by decide) rfl (r_number1 l g hN hB.2.1 mo hmo kmo a1 (by omega) (by omega) b1 (by omega) (by omega) er (by omega) (by omega) hf0) q_cX12_193 q_dX12_number (by decide) rfl rfl hl.1 rfl (Nat.le_of_ble_eq_true rfl) dX12_after_9 (fun y11 H locs f10 ry11 h12 hF hB => ?_)
  obtain rfl := h12
  refine q_iret cx hr hlk hB dX12_after_12 ⟨by omega, by omega⟩ ?_
  exact rfl
set_option maxHeartbeats 4000000 in
set_option maxRecDepth 100000 in
theorem r_setsNode0 (l : Launch) (g : q_G) {K : Nat → Nat} {L : List Nat} (hN : L.Nodup) {f : Nat → va_E} (hT : q_Ty g K L f) (mo : Nat) (hmo : mo ∈ L) (kmo : K mo = 12) (a0 : Int) (la0 : 0 ≤ a0) (ua0 : a0 ≤ 9) (b0 : Int) (lb0 : 0 ≤ b0) (ub0 : b0 ≤ 0) (c0 : Int) (lc0 : 0 ≤ c0) (uc0 : c0 ≤ 59) (sr : Nat) (hsr : sr ∈ L) (ksr : K sr = 151) (hr0 : q_ir (q_r f mo 13) sr) (hgr : q_gr f sr) : q_Ct l g K L yX12_setsNode cX12_setsNode 4 none 1 21 [.ref mo, .int (q_i a0), .int (q_i b0), .int (q_i c0)] f [(151, 10, 82)] (q_Pv (fun (f1 : Nat → va_E) => q_gr f1 sr)) := by
  obtain rfl : b0 = 0 := by omega
  refine q_ofb (by decide +kernel) hN hT (Nat.le_of_ble_eq_true rfl) ?_
  intro p e s m below meth c ls cx hr hlk hB hl
  have hl : lv_has ls 4 [(0, .ref mo), (1, .int (q_i a0)), (2, .int (q_i 0)), (3, .int (q_i c0))] := hl
  obtain ⟨H, hH⟩ : ∃ H : Heap, H = s.heap := ⟨_, rfl⟩
  obtain ⟨locs, hlocs⟩ : ∃ z : List Loc, z = [] := ⟨_, rfl⟩
  rw [← hH, ← hlocs] at hB
  rw [← hH, ← hlocs]
  refine q_ald_n cx dX12_setsNode_0 rfl (lv_at hl 0 rfl) ?_
  refine q_gX12_20 cx hB hmo kmo hr0 dX12_setsNode_1 (fun hb9 kb9 => ?_)
  refine q_ild_n cx dX12_setsNode_4 rfl (lv_at hl 1 rfl) ?_
  refine q_ild_n cx dX12_setsNode_5 rfl (lv_at hl 2 rfl) ?_
  refine q_cSi (As := [.int (q_i a0), .int (q_i 0)]) (rest := [.ref sr]) cx hB (fun _ h => h) hN (r_nodeCell l g hN hB.2.1 a0 (by omega) (by omega) 0 (by decide) (by decide)) q_cX12_172 q_dX12_nodeCell (by decide) rfl rfl hl.1 rfl (Nat.le_of_ble_eq_true rfl) dX12_setsNode_6 (fun y11 H locs f10 ry11 h12 hF hB => ?_)
  obtain ⟨rfl, qy11⟩ := h12
  refine q_ild_n cx dX12_setsNode_9 rfl (lv_at hl 3 rfl) ?_
  refine q_sast cx hB hsr ksr (by omega) (by omega) ⟨by omega, by omega⟩ (q_inWi (lo := 10) (hi := 82) (by decide) (by omega) (by omega)) dX12_setsNode_10 (fun H locs f13 ef13 z14 hB => ?_)
  have z15 : q_ir (q_r f13 mo 13) sr := by rw [ef13, q_setr (Or.inl (fun q => by rw [q, ksr] at kmo; exact absurd kmo (by decide)))]; exact hr0
  have g16 : q_gr f13 sr := q_gr_put hgr ef13 z14 (q_egn (n := a0) (w := 0) (by omega) (by omega) (by omega) (by decide)) (by omega) (by omega)
  refine q_vret cx hr hlk hB dX12_setsNode_11 ?_
  exact g16
set_option maxHeartbeats 4000000 in
set_option maxRecDepth 100000 in
theorem r_setsNode1 (l : Launch) (g : q_G) {K : Nat → Nat} {L : List Nat} (hN : L.Nodup) {f : Nat → va_E} (hT : q_Ty g K L f) (mo : Nat) (hmo : mo ∈ L) (kmo : K mo = 12) (a0 : Int) (la0 : 0 ≤ a0) (ua0 : a0 ≤ 9) (b0 : Int) (lb0 : 1 ≤ b0) (ub0 : b0 ≤ 1) (c0 : Int) (lc0 : 0 ≤ c0) (uc0 : c0 ≤ 59) (sr : Nat) (hsr : sr ∈ L) (ksr : K sr = 151) (hr0 : q_ir (q_r f mo 13) sr) (hgr : q_gr f sr) : q_Ct l g K L yX12_setsNode cX12_setsNode 4 none 1 21 [.ref mo, .int (q_i a0), .int (q_i b0), .int (q_i c0)] f [(151, 11, 83)] (q_Pv (fun (f1 : Nat → va_E) => q_gr f1 sr)) := by
  obtain rfl : b0 = 1 := by omega
  refine q_ofb (by decide +kernel) hN hT (Nat.le_of_ble_eq_true rfl) ?_
  intro p e s m below meth c ls cx hr hlk hB hl
  have hl : lv_has ls 4 [(0, .ref mo), (1, .int (q_i a0)), (2, .int (q_i 1)), (3, .int (q_i c0))] := hl
  obtain ⟨H, hH⟩ : ∃ H : Heap, H = s.heap := ⟨_, rfl⟩
  obtain ⟨locs, hlocs⟩ : ∃ z : List Loc, z = [] := ⟨_, rfl⟩
  rw [← hH, ← hlocs] at hB
  rw [← hH, ← hlocs]
  refine q_ald_n cx dX12_setsNode_0 rfl (lv_at hl 0 rfl) ?_
  refine q_gX12_20 cx hB hmo kmo hr0 dX12_setsNode_1 (fun hb9 kb9 => ?_)
  refine q_ild_n cx dX12_setsNode_4 rfl (lv_at hl 1 rfl) ?_
  refine q_ild_n cx dX12_setsNode_5 rfl (lv_at hl 2 rfl) ?_
  refine q_cSi (As := [.int (q_i a0), .int (q_i 1)]) (rest := [.ref sr]) cx hB (fun _ h => h) hN (r_nodeCell l g hN hB.2.1 a0 (by omega) (by omega) 1 (by decide) (by decide)) q_cX12_172 q_dX12_nodeCell (by decide) rfl rfl hl.1 rfl (Nat.le_of_ble_eq_true rfl) dX12_setsNode_6 (fun y11 H locs f10 ry11 h12 hF hB => ?_)
  obtain ⟨rfl, qy11⟩ := h12
  refine q_ild_n cx dX12_setsNode_9 rfl (lv_at hl 3 rfl) ?_
  refine q_sast cx hB hsr ksr (by omega) (by omega) ⟨by omega, by omega⟩ (q_inWi (lo := 11) (hi := 83) (by decide) (by omega) (by omega)) dX12_setsNode_10 (fun H locs f13 ef13 z14 hB => ?_)
  have z15 : q_ir (q_r f13 mo 13) sr := by rw [ef13, q_setr (Or.inl (fun q => by rw [q, ksr] at kmo; exact absurd kmo (by decide)))]; exact hr0
  have g16 : q_gr f13 sr := q_gr_put hgr ef13 z14 (q_egn (n := a0) (w := 1) (by omega) (by omega) (by omega) (by decide)) (by omega) (by omega)
  refine q_vret cx hr hlk hB dX12_setsNode_11 ?_
  exact g16
set_option maxHeartbeats 4000000 in
set_option maxRecDepth 100000 in
theorem r_setsNode2 (l : Launch) (g : q_G) {K : Nat → Nat} {L : List Nat} (hN : L.Nodup) {f : Nat → va_E} (hT : q_Ty g K L f) (mo : Nat) (hmo : mo ∈ L) (kmo : K mo = 12) (a0 : Int) (la0 : 0 ≤ a0) (ua0 : a0 ≤ 9) (b0 : Int) (lb0 : 2 ≤ b0) (ub0 : b0 ≤ 2) (c0 : Int) (lc0 : (-198) ≤ c0) (uc0 : c0 ≤ 9999) (sr : Nat) (hsr : sr ∈ L) (ksr : K sr = 151) (hr0 : q_ir (q_r f mo 13) sr) (hgr : q_gr f sr) : q_Ct l g K L yX12_setsNode cX12_setsNode 4 none 1 21 [.ref mo, .int (q_i a0), .int (q_i b0), .int (q_i c0)] f [(151, 12, 84)] (q_Pv (fun (f1 : Nat → va_E) => (c0 = q_z f1 sr (Int.toNat (8 * a0 + 12))) ∧ (∀ i : Nat, (i : Int) ≠ 8 * a0 + 12 → q_z f1 sr i = q_z f sr i) ∧ q_gr f1 sr)) := by
  obtain rfl : b0 = 2 := by omega
  refine q_ofb (by decide +kernel) hN hT (Nat.le_of_ble_eq_true rfl) ?_
  intro p e s m below meth c ls cx hr hlk hB hl
  have hl : lv_has ls 4 [(0, .ref mo), (1, .int (q_i a0)), (2, .int (q_i 2)), (3, .int (q_i c0))] := hl
  obtain ⟨H, hH⟩ : ∃ H : Heap, H = s.heap := ⟨_, rfl⟩
  obtain ⟨locs, hlocs⟩ : ∃ z : List Loc, z = [] := ⟨_, rfl⟩
  rw [← hH, ← hlocs] at hB
  rw [← hH, ← hlocs]
  refine q_ald_n cx dX12_setsNode_0 rfl (lv_at hl 0 rfl) ?_
  refine q_gX12_20 cx hB hmo kmo hr0 dX12_setsNode_1 (fun hb9 kb9 => ?_)
  refine q_ild_n cx dX12_setsNode_4 rfl (lv_at hl 1 rfl) ?_
  refine q_ild_n cx dX12_setsNode_5 rfl (lv_at hl 2 rfl) ?_
  refine q_cSi (As := [.int (q_i a0), .int (q_i 2)]) (rest := [.ref sr]) cx hB (fun _ h => h) hN (r_nodeCell l g hN hB.2.1 a0 (by omega) (by omega) 2 (by decide) (by decide)) q_cX12_172 q_dX12_nodeCell (by decide) rfl rfl hl.1 rfl (Nat.le_of_ble_eq_true rfl) dX12_setsNode_6 (fun y11 H locs f10 ry11 h12 hF hB => ?_)
  obtain ⟨rfl, qy11⟩ := h12
  refine q_ild_n cx dX12_setsNode_9 rfl (lv_at hl 3 rfl) ?_
  refine q_sast cx hB hsr ksr (by omega) (by omega) ⟨by omega, by omega⟩ (q_inWi (lo := 12) (hi := 84) (by decide) (by omega) (by omega)) dX12_setsNode_10 (fun H locs f13 ef13 z14 hB => ?_)
  have z15 : q_ir (q_r f13 mo 13) sr := by rw [ef13, q_setr (Or.inl (fun q => by rw [q, ksr] at kmo; exact absurd kmo (by decide)))]; exact hr0
  have g16 : q_gr f13 sr := q_gr_put hgr ef13 z14 (q_egn (n := a0) (w := 2) (by omega) (by omega) (by omega) (by decide)) (by omega) (by omega)
  refine q_vret cx hr hlk hB dX12_setsNode_11 ?_
  exact ⟨(q_zat z14 (by omega)), (k_oth ef13 (by omega) (by omega)), g16⟩
set_option maxHeartbeats 4000000 in
set_option maxRecDepth 100000 in
theorem r_setsNode3 (l : Launch) (g : q_G) {K : Nat → Nat} {L : List Nat} (hN : L.Nodup) {f : Nat → va_E} (hT : q_Ty g K L f) (mo : Nat) (hmo : mo ∈ L) (kmo : K mo = 12) (a0 : Int) (la0 : 0 ≤ a0) (ua0 : a0 ≤ 9) (b0 : Int) (lb0 : 3 ≤ b0) (ub0 : b0 ≤ 3) (c0 : Int) (lc0 : (-2147483648) ≤ c0) (uc0 : c0 ≤ 2147483647) (sr : Nat) (hsr : sr ∈ L) (ksr : K sr = 151) (hr0 : q_ir (q_r f mo 13) sr) (hgr : q_gr f sr) : q_Ct l g K L yX12_setsNode cX12_setsNode 4 none 1 21 [.ref mo, .int (q_i a0), .int (q_i b0), .int (q_i c0)] f [(151, 13, 85)] (q_Pv (fun (f1 : Nat → va_E) => q_gr f1 sr)) := by
  obtain rfl : b0 = 3 := by omega
  refine q_ofb (by decide +kernel) hN hT (Nat.le_of_ble_eq_true rfl) ?_
  intro p e s m below meth c ls cx hr hlk hB hl
  have hl : lv_has ls 4 [(0, .ref mo), (1, .int (q_i a0)), (2, .int (q_i 3)), (3, .int (q_i c0))] := hl
  obtain ⟨H, hH⟩ : ∃ H : Heap, H = s.heap := ⟨_, rfl⟩
  obtain ⟨locs, hlocs⟩ : ∃ z : List Loc, z = [] := ⟨_, rfl⟩
  rw [← hH, ← hlocs] at hB
  rw [← hH, ← hlocs]
  refine q_ald_n cx dX12_setsNode_0 rfl (lv_at hl 0 rfl) ?_
  refine q_gX12_20 cx hB hmo kmo hr0 dX12_setsNode_1 (fun hb9 kb9 => ?_)
  refine q_ild_n cx dX12_setsNode_4 rfl (lv_at hl 1 rfl) ?_
  refine q_ild_n cx dX12_setsNode_5 rfl (lv_at hl 2 rfl) ?_
  refine q_cSi (As := [.int (q_i a0), .int (q_i 3)]) (rest := [.ref sr]) cx hB (fun _ h => h) hN (r_nodeCell l g hN hB.2.1 a0 (by omega) (by omega) 3 (by decide) (by decide)) q_cX12_172 q_dX12_nodeCell (by decide) rfl rfl hl.1 rfl (Nat.le_of_ble_eq_true rfl) dX12_setsNode_6 (fun y11 H locs f10 ry11 h12 hF hB => ?_)
  obtain ⟨rfl, qy11⟩ := h12
  refine q_ild_n cx dX12_setsNode_9 rfl (lv_at hl 3 rfl) ?_
  refine q_sast cx hB hsr ksr (by omega) (by omega) ⟨by omega, by omega⟩ (q_inWi (lo := 13) (hi := 85) (by decide) (by omega) (by omega)) dX12_setsNode_10 (fun H locs f13 ef13 z14 hB => ?_)
  have z15 : q_ir (q_r f13 mo 13) sr := by rw [ef13, q_setr (Or.inl (fun q => by rw [q, ksr] at kmo; exact absurd kmo (by decide)))]; exact hr0
  have g16 : q_gr f13 sr := q_gr_put hgr ef13 z14 (q_egn (n := a0) (w := 3) (by omega) (by omega) (by omega) (by decide)) (by omega) (by omega)
  refine q_vret cx hr hlk hB dX12_setsNode_11 ?_
  exact g16
set_option maxHeartbeats 4000000 in
set_option maxRecDepth 100000 in
theorem r_setsNode4 (l : Launch) (g : q_G) {K : Nat → Nat} {L : List Nat} (hN : L.Nodup) {f : Nat → va_E} (hT : q_Ty g K L f) (mo : Nat) (hmo : mo ∈ L) (kmo : K mo = 12) (a0 : Int) (la0 : 0 ≤ a0) (ua0 : a0 ≤ 9) (b0 : Int) (lb0 : 4 ≤ b0) (ub0 : b0 ≤ 4) (c0 : Int) (lc0 : (-2147483648) ≤ c0) (uc0 : c0 ≤ 2147483647) (sr : Nat) (hsr : sr ∈ L) (ksr : K sr = 151) (hr0 : q_ir (q_r f mo 13) sr) (hgr : q_gr f sr) : q_Ct l g K L yX12_setsNode cX12_setsNode 4 none 1 21 [.ref mo, .int (q_i a0), .int (q_i b0), .int (q_i c0)] f [(151, 14, 86)] (q_Pv (fun (f1 : Nat → va_E) => q_gr f1 sr)) := by
  obtain rfl : b0 = 4 := by omega
  refine q_ofb (by decide +kernel) hN hT (Nat.le_of_ble_eq_true rfl) ?_
  intro p e s m below meth c ls cx hr hlk hB hl
  have hl : lv_has ls 4 [(0, .ref mo), (1, .int (q_i a0)), (2, .int (q_i 4)), (3, .int (q_i c0))] := hl
  obtain ⟨H, hH⟩ : ∃ H : Heap, H = s.heap := ⟨_, rfl⟩
  obtain ⟨locs, hlocs⟩ : ∃ z : List Loc, z = [] := ⟨_, rfl⟩
  rw [← hH, ← hlocs] at hB
  rw [← hH, ← hlocs]
  refine q_ald_n cx dX12_setsNode_0 rfl (lv_at hl 0 rfl) ?_
  refine q_gX12_20 cx hB hmo kmo hr0 dX12_setsNode_1 (fun hb9 kb9 => ?_)
  refine q_ild_n cx dX12_setsNode_4 rfl (lv_at hl 1 rfl) ?_
  refine q_ild_n cx dX12_setsNode_5 rfl (lv_at hl 2 rfl) ?_
  refine q_cSi (As := [.int (q_i a0), .int (q_i 4)]) (rest := [.ref sr]) cx hB (fun _ h => h) hN (r_nodeCell l g hN hB.2.1 a0 (by omega) (by omega) 4 (by decide) (by decide)) q_cX12_172 q_dX12_nodeCell (by decide) rfl rfl hl.1 rfl (Nat.le_of_ble_eq_true rfl) dX12_setsNode_6 (fun y11 H locs f10 ry11 h12 hF hB => ?_)
  obtain ⟨rfl, qy11⟩ := h12
  refine q_ild_n cx dX12_setsNode_9 rfl (lv_at hl 3 rfl) ?_
  refine q_sast cx hB hsr ksr (by omega) (by omega) ⟨by omega, by omega⟩ (q_inWi (lo := 14) (hi := 86) (by decide) (by omega) (by omega)) dX12_setsNode_10 (fun H locs f13 ef13 z14 hB => ?_)
  have z15 : q_ir (q_r f13 mo 13) sr := by rw [ef13, q_setr (Or.inl (fun q => by rw [q, ksr] at kmo; exact absurd kmo (by decide)))]; exact hr0
  have g16 : q_gr f13 sr := q_gr_put hgr ef13 z14 (q_egn (n := a0) (w := 4) (by omega) (by omega) (by omega) (by decide)) (by omega) (by omega)
  refine q_vret cx hr hlk hB dX12_setsNode_11 ?_
  exact g16
set_option maxHeartbeats 4000000 in
set_option maxRecDepth 100000 in
theorem r_setsNode5 (l : Launch) (g : q_G) {K : Nat → Nat} {L : List Nat} (hN : L.Nodup) {f : Nat → va_E} (hT : q_Ty g K L f) (mo : Nat) (hmo : mo ∈ L) (kmo : K mo = 12) (a0 : Int) (la0 : 0 ≤ a0) (ua0 : a0 ≤ 9) (b0 : Int) (lb0 : 5 ≤ b0) (ub0 : b0 ≤ 5) (c0 : Int) (lc0 : (-2147483648) ≤ c0) (uc0 : c0 ≤ 2147483647) (sr : Nat) (hsr : sr ∈ L) (ksr : K sr = 151) (hr0 : q_ir (q_r f mo 13) sr) (hgr : q_gr f sr) : q_Ct l g K L yX12_setsNode cX12_setsNode 4 none 1 21 [.ref mo, .int (q_i a0), .int (q_i b0), .int (q_i c0)] f [(151, 15, 87)] (q_Pv (fun (f1 : Nat → va_E) => q_gr f1 sr)) := by
  obtain rfl : b0 = 5 := by omega
  refine q_ofb (by decide +kernel) hN hT (Nat.le_of_ble_eq_true rfl) ?_
  intro p e s m below meth c ls cx hr hlk hB hl
  have hl : lv_has ls 4 [(0, .ref mo), (1, .int (q_i a0)), (2, .int (q_i 5)), (3, .int (q_i c0))] := hl
  obtain ⟨H, hH⟩ : ∃ H : Heap, H = s.heap := ⟨_, rfl⟩
  obtain ⟨locs, hlocs⟩ : ∃ z : List Loc, z = [] := ⟨_, rfl⟩
  rw [← hH, ← hlocs] at hB
  rw [← hH, ← hlocs]
  refine q_ald_n cx dX12_setsNode_0 rfl (lv_at hl 0 rfl) ?_
  refine q_gX12_20 cx hB hmo kmo hr0 dX12_setsNode_1 (fun hb9 kb9 => ?_)
  refine q_ild_n cx dX12_setsNode_4 rfl (lv_at hl 1 rfl) ?_
  refine q_ild_n cx dX12_setsNode_5 rfl (lv_at hl 2 rfl) ?_
  refine q_cSi (As := [.int (q_i a0), .int (q_i 5)]) (rest := [.ref sr]) cx hB (fun _ h => h) hN (r_nodeCell l g hN hB.2.1 a0 (by omega) (by omega) 5 (by decide) (by decide)) q_cX12_172 q_dX12_nodeCell (by decide) rfl rfl hl.1 rfl (Nat.le_of_ble_eq_true rfl) dX12_setsNode_6 (fun y11 H locs f10 ry11 h12 hF hB => ?_)
  obtain ⟨rfl, qy11⟩ := h12
  refine q_ild_n cx dX12_setsNode_9 rfl (lv_at hl 3 rfl) ?_
  refine q_sast cx hB hsr ksr (by omega) (by omega) ⟨by omega, by omega⟩ (q_inWi (lo := 15) (hi := 87) (by decide) (by omega) (by omega)) dX12_setsNode_10 (fun H locs f13 ef13 z14 hB => ?_)
  have z15 : q_ir (q_r f13 mo 13) sr := by rw [ef13, q_setr (Or.inl (fun q => by rw [q, ksr] at kmo; exact absurd kmo (by decide)))]; exact hr0
  have g16 : q_gr f13 sr := q_gr_put hgr ef13 z14 (q_egn (n := a0) (w := 5) (by omega) (by omega) (by omega) (by decide)) (by omega) (by omega)
  refine q_vret cx hr hlk hB dX12_setsNode_11 ?_
  exact g16
set_option maxHeartbeats 4000000 in
set_option maxRecDepth 100000 in
theorem r_setsNode6 (l : Launch) (g : q_G) {K : Nat → Nat} {L : List Nat} (hN : L.Nodup) {f : Nat → va_E} (hT : q_Ty g K L f) (mo : Nat) (hmo : mo ∈ L) (kmo : K mo = 12) (a0 : Int) (la0 : 0 ≤ a0) (ua0 : a0 ≤ 9) (b0 : Int) (lb0 : 6 ≤ b0) (ub0 : b0 ≤ 6) (c0 : Int) (lc0 : (-2147483648) ≤ c0) (uc0 : c0 ≤ 2147483647) (sr : Nat) (hsr : sr ∈ L) (ksr : K sr = 151) (hr0 : q_ir (q_r f mo 13) sr) (hgr : q_gr f sr) : q_Ct l g K L yX12_setsNode cX12_setsNode 4 none 1 21 [.ref mo, .int (q_i a0), .int (q_i b0), .int (q_i c0)] f [(151, 16, 88)] (q_Pv (fun (f1 : Nat → va_E) => q_gr f1 sr)) := by
  obtain rfl : b0 = 6 := by omega
  refine q_ofb (by decide +kernel) hN hT (Nat.le_of_ble_eq_true rfl) ?_
  intro p e s m below meth c ls cx hr hlk hB hl
  have hl : lv_has ls 4 [(0, .ref mo), (1, .int (q_i a0)), (2, .int (q_i 6)), (3, .int (q_i c0))] := hl
  obtain ⟨H, hH⟩ : ∃ H : Heap, H = s.heap := ⟨_, rfl⟩
  obtain ⟨locs, hlocs⟩ : ∃ z : List Loc, z = [] := ⟨_, rfl⟩
  rw [← hH, ← hlocs] at hB
  rw [← hH, ← hlocs]
  refine q_ald_n cx dX12_setsNode_0 rfl (lv_at hl 0 rfl) ?_
  refine q_gX12_20 cx hB hmo kmo hr0 dX12_setsNode_1 (fun hb9 kb9 => ?_)
  refine q_ild_n cx dX12_setsNode_4 rfl (lv_at hl 1 rfl) ?_
  refine q_ild_n cx dX12_setsNode_5 rfl (lv_at hl 2 rfl) ?_
  refine q_cSi (As := [.int (q_i a0), .int (q_i 6)]) (rest := [.ref sr]) cx hB (fun _ h => h) hN (r_nodeCell l g hN hB.2.1 a0 (by omega) (by omega) 6 (by decide) (by decide)) q_cX12_172 q_dX12_nodeCell (by decide) rfl rfl hl.1 rfl (Nat.le_of_ble_eq_true rfl) dX12_setsNode_6 (fun y11 H locs f10 ry11 h12 hF hB => ?_)
  obtain ⟨rfl, qy11⟩ := h12
  refine q_ild_n cx dX12_setsNode_9 rfl (lv_at hl 3 rfl) ?_
  refine q_sast cx hB hsr ksr (by omega) (by omega) ⟨by omega, by omega⟩ (q_inWi (lo := 16) (hi := 88) (by decide) (by omega) (by omega)) dX12_setsNode_10 (fun H locs f13 ef13 z14 hB => ?_)
  have z15 : q_ir (q_r f13 mo 13) sr := by rw [ef13, q_setr (Or.inl (fun q => by rw [q, ksr] at kmo; exact absurd kmo (by decide)))]; exact hr0
  have g16 : q_gr f13 sr := q_gr_put hgr ef13 z14 (q_egn (n := a0) (w := 6) (by omega) (by omega) (by omega) (by decide)) (by omega) (by omega)
  refine q_vret cx hr hlk hB dX12_setsNode_11 ?_
  exact g16
set_option maxHeartbeats 4000000 in
set_option maxRecDepth 100000 in
theorem r_setsNode7 (l : Launch) (g : q_G) {K : Nat → Nat} {L : List Nat} (hN : L.Nodup) {f : Nat → va_E} (hT : q_Ty g K L f) (mo : Nat) (hmo : mo ∈ L) (kmo : K mo = 12) (a0 : Int) (la0 : 0 ≤ a0) (ua0 : a0 ≤ 9) (b0 : Int) (lb0 : 7 ≤ b0) (ub0 : b0 ≤ 7) (c0 : Int) (lc0 : (-2147483648) ≤ c0) (uc0 : c0 ≤ 2147483647) (sr : Nat) (hsr : sr ∈ L) (ksr : K sr = 151) (hr0 : q_ir (q_r f mo 13) sr) (hgr : q_gr f sr) : q_Ct l g K L yX12_setsNode cX12_setsNode 4 none 1 21 [.ref mo, .int (q_i a0), .int (q_i b0), .int (q_i c0)] f [(151, 17, 89)] (q_Pv (fun (f1 : Nat → va_E) => q_gr f1 sr)) := by
  obtain rfl : b0 = 7 := by omega
  refine q_ofb (by decide +kernel) hN hT (Nat.le_of_ble_eq_true rfl) ?_
  intro p e s m below meth c ls cx hr hlk hB hl
  have hl : lv_has ls 4 [(0, .ref mo), (1, .int (q_i a0)), (2, .int (q_i 7)), (3, .int (q_i c0))] := hl
  obtain ⟨H, hH⟩ : ∃ H : Heap, H = s.heap := ⟨_, rfl⟩
  obtain ⟨locs, hlocs⟩ : ∃ z : List Loc, z = [] := ⟨_, rfl⟩
  rw [← hH, ← hlocs] at hB
  rw [← hH, ← hlocs]
  refine q_ald_n cx dX12_setsNode_0 rfl (lv_at hl 0 rfl) ?_
  refine q_gX12_20 cx hB hmo kmo hr0 dX12_setsNode_1 (fun hb9 kb9 => ?_)
  refine q_ild_n cx dX12_setsNode_4 rfl (lv_at hl 1 rfl) ?_
  refine q_ild_n cx dX12_setsNode_5 rfl (lv_at hl 2 rfl) ?_
  refine q_cSi (As := [.int (q_i a0), .int (q_i 7)]) (rest := [.ref sr]) cx hB (fun _ h => h) hN (r_nodeCell l g hN hB.2.1 a0 (by omega) (by omega) 7 (by decide) (by decide)) q_cX12_172 q_dX12_nodeCell (by decide) rfl rfl hl.1 rfl (Nat.le_of_ble_eq_true rfl) dX12_setsNode_6 (fun y11 H locs f10 ry11 h12 hF hB => ?_)
  obtain ⟨rfl, qy11⟩ := h12
  refine q_ild_n cx dX12_setsNode_9 rfl (lv_at hl 3 rfl) ?_
  refine q_sast cx hB hsr ksr (by omega) (by omega) ⟨by omega, by omega⟩ (q_inWi (lo := 17) (hi := 89) (by decide) (by omega) (by omega)) dX12_setsNode_10 (fun H locs f13 ef13 z14 hB => ?_)
  have z15 : q_ir (q_r f13 mo 13) sr := by rw [ef13, q_setr (Or.inl (fun q => by rw [q, ksr] at kmo; exact absurd kmo (by decide)))]; exact hr0
  have g16 : q_gr f13 sr := q_gr_put hgr ef13 z14 (q_egn (n := a0) (w := 7) (by omega) (by omega) (by omega) (by decide)) (by omega) (by omega)
  refine q_vret cx hr hlk hB dX12_setsNode_11 ?_
  exact g16
set_option maxHeartbeats 4000000 in
set_option maxRecDepth 100000 in
theorem r_setsNodej (l : Launch) (g : q_G) {K : Nat → Nat} {L : List Nat} (hN : L.Nodup) {f : Nat → va_E} (hT : q_Ty g K L f) (mo : Nat) (hmo : mo ∈ L) (kmo : K mo = 12) (a0 : Int) (la0 : 0 ≤ a0) (ua0 : a0 ≤ 9) (b0 : Int) (lb0 : 0 ≤ b0) (ub0 : b0 ≤ 7) (c0 : Int) (lc0 : (-2147483648) ≤ c0) (uc0 : c0 ≤ 2147483647) (sr : Nat) (hsr : sr ∈ L) (ksr : K sr = 151) (hr0 : q_ir (q_r f mo 13) sr) : q_Ct l g K L yX12_setsNode cX12_setsNode 4 none 1 21 [.ref mo, .int (q_i a0), .int (q_i b0), .int (q_i c0)] f [(151, 10, 89)] (q_Pv (fun (f1 : Nat → va_E) => True)) := by
  refine q_ofb (by decide +kernel) hN hT (Nat.le_of_ble_eq_true rfl) ?_
  intro p e s m below meth c ls cx hr hlk hB hl
  have hl : lv_has ls 4 [(0, .ref mo), (1, .int (q_i a0)), (2, .int (q_i b0)), (3, .int (q_i c0))] := hl
  obtain ⟨H, hH⟩ : ∃ H : Heap, H = s.heap := ⟨_, rfl⟩
  obtain ⟨locs, hlocs⟩ : ∃ z : List Loc, z = [] := ⟨_, rfl⟩
  rw [← hH, ← hlocs] at hB
  rw [← hH, ← hlocs]
  refine q_ald_n cx dX12_setsNode_0 rfl (lv_at hl 0 rfl) ?_
  refine q_gX12_20 cx hB hmo kmo hr0 dX12_setsNode_1 (fun hb8 kb8 => ?_)
  refine q_ild_n cx dX12_setsNode_4 rfl (lv_at hl 1 rfl) ?_
  refine q_ild_n cx dX12_setsNode_5 rfl (lv_at hl 2 rfl) ?_
  refine q_cSi (As := [.int (q_i a0), .int (q_i b0)]) (rest := [.ref sr]) cx hB (fun _ h => h) hN (r_nodeCell l g hN hB.2.1 a0 (by omega) (by omega) b0 (by omega) (by omega)) q_cX12_172 q_dX12_nodeCell (by decide) rfl rfl hl.1 rfl (Nat.le_of_ble_eq_true rfl) dX12_setsNode_6 (fun y10 H locs f9 ry10 h11 hF hB => ?_)
  obtain ⟨rfl, qy10⟩ := h11
  refine q_ild_n cx dX12_setsNode_9 rfl (lv_at hl 3 rfl) ?_
  refine q_sast cx hB hsr ksr (by omega) (by omega) ⟨by omega, by omega⟩ (q_inWi (lo := 10) (hi := 89) (by decide) (by omega) (by omega)) dX12_setsNode_10 (fun H locs f12 ef12 z13 hB => ?_)
  have z14 : q_ir (q_r f12 mo 13) sr := by rw [ef12, q_setr (Or.inl (fun q => by rw [q, ksr] at kmo; exact absurd kmo (by decide)))]; exact hr0
  refine q_vret cx hr hlk hB dX12_setsNode_11 ?_
  trivial
set_option maxHeartbeats 4000000 in
set_option maxRecDepth 100000 in
theorem r_ofLink0 (l : Launch) (g : q_G) {K : Nat → Nat} {L : List Nat} (hN : L.Nodup) {f : Nat → va_E} (hT : q_Ty g K L f) (mo : Nat) (hmo : mo ∈ L) (kmo : K mo = 12) (a0 : Int) (la0 : 0 ≤ a0) (ua0 : a0 ≤ 15) (b0 : Int) (lb0 : 0 ≤ b0) (ub0 : b0 ≤ 0) (sr : Nat) (hsr : sr ∈ L) (ksr : K sr = 151) (hr0 : q_ir (q_r f mo 13) sr) (hgr : q_gr f sr) : q_Ct l g K L yX12_ofLink cX12_ofLink 3 (some .int) 0 0 [.ref mo, .int (q_i a0), .int (q_i b0)] f [] (q_Pi (fun (z : Int) (f1 : Nat → va_E) => f = f1 ∧ 0 ≤ z ∧ z ≤ 9)) := by
  obtain rfl : b0 = 0 := by omega
  refine q_ofb (by decide +kernel) hN hT (Nat.le_of_ble_eq_true rfl) ?_
  intro p e s m below meth c ls cx hr hlk hB hl
  have hl : lv_has ls 3 [(0, .ref mo), (1, .int (q_i a0)), (2, .int (q_i 0))] := hl
  obtain ⟨H, hH⟩ : ∃ H : Heap, H = s.heap := ⟨_, rfl⟩
  obtain ⟨locs, hlocs⟩ : ∃ z : List Loc, z = [] := ⟨_, rfl⟩
  rw [← hH, ← hlocs] at hB
  rw [← hH, ← hlocs]
  refine q_ald_n cx dX12_ofLink_0 rfl (lv_at hl 0 rfl) ?_
  refine q_gX12_20 cx hB hmo kmo hr0 dX12_ofLink_1 (fun hb4 kb4 => ?_)
  refine q_bipush cx dX12_ofLink_4 rfl ?_
  refine q_iconst cx dX12_ofLink_6 ?_
  refine q_ild_n cx dX12_ofLink_7 rfl (lv_at hl 1 rfl) ?_
  refine q_imul cx dX12_ofLink_8 ?_
  refine q_iadd cx dX12_ofLink_9 ?_
  refine q_ild_n cx dX12_ofLink_10 rfl (lv_at hl 2 rfl) ?_
  refine q_iadd cx dX12_ofLink_11 ?_
  obtain ⟨x5, ex5⟩ : ∃ zz, q_is (q_z f sr (Int.toNat ((90 + (5 * a0)) + 0))) zz := ⟨_, q_isr _⟩
  refine q_sald cx hB hsr ksr (by omega) (by omega) ex5 dX12_ofLink_12 (fun rx5 => ?_)
  obtain ⟨lx5, ux5⟩ : 0 ≤ x5 ∧ x5 ≤ 9 := q_isb ex5 (q_gr_at hgr (by omega) (q_egl (n := a0) (w := 0) (by omega) (by omega) (by omega) (by decide)))
  refine q_iret cx hr hlk hB dX12_ofLink_13 ⟨by omega, by omega⟩ ?_
  exact ⟨rfl, (by omega), (by omega)⟩
set_option maxHeartbeats 4000000 in
set_option maxRecDepth 100000 in
theorem r_setsLink0 (l : Launch) (g : q_G) {K : Nat → Nat} {L : List Nat} (hN : L.Nodup) {f : Nat → va_E} (hT : q_Ty g K L f) (mo : Nat) (hmo : mo ∈ L) (kmo : K mo = 12) (a0 : Int) (la0 : 0 ≤ a0) (ua0 : a0 ≤ 15) (b0 : Int) (lb0 : 0 ≤ b0) (ub0 : b0 ≤ 0) (c0 : Int) (lc0 : 0 ≤ c0) (uc0 : c0 ≤ 9) (sr : Nat) (hsr : sr ∈ L) (ksr : K sr = 151) (hr0 : q_ir (q_r f mo 13) sr) (hgr : q_gr f sr) : q_Ct l g K L yX12_setsLink cX12_setsLink 4 none 0 0 [.ref mo, .int (q_i a0), .int (q_i b0), .int (q_i c0)] f [(151, 90, 165)] (q_Pv (fun (f1 : Nat → va_E) => q_gr f1 sr)) := by
  obtain rfl : b0 = 0 := by omega
  refine q_ofb (by decide +kernel) hN hT (Nat.le_of_ble_eq_true rfl) ?_
  intro p e s m below meth c ls cx hr hlk hB hl
  have hl : lv_has ls 4 [(0, .ref mo), (1, .int (q_i a0)), (2, .int (q_i 0)), (3, .int (q_i c0))] := hl
  obtain ⟨H, hH⟩ : ∃ H : Heap, H = s.heap := ⟨_, rfl⟩
  obtain ⟨locs, hlocs⟩ : ∃ z : List Loc, z = [] := ⟨_, rfl⟩
  rw [← hH, ← hlocs] at hB
  rw [← hH, ← hlocs]
  refine q_ald_n cx dX12_setsLink_0 rfl (lv_at hl 0 rfl) ?_
  refine q_gX12_20 cx hB hmo kmo hr0 dX12_setsLink_1 (fun hb6 kb6 => ?_)
  refine q_bipush cx dX12_setsLink_4 rfl ?_
  refine q_iconst cx dX12_setsLink_6 ?_
  refine q_ild_n cx dX12_setsLink_7 rfl (lv_at hl 1 rfl) ?_
  refine q_imul cx dX12_setsLink_8 ?_
  refine q_iadd cx dX12_setsLink_9 ?_
  refine q_ild_n cx dX12_setsLink_10 rfl (lv_at hl 2 rfl) ?_
  refine q_iadd cx dX12_setsLink_11 ?_
  refine q_ild_n cx dX12_setsLink_12 rfl (lv_at hl 3 rfl) ?_
  refine q_sast cx hB hsr ksr (by omega) (by omega) ⟨by omega, by omega⟩ (q_inWi (lo := 90) (hi := 165) (by decide) (by omega) (by omega)) dX12_setsLink_13 (fun H locs f7 ef7 z8 hB => ?_)
  have z9 : q_ir (q_r f7 mo 13) sr := by rw [ef7, q_setr (Or.inl (fun q => by rw [q, ksr] at kmo; exact absurd kmo (by decide)))]; exact hr0
  have g10 : q_gr f7 sr := q_gr_put hgr ef7 z8 (q_egl (n := a0) (w := 0) (by omega) (by omega) (by omega) (by decide)) (by omega) (by omega)
  refine q_vret cx hr hlk hB dX12_setsLink_14 ?_
  exact g10
set_option maxHeartbeats 4000000 in
set_option maxRecDepth 100000 in
theorem r_ofLink1 (l : Launch) (g : q_G) {K : Nat → Nat} {L : List Nat} (hN : L.Nodup) {f : Nat → va_E} (hT : q_Ty g K L f) (mo : Nat) (hmo : mo ∈ L) (kmo : K mo = 12) (a0 : Int) (la0 : 0 ≤ a0) (ua0 : a0 ≤ 15) (b0 : Int) (lb0 : 1 ≤ b0) (ub0 : b0 ≤ 1) (sr : Nat) (hsr : sr ∈ L) (ksr : K sr = 151) (hr0 : q_ir (q_r f mo 13) sr) (hgr : q_gr f sr) : q_Ct l g K L yX12_ofLink cX12_ofLink 3 (some .int) 0 0 [.ref mo, .int (q_i a0), .int (q_i b0)] f [] (q_Pi (fun (z : Int) (f1 : Nat → va_E) => f = f1 ∧ 0 ≤ z ∧ z ≤ 9)) := by
  obtain rfl : b0 = 1 := by omega
  refine q_ofb (by decide +kernel) hN hT (Nat.le_of_ble_eq_true rfl) ?_
  intro p e s m below meth c ls cx hr hlk hB hl
  have hl : lv_has ls 3 [(0, .ref mo), (1, .int (q_i a0)), (2, .int (q_i 1))] := hl
  obtain ⟨H, hH⟩ : ∃ H : Heap, H = s.heap := ⟨_, rfl⟩
  obtain ⟨locs, hlocs⟩ : ∃ z : List Loc, z = [] := ⟨_, rfl⟩
  rw [← hH, ← hlocs] at hB
  rw [← hH, ← hlocs]
  refine q_ald_n cx dX12_ofLink_0 rfl (lv_at hl 0 rfl) ?_
  refine q_gX12_20 cx hB hmo kmo hr0 dX12_ofLink_1 (fun hb4 kb4 => ?_)
  refine q_bipush cx dX12_ofLink_4 rfl ?_
  refine q_iconst cx dX12_ofLink_6 ?_
  refine q_ild_n cx dX12_ofLink_7 rfl (lv_at hl 1 rfl) ?_
  refine q_imul cx dX12_ofLink_8 ?_
  refine q_iadd cx dX12_ofLink_9 ?_
  refine q_ild_n cx dX12_ofLink_10 rfl (lv_at hl 2 rfl) ?_
  refine q_iadd cx dX12_ofLink_11 ?_
  obtain ⟨x5, ex5⟩ : ∃ zz, q_is (q_z f sr (Int.toNat ((90 + (5 * a0)) + 1))) zz := ⟨_, q_isr _⟩
  refine q_sald cx hB hsr ksr (by omega) (by omega) ex5 dX12_ofLink_12 (fun rx5 => ?_)
  obtain ⟨lx5, ux5⟩ : 0 ≤ x5 ∧ x5 ≤ 9 := q_isb ex5 (q_gr_at hgr (by omega) (q_egl (n := a0) (w := 1) (by omega) (by omega) (by omega) (by decide)))
  refine q_iret cx hr hlk hB dX12_ofLink_13 ⟨by omega, by omega⟩ ?_
  exact ⟨rfl, (by omega), (by omega)⟩
set_option maxHeartbeats 4000000 in
set_option maxRecDepth 100000 in
theorem r_setsLink1 (l : Launch) (g : q_G) {K : Nat → Nat} {L : List Nat} (hN : L.Nodup) {f : Nat → va_E} (hT : q_Ty g K L f) (mo : Nat) (hmo : mo ∈ L) (kmo : K mo = 12) (a0 : Int) (la0 : 0 ≤ a0) (ua0 : a0 ≤ 15) (b0 : Int) (lb0 : 1 ≤ b0) (ub0 : b0 ≤ 1) (c0 : Int) (lc0 : 0 ≤ c0) (uc0 : c0 ≤ 9) (sr : Nat) (hsr : sr ∈ L) (ksr : K sr = 151) (hr0 : q_ir (q_r f mo 13) sr) (hgr : q_gr f sr) : q_Ct l g K L yX12_setsLink cX12_setsLink 4 none 0 0 [.ref mo, .int (q_i a0), .int (q_i b0), .int (q_i c0)] f [(151, 91, 166)] (q_Pv (fun (f1 : Nat → va_E) => q_gr f1 sr)) := by
  obtain rfl : b0 = 1 := by omega
  refine q_ofb (by decide +kernel) hN hT (Nat.le_of_ble_eq_true rfl) ?_
  intro p e s m below meth c ls cx hr hlk hB hl
  have hl : lv_has ls 4 [(0, .ref mo), (1, .int (q_i a0)), (2, .int (q_i 1)), (3, .int (q_i c0))] := hl
  obtain ⟨H, hH⟩ : ∃ H : Heap, H = s.heap := ⟨_, rfl⟩
  obtain ⟨locs, hlocs⟩ : ∃ z : List Loc, z = [] := ⟨_, rfl⟩
  rw [← hH, ← hlocs] at hB
  rw [← hH, ← hlocs]
  refine q_ald_n cx dX12_setsLink_0 rfl (lv_at hl 0 rfl) ?_
  refine q_gX12_20 cx hB hmo kmo hr0 dX12_setsLink_1 (fun hb6 kb6 => ?_)
  refine q_bipush cx dX12_setsLink_4 rfl ?_
  refine q_iconst cx dX12_setsLink_6 ?_
  refine q_ild_n cx dX12_setsLink_7 rfl (lv_at hl 1 rfl) ?_
  refine q_imul cx dX12_setsLink_8 ?_
  refine q_iadd cx dX12_setsLink_9 ?_
  refine q_ild_n cx dX12_setsLink_10 rfl (lv_at hl 2 rfl) ?_
  refine q_iadd cx dX12_setsLink_11 ?_
  refine q_ild_n cx dX12_setsLink_12 rfl (lv_at hl 3 rfl) ?_
  refine q_sast cx hB hsr ksr (by omega) (by omega) ⟨by omega, by omega⟩ (q_inWi (lo := 91) (hi := 166) (by decide) (by omega) (by omega)) dX12_setsLink_13 (fun H locs f7 ef7 z8 hB => ?_)
  have z9 : q_ir (q_r f7 mo 13) sr := by rw [ef7, q_setr (Or.inl (fun q => by rw [q, ksr] at kmo; exact absurd kmo (by decide)))]; exact hr0
  have g10 : q_gr f7 sr := q_gr_put hgr ef7 z8 (q_egl (n := a0) (w := 1) (by omega) (by omega) (by omega) (by decide)) (by omega) (by omega)
  refine q_vret cx hr hlk hB dX12_setsLink_14 ?_
  exact g10
