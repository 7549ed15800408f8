set_option maxHeartbeats 4000000 in
set_option maxRecDepth 100000 in
theorem f_mnamedN (l : Launch) (g : q_G) {K : Nat → Nat} {L : List Nat} (hN : L.Nodup) {f : Nat → va_E} (hT : q_Ty g K L f) (B : Nat → Int) (nl9 : List (List Int)) (mo : Nat) (hmo : mo ∈ L) (kmo : K mo = 12) (sr : Nat) (hsr : sr ∈ L) (ksr : K sr = 151) (nm : Nat) (hnm : nm ∈ L) (knm : K nm = 156) (tn : Int) (ltn : 0 ≤ tn) (utn : tn ≤ 600) (ss : Int) (lss : 0 ≤ ss) (uss : ss ≤ 600) (xc : Int) (lxc : 0 ≤ xc) (uxc : xc ≤ 10) (hf0 : q_is (q_z f mo 3) tn) (hf1 : q_is (q_z f mo 5) ss) (hf2 : q_is (q_z f sr 0) xc) (hr0 : q_ir (q_r f mo 13) sr) (hr1 : q_ir (q_r f mo 18) nm) (hp0 : (nl9.length : Int) = xc) (hp1 : tk_k B tn ss = 1) (htr : tk_tr f mo B tn) (hrn : tk_nq f nm nl9) : q_Ct l g K L yX12_named cX12_named 3 (some .int) 0 0 [.ref mo] f [] (q_Pi (fun (z : Int) (f1 : Nat → va_E) => (f = f1 ∧ 0 ≤ z ∧ z ≤ 9 ∧ (tk_ix nl9 (tk_w B tn ss) = some (Int.toNat z)) ∧ (z < xc)) ∨ (f = f1 ∧ z = (-1) ∧ (tk_ix nl9 (tk_w B tn ss) = none)))) := by
  refine q_ofb (by decide +kernel) hN hT (Nat.le_of_ble_eq_true rfl) ?_
  intro p e s m below meth c ls cx hr hlk hB hl
  have hl : lv_has ls 3 [(0, .ref mo)] := hl
  have J4 : ∀ (n : Nat) (v4_1 : Int) (lv4_1 : (-1) ≤ v4_1) (uv4_1 : v4_1 ≤ 9) (v4_2 : Int) (lv4_2 : 0 ≤ v4_2) (uv4_2 : v4_2 ≤ 10) (hj_mo_3 : q_is (q_z f mo 3) tn) (hj_mo_5 : q_is (q_z f mo 5) ss) (hj_sr_0 : q_is (q_z f sr 0) xc) (hq_mo_13 : q_ir (q_r f mo 13) sr) (hq_mo_18 : q_ir (q_r f mo 18) nm) (hrn4 : tk_nq f nm nl9) (htr4 : tk_tr f mo B tn) (hrl4_0 : 0 ≤ 1 * xc + -1 * v4_2 + 0) (hrl4_1 : 1 ≤ 1 * v4_2 + -1 * v4_1 + 0) (hnl9 : tk_lm nl9 (tk_w B tn ss) v4_2 v4_1) (hmu : (Int.toNat (2147483647 - v4_2)) < n) (H : Heap) (locs : List Loc) (hB : q_B g K L (fun q => q ∈ L) [] f f s H locs) (ls : Array Slot) (hl : lv_has ls 3 [(0, .ref mo), (1, .int (q_i v4_1)), (2, .int (q_i v4_2))]), W p l e { frames := 0, cells := 0, slots := 0, locals := 0 } s m ([.ref mo] : List Value).toArray below meth c H locs 0 0 (MQ below (q_Q g K L [] f (q_Pi (fun (z : Int) (f1 : Nat → va_E) => (f = f1 ∧ 0 ≤ z ∧ z ≤ 9 ∧ (tk_ix nl9 (tk_w B tn ss) = some (Int.toNat z)) ∧ (z < xc)) ∨ (f = f1 ∧ z = (-1) ∧ (tk_ix nl9 (tk_w B tn ss) = none))))) ([.ref mo] : List Value).toArray s 0 0 (fun q => q ∈ L)) (F0 m 4 ls []) := by
    intro n
    induction n with
    | zero =>
      intro v4_1 lv4_1 uv4_1 v4_2 lv4_2 uv4_2 hj_mo_3 hj_mo_5 hj_sr_0 hq_mo_13 hq_mo_18 hrn4 htr4 hrl4_0 hrl4_1 hnl9 hmu
      exact absurd hmu (Nat.not_lt_zero _)
    | succ n ih4 =>
      intro v4_1 lv4_1 uv4_1 v4_2 lv4_2 uv4_2 hj_mo_3 hj_mo_5 hj_sr_0 hq_mo_13 hq_mo_18 hrn4 htr4 hrl4_0 hrl4_1 hnl9 hmu H locs hB ls hl
      refine q_ild_n cx dX12_named_4 rfl (lv_at hl 2 rfl) ?_
      refine q_ald_n cx dX12_named_5 rfl (lv_at hl 0 rfl) ?_
      refine q_gX12_20 cx hB hmo kmo hq_mo_13 dX12_named_6 (fun hb100 kb100 => ?_)
      refine q_iconst cx dX12_named_9 ?_
      refine q_iald (lo := 0) (hi := 10) (n := 658) cx hB hsr ksr (by decide) rfl rfl (by decide) (by decide) (by decide) rfl hj_sr_0 dX12_named_10 (fun lb102 ub102 => ?_)
      refine q_icge (tgt := 40) cx ⟨by omega, by omega⟩ ⟨by omega, by omega⟩ dX12_named_11 (by decide) (fun c103 => ?_) (fun c103 => ?_)
      · refine q_ild_n cx dX12_named_40 rfl (lv_at hl 1 rfl) ?_
        by_cases c104 : v4_1 ≤ (-1)
        · refine q_iret cx hr hlk hB dX12_named_41 ⟨by omega, by omega⟩ ?_
          exact (Or.inr ⟨rfl, (by omega), (tk_lq_none hnl9 (by omega) (by omega))⟩)
        · refine q_iret cx hr hlk hB dX12_named_41 ⟨by omega, by omega⟩ ?_
          exact (Or.inl ⟨rfl, (by omega), (by omega), (tk_lq_some hnl9 hrn4 (by omega) (by omega)), (by omega)⟩)
      · refine q_ald_n cx dX12_named_14 rfl (lv_at hl 0 rfl) ?_
        refine q_gX12_35 cx hB hmo kmo hq_mo_18 dX12_named_15 (fun hb105 kb105 => ?_)
        refine q_ild_n cx dX12_named_18 rfl (lv_at hl 2 rfl) ?_
        obtain ⟨j106, ej106⟩ : ∃ zz, q_j f nm (Int.toNat v4_2) = zz := ⟨_, rfl⟩
        refine q_lald (n := 10) cx hB hnm knm (by decide) rfl rfl (by omega) (by omega) (by decide) rfl ej106 dX12_named_19 ?_
        refine q_ald_n cx dX12_named_20 rfl (lv_at hl 0 rfl) ?_
        obtain ⟨j107, ej107⟩ : ∃ zz, q_j f mo 12 = zz := ⟨_, rfl⟩
        refine q_gX12_110 cx hB hmo kmo ej107 dX12_named_21 ?_
        refine q_lcmp cx dX12_named_24 (fun y108 ly108 uy108 ey108 gy108 hy108 => ?_)
        refine q_ifne (tgt := 32) cx ⟨by omega, by omega⟩ dX12_named_25 (by decide) (fun c109 => ?_) (fun c109 => ?_)
        · refine q_ild_n cx dX12_named_32 rfl (lv_at hl 1 rfl) ?_
          refine lv_istore_n (lv' := [(1, .int (q_i v4_1)), (0, .ref mo), (2, .int (q_i v4_2))]) cx.1 cx.2.1 dX12_named_33 rfl hl (by decide) rfl (fun ls hl => ?_)
          refine q_iinc (lv' := [(2, .int (q_i (v4_2 + 1))), (1, .int (q_i v4_1)), (0, .ref mo)]) cx dX12_named_34 hl (k := 2) rfl (by decide) rfl (fun ls hl => ?_)
          refine lv_goto (tgt := 4) cx.1 cx.2.1 dX12_named_37 (by decide) ?_
          exact ih4 v4_1 (by omega) (by omega) (v4_2 + 1) (by omega) (by omega) hj_mo_3 hj_mo_5 hj_sr_0 hq_mo_13 hq_mo_18 hrn4 htr4 (by omega) (by omega) (tk_lq_miss hnl9 hrn4 (by omega) (by omega) ej106 (ej107.symm.trans (tk_tr_w htr4 hj_mo_5 hp1)) gy108 (by omega)) (by omega) H locs hB ls (lv_sub hl [2, 1, 0] rfl)
        · refine q_ild_n cx dX12_named_28 rfl (lv_at hl 2 rfl) ?_
          refine lv_goto (tgt := 33) cx.1 cx.2.1 dX12_named_29 (by decide) ?_
          refine lv_istore_n (lv' := [(1, .int (q_i v4_2)), (0, .ref mo), (2, .int (q_i v4_2))]) cx.1 cx.2.1 dX12_named_33 rfl hl (by decide) rfl (fun ls hl => ?_)
          refine q_iinc (lv' := [(2, .int (q_i (v4_2 + 1))), (1, .int (q_i v4_2)), (0, .ref mo)]) cx dX12_named_34 hl (k := 2) rfl (by decide) rfl (fun ls hl => ?_)
          refine lv_goto (tgt := 4) cx.1 cx.2.1 dX12_named_37 (by decide) ?_
          exact ih4 v4_2 (by omega) (by omega) (v4_2 + 1) (by omega) (by omega) hj_mo_3 hj_mo_5 hj_sr_0 hq_mo_13 hq_mo_18 hrn4 htr4 (by omega) (by omega) (tk_lq_hit hrn4 (by omega) (by omega) ej106 (ej107.symm.trans (tk_tr_w htr4 hj_mo_5 hp1)) gy108 (tk_w_isw lss) (by omega)) (by omega) H locs hB ls (lv_sub hl [2, 1, 0] rfl)
  obtain ⟨H, hH⟩ : ∃ H : Heap, H = s.heap := ⟨_, rfl⟩
  obtain ⟨locs, hlocs⟩ : ∃ z : List Loc, z = [] := ⟨_, rfl⟩
  rw [← hH, ← hlocs] at hB
  rw [← hH, ← hlocs]
  refine q_iconst cx dX12_named_0 ?_
  refine lv_istore_n (lv' := [(1, .int (q_i (-1))), (0, .ref mo)]) cx.1 cx.2.1 dX12_named_1 rfl hl (by decide) rfl (fun ls hl => ?_)
  refine q_iconst cx dX12_named_2 ?_
  refine lv_istore_n (lv' := [(2, .int (q_i 0)), (1, .int (q_i (-1))), (0, .ref mo)]) cx.1 cx.2.1 dX12_named_3 rfl hl (by decide) rfl (fun ls hl => ?_)
  exact J4 ((Int.toNat (2147483647 - 0)) + 1) (-1) (by decide) (by decide) 0 (by decide) (by decide) hf0 hf1 hf2 hr0 hr1 hrn htr (by omega) (by omega) tk_lm_0 (Nat.lt_succ_self _) H locs hB ls (lv_sub hl [2, 1, 0] rfl)
set_option maxHeartbeats 4000000 in
set_option maxRecDepth 100000 in
theorem f_mtoldN (l : Launch) (g : q_G) {K : Nat → Nat} {L : List Nat} (hN : L.Nodup) {f : Nat → va_E} (hT : q_Ty g K L f) (B : Nat → Int) (nl9 : List (List Int)) (mo : Nat) (hmo : mo ∈ L) (kmo : K mo = 12) (sr : Nat) (hsr : sr ∈ L) (ksr : K sr = 151) (nm : Nat) (hnm : nm ∈ L) (knm : K nm = 156) (bu : Nat) (hbu : bu ∈ L) (kbu : K bu = 150) (tn : Int) (ltn : 0 ≤ tn) (utn : tn ≤ 600) (ss : Int) (lss : 0 ≤ ss) (uss : ss ≤ 600) (xc : Int) (lxc : 0 ≤ xc) (uxc : xc ≤ 10) (hf0 : q_is (q_z f mo 3) tn) (hf1 : q_is (q_z f mo 5) ss) (hf2 : q_is (q_z f mo 8) 0) (hf3 : q_is (q_z f mo 9) (-1)) (hf4 : q_is (q_z f sr 0) xc) (hr0 : q_ir (q_r f mo 13) sr) (hr1 : q_ir (q_r f mo 18) nm) (hr2 : q_ir (q_r f mo 1) bu) (hp0 : (nl9.length : Int) = xc) (htr : tk_tr f mo B tn) (hub : tk_ub f bu B tn) (hrn : tk_nq f nm nl9) : q_Ct l g K L yX12_told cX12_told 2 (some .int) 2 43 [.ref mo] f [(12, 4, 9), (12, 12, 12)] (q_Pi (fun (z : Int) (f1 : Nat → va_E) => (0 ≤ z ∧ z ≤ 9 ∧ q_is (q_z f1 mo 8) 0 ∧ q_is (q_z f1 mo 9) (-1) ∧ (tk_who B tn ss nl9 = tk_ok (Int.toNat z)) ∧ (z < xc) ∧ (q_z f1 mo 5 = tk_nx B tn ss) ∧ (tk_tr f1 mo B tn)) ∨ (z = (-1) ∧ 1 ≤ q_z f1 mo 8 ∧ q_z f1 mo 8 ≤ 5 ∧ (tk_who B tn ss nl9 = tk_er (q_z f1 mo 8) (q_z f1 mo 9)) ∧ (tk_tr f1 mo B tn)))) := by
  refine q_ofb (by decide +kernel) hN hT (Nat.le_of_ble_eq_true rfl) ?_
  intro p e s m below meth c ls cx hr hlk hB hl
  have hl : lv_has ls 2 [(0, .ref mo)] := hl
  obtain ⟨H, hH⟩ : ∃ H : Heap, H = s.heap := ⟨_, rfl⟩
  obtain ⟨locs, hlocs⟩ : ∃ z : List Loc, z = [] := ⟨_, rfl⟩
  rw [← hH, ← hlocs] at hB
  rw [← hH, ← hlocs]
  refine q_ald_n cx dX12_told_0 rfl (lv_at hl 0 rfl) ?_
  refine q_cVv (As := []) (rest := []) cx hB (fun _ h => h) hN hmo kmo (by decide) rfl (f_mmustBeWord l g hN hB.2.1 B mo hmo kmo bu hbu kbu tn (by omega) (by omega) ss (by omega) (by omega) hf0 hf1 hf2 hf3 hr2 htr hub) q_cX12_175 q_dX12_mustBeWord (by decide) rfl rfl hl.1 rfl (Nat.le_of_ble_eq_true rfl) dX12_told_1 (fun H locs f106 h108 hF hB => ?_)
  rcases h108 with h109 | h110
  · obtain ⟨z111, z112, z113, z114, t115, g116⟩ := h109
    have z117 : q_is (q_z f106 mo 3) tn := Eq.trans (hF.z hmo (by rw [kmo]; rfl)) hf0
    have z118 : q_is (q_z f106 mo 5) ss := Eq.trans (hF.z hmo (by rw [kmo]; rfl)) hf1
    have z119 : q_is (q_z f106 sr 0) xc := Eq.trans (hF.z hsr (by rw [ksr]; rfl)) hf4
    have z120 : q_ir (q_r f106 mo 13) sr := Eq.trans (hF.r hmo (by rw [kmo]; rfl)) hr0
    have z121 : q_ir (q_r f106 mo 18) nm := Eq.trans (hF.r hmo (by rw [kmo]; rfl)) hr1
    have z122 : q_ir (q_r f106 mo 1) bu := Eq.trans (hF.r hmo (by rw [kmo]; rfl)) hr2
    have g123 : tk_tr f106 mo B tn := tk_tr_tr htr (hF.z hmo (by rw [kmo]; rfl)) (hF.z hmo (by rw [kmo]; rfl)) (hF.z hmo (by rw [kmo]; rfl)) (hF.z hmo (by rw [kmo]; rfl)) (hF.j hmo (by rw [kmo]; rfl))
    have g124 : tk_ub f106 bu B tn := tk_ub_tr hub (fun i9 => hF.z hbu (by rw [kbu]; rfl))
    have g125 : tk_nq f106 nm nl9 := tk_nq_tr hrn (fun i9 => hF.j hnm (by rw [knm]; rfl))
    refine q_ald_n cx dX12_told_4 rfl (lv_at hl 0 rfl) ?_
    refine q_cVi (As := []) (rest := []) cx hB (fun _ h => h) hN hmo kmo (by decide) rfl (f_misGood l g hN hB.2.1 mo hmo kmo z111) q_cX12_130 q_dX12_isGood (by decide) rfl rfl hl.1 rfl (Nat.le_of_ble_eq_true rfl) dX12_told_5 (fun y127 H locs f126 ry127 h128 hF hB => ?_)
    obtain ⟨rfl, qy127⟩ := h128
    subst qy127
    refine q_ifeq (tgt := 18) cx ⟨by decide, by decide⟩ dX12_told_8 (by decide) (fun c129 => ?_) (fun c129 => ?_)
    · exact absurd c129 (by omega)
    · refine q_ald_n cx dX12_told_11 rfl (lv_at hl 0 rfl) ?_
      refine q_cVi (As := []) (rest := []) cx hB (fun _ h => h) hN hmo kmo (by decide) rfl (f_mnamedN l g hN hB.2.1 B nl9 mo hmo kmo sr hsr ksr nm hnm knm tn (by omega) (by omega) ss (by omega) (by omega) xc (by omega) (by omega) z117 z113 z119 z120 z121 hp0 t115 g116 g125) q_cX12_178 q_dX12_named (by decide) rfl rfl hl.1 rfl (Nat.le_of_ble_eq_true rfl) dX12_told_12 (fun y131 H locs f130 ry131 h132 hF hB => ?_)
      rcases h132 with h133 | h134
      · obtain ⟨rfl, ly131, uy131, t135, t136⟩ := h133
        refine lv_goto (tgt := 19) cx.1 cx.2.1 dX12_told_15 (by decide) ?_
        refine lv_istore_n (lv' := [(1, .int (q_i y131)), (0, .ref mo)]) cx.1 cx.2.1 dX12_told_19 rfl hl (by decide) rfl (fun ls hl => ?_)
        refine q_ald_n cx dX12_told_20 rfl (lv_at hl 1 rfl) ?_
        refine q_cVi (As := []) (rest := []) cx hB (fun _ h => h) hN hmo kmo (by decide) rfl (f_misGood l g hN hB.2.1 mo hmo kmo z111) q_cX12_130 q_dX12_isGood (by decide) rfl rfl hl.1 rfl (Nat.le_of_ble_eq_true rfl) dX12_told_21 (fun y138 H locs f137 ry138 h139 hF hB => ?_)
        obtain ⟨rfl, qy138⟩ := h139
        subst qy138
        refine q_ifeq (tgt := 37) cx ⟨by decide, by decide⟩ dX12_told_24 (by decide) (fun c140 => ?_) (fun c140 => ?_)
        · exact absurd c140 (by omega)
        · refine q_ild_n cx dX12_told_27 rfl (lv_at hl 0 rfl) ?_
          refine q_iconst cx dX12_told_28 ?_
          refine q_icne (tgt := 37) cx ⟨by omega, by omega⟩ ⟨by decide, by decide⟩ dX12_told_29 (by decide) (fun c141 => ?_) (fun c141 => ?_)
          · refine q_ald_n cx dX12_told_37 rfl (lv_at hl 1 rfl) ?_
            refine q_cVi (As := []) (rest := []) cx hB (fun _ h => h) hN hmo kmo (by decide) rfl (f_misGood l g hN hB.2.1 mo hmo kmo z111) q_cX12_130 q_dX12_isGood (by decide) rfl rfl hl.1 rfl (Nat.le_of_ble_eq_true rfl) dX12_told_38 (fun y143 H locs f142 ry143 h144 hF hB => ?_)
            obtain ⟨rfl, qy143⟩ := h144
            subst qy143
            refine q_ifeq (tgt := 48) cx ⟨by decide, by decide⟩ dX12_told_41 (by decide) (fun c145 => ?_) (fun c145 => ?_)
            · exact absurd c145 (by omega)
            · refine q_ald_n cx dX12_told_44 rfl (lv_at hl 1 rfl) ?_
              refine q_cVv (As := []) (rest := []) cx hB (fun _ h => h) hN hmo kmo (by decide) rfl (f_mon l g hN hB.2.1 B mo hmo kmo bu hbu kbu tn (by omega) (by omega) ss (by omega) (by omega) z117 z113 z122 g116 g124) q_cX12_140 q_dX12_goOn (by decide) rfl rfl hl.1 rfl (Nat.le_of_ble_eq_true rfl) dX12_told_45 (fun H locs f146 h148 hF hB => ?_)
              obtain ⟨t149, g150⟩ := h148
              have z151 : q_is (q_z f146 mo 3) tn := Eq.trans (hF.z hmo (by rw [kmo]; rfl)) z117
              have z152 : q_is (q_z f146 sr 0) xc := Eq.trans (hF.z hsr (by rw [ksr]; rfl)) z119
              have z153 : q_is (q_z f146 mo 8) 0 := Eq.trans (hF.z hmo (by rw [kmo]; rfl)) z111
              have z154 : q_is (q_z f146 mo 9) (-1) := Eq.trans (hF.z hmo (by rw [kmo]; rfl)) z112
              have z155 : q_ir (q_r f146 mo 13) sr := Eq.trans (hF.r hmo (by rw [kmo]; rfl)) z120
              have z156 : q_ir (q_r f146 mo 18) nm := Eq.trans (hF.r hmo (by rw [kmo]; rfl)) z121
              have z157 : q_ir (q_r f146 mo 1) bu := Eq.trans (hF.r hmo (by rw [kmo]; rfl)) z122
              have g158 : tk_ub f146 bu B tn := tk_ub_tr g124 (fun i9 => hF.z hbu (by rw [kbu]; rfl))
              have g159 : tk_nq f146 nm nl9 := tk_nq_tr g125 (fun i9 => hF.j hnm (by rw [knm]; rfl))
              obtain ⟨x160, ex160⟩ : ∃ zz, q_is (q_z f146 mo 5) zz := ⟨_, q_isr _⟩
              obtain ⟨lx160, ux160⟩ := q_isb ex160 (q_fib hB.2.1 hmo kmo (by decide) rfl)
              obtain ⟨-, l0x160, u0x160, -, -⟩ := tk_tr_n g150 ex160
              refine q_ild_n cx dX12_told_48 rfl (lv_at hl 0 rfl) ?_
              refine q_iret cx hr hlk hB dX12_told_49 ⟨by omega, by omega⟩ ?_
              exact (Or.inl ⟨(by omega), (by omega), z153, z154, (tk_who_ok t115 t135), (by omega), t149, g150⟩)
          · exact absurd c141 (by omega)
      · obtain ⟨rfl, qy131, t161⟩ := h134
        subst qy131
        refine lv_goto (tgt := 19) cx.1 cx.2.1 dX12_told_15 (by decide) ?_
        refine lv_istore_n (lv' := [(1, .int (q_i (-1))), (0, .ref mo)]) cx.1 cx.2.1 dX12_told_19 rfl hl (by decide) rfl (fun ls hl => ?_)
        refine q_ald_n cx dX12_told_20 rfl (lv_at hl 1 rfl) ?_
        refine q_cVi (As := []) (rest := []) cx hB (fun _ h => h) hN hmo kmo (by decide) rfl (f_misGood l g hN hB.2.1 mo hmo kmo z111) q_cX12_130 q_dX12_isGood (by decide) rfl rfl hl.1 rfl (Nat.le_of_ble_eq_true rfl) dX12_told_21 (fun y163 H locs f162 ry163 h164 hF hB => ?_)
        obtain ⟨rfl, qy163⟩ := h164
        subst qy163
        refine q_ifeq (tgt := 37) cx ⟨by decide, by decide⟩ dX12_told_24 (by decide) (fun c165 => ?_) (fun c165 => ?_)
        · exact absurd c165 (by omega)
        · refine q_ild_n cx dX12_told_27 rfl (lv_at hl 0 rfl) ?_
          refine q_iconst cx dX12_told_28 ?_
          refine q_icne (tgt := 37) cx ⟨by decide, by decide⟩ ⟨by decide, by decide⟩ dX12_told_29 (by decide) (fun c166 => ?_) (fun c166 => ?_)
          · exact absurd c166 (by omega)
          · refine q_ald_n cx dX12_told_32 rfl (lv_at hl 1 rfl) ?_
            refine q_iconst cx dX12_told_33 ?_
            refine q_cVv (As := [.int (q_i 4)]) (rest := []) cx hB (fun _ h => h) hN hmo kmo (by decide) rfl (f_mwrongk l g hN hB.2.1 mo hmo kmo 4 (by decide) (by decide) ss (by omega) (by omega) 1 (by decide) (by decide) z113 z114 z111 z112) q_cX12_137 q_dX12_wrong (by decide) rfl rfl hl.1 rfl (Nat.le_of_ble_eq_true rfl) dX12_told_34 (fun H locs f167 h169 hF hB => ?_)
            obtain ⟨z170, z171⟩ := h169
            have z172 : q_is (q_z f167 mo 3) tn := Eq.trans (hF.z hmo (by rw [kmo]; rfl)) z117
            have z173 : q_is (q_z f167 mo 5) ss := Eq.trans (hF.z hmo (by rw [kmo]; rfl)) z113
            have z174 : q_is (q_z f167 sr 0) xc := Eq.trans (hF.z hsr (by rw [ksr]; rfl)) z119
            have z175 : q_is (q_z f167 mo 6) 1 := Eq.trans (hF.z hmo (by rw [kmo]; rfl)) z114
            have z176 : q_ir (q_r f167 mo 13) sr := Eq.trans (hF.r hmo (by rw [kmo]; rfl)) z120
            have z177 : q_ir (q_r f167 mo 18) nm := Eq.trans (hF.r hmo (by rw [kmo]; rfl)) z121
            have z178 : q_ir (q_r f167 mo 1) bu := Eq.trans (hF.r hmo (by rw [kmo]; rfl)) z122
            have g179 : tk_tr f167 mo B tn := tk_tr_tr g116 (hF.z hmo (by rw [kmo]; rfl)) (hF.z hmo (by rw [kmo]; rfl)) (hF.z hmo (by rw [kmo]; rfl)) (hF.z hmo (by rw [kmo]; rfl)) (hF.j hmo (by rw [kmo]; rfl))
            have g180 : tk_ub f167 bu B tn := tk_ub_tr g124 (fun i9 => hF.z hbu (by rw [kbu]; rfl))
            have g181 : tk_nq f167 nm nl9 := tk_nq_tr g125 (fun i9 => hF.j hnm (by rw [knm]; rfl))
            refine q_ald_n cx dX12_told_37 rfl (lv_at hl 1 rfl) ?_
            refine q_cVi (As := []) (rest := []) cx hB (fun _ h => h) hN hmo kmo (by decide) rfl (r_isGood1 l g hN hB.2.1 mo hmo kmo 4 (by decide) (by decide) z170) q_cX12_130 q_dX12_isGood (by decide) rfl rfl hl.1 rfl (Nat.le_of_ble_eq_true rfl) dX12_told_38 (fun y183 H locs f182 ry183 h184 hF hB => ?_)
            obtain ⟨rfl, qy183⟩ := h184
            subst qy183
            refine q_ifeq (tgt := 48) cx ⟨by decide, by decide⟩ dX12_told_41 (by decide) (fun c185 => ?_) (fun c185 => ?_)
            · refine q_ild_n cx dX12_told_48 rfl (lv_at hl 0 rfl) ?_
              refine q_iret cx hr hlk hB dX12_told_49 ⟨by decide, by decide⟩ ?_
              exact (Or.inr ⟨rfl, (q_isl z170 (by omega)), (q_isu z170 (by omega)), (tk_who_e4 t115 t161 z170 z171), g179⟩)
            · exact absurd c185 (by omega)
  · obtain ⟨z186, z187, t188, g189⟩ := h110
    have z190 : q_is (q_z f106 mo 3) tn := Eq.trans (hF.z hmo (by rw [kmo]; rfl)) hf0
    have z191 : q_is (q_z f106 mo 5) ss := Eq.trans (hF.z hmo (by rw [kmo]; rfl)) hf1
    have z192 : q_is (q_z f106 sr 0) xc := Eq.trans (hF.z hsr (by rw [ksr]; rfl)) hf4
    have z193 : q_ir (q_r f106 mo 13) sr := Eq.trans (hF.r hmo (by rw [kmo]; rfl)) hr0
    have z194 : q_ir (q_r f106 mo 18) nm := Eq.trans (hF.r hmo (by rw [kmo]; rfl)) hr1
    have z195 : q_ir (q_r f106 mo 1) bu := Eq.trans (hF.r hmo (by rw [kmo]; rfl)) hr2
    have g196 : tk_tr f106 mo B tn := tk_tr_tr htr (hF.z hmo (by rw [kmo]; rfl)) (hF.z hmo (by rw [kmo]; rfl)) (hF.z hmo (by rw [kmo]; rfl)) (hF.z hmo (by rw [kmo]; rfl)) (hF.j hmo (by rw [kmo]; rfl))
    have g197 : tk_ub f106 bu B tn := tk_ub_tr hub (fun i9 => hF.z hbu (by rw [kbu]; rfl))
    have g198 : tk_nq f106 nm nl9 := tk_nq_tr hrn (fun i9 => hF.j hnm (by rw [knm]; rfl))
    refine q_ald_n cx dX12_told_4 rfl (lv_at hl 0 rfl) ?_
    refine q_cVi (As := []) (rest := []) cx hB (fun _ h => h) hN hmo kmo (by decide) rfl (r_isGood1 l g hN hB.2.1 mo hmo kmo 1 (by decide) (by decide) z186) q_cX12_130 q_dX12_isGood (by decide) rfl rfl hl.1 rfl (Nat.le_of_ble_eq_true rfl) dX12_told_5 (fun y200 H locs f199 ry200 h201 hF hB => ?_)
    obtain ⟨rfl, qy200⟩ := h201
    subst qy200
    refine q_ifeq (tgt := 18) cx ⟨by decide, by decide⟩ dX12_told_8 (by decide) (fun c202 => ?_) (fun c202 => ?_)
    · refine q_iconst cx dX12_told_18 ?_
      refine lv_istore_n (lv' := [(1, .int (q_i (-1))), (0, .ref mo)]) cx.1 cx.2.1 dX12_told_19 rfl hl (by decide) rfl (fun ls hl => ?_)
      refine q_ald_n cx dX12_told_20 rfl (lv_at hl 1 rfl) ?_
      refine q_cVi (As := []) (rest := []) cx hB (fun _ h => h) hN hmo kmo (by decide) rfl (r_isGood1 l g hN hB.2.1 mo hmo kmo 1 (by decide) (by decide) z186) q_cX12_130 q_dX12_isGood (by decide) rfl rfl hl.1 rfl (Nat.le_of_ble_eq_true rfl) dX12_told_21 (fun y204 H locs f203 ry204 h205 hF hB => ?_)
      obtain ⟨rfl, qy204⟩ := h205
      subst qy204
      refine q_ifeq (tgt := 37) cx ⟨by decide, by decide⟩ dX12_told_24 (by decide) (fun c206 => ?_) (fun c206 => ?_)
      · refine q_ald_n cx dX12_told_37 rfl (lv_at hl 1 rfl) ?_
        refine q_cVi (As := []) (rest := []) cx hB (fun _ h => h) hN hmo kmo (by decide) rfl (r_isGood1 l g hN hB.2.1 mo hmo kmo 1 (by decide) (by decide) z186) q_cX12_130 q_dX12_isGood (by decide) rfl rfl hl.1 rfl (Nat.le_of_ble_eq_true rfl) dX12_told_38 (fun y208 H locs f207 ry208 h209 hF hB => ?_)
        obtain ⟨rfl, qy208⟩ := h209
        subst qy208
        refine q_ifeq (tgt := 48) cx ⟨by decide, by decide⟩ dX12_told_41 (by decide) (fun c210 => ?_) (fun c210 => ?_)
        · refine q_ild_n cx dX12_told_48 rfl (lv_at hl 0 rfl) ?_
          refine q_iret cx hr hlk hB dX12_told_49 ⟨by decide, by decide⟩ ?_
          exact (Or.inr ⟨rfl, (q_isl z186 (by omega)), (q_isu z186 (by omega)), (tk_who_e1 t188 z186 z187), g189⟩)
        · exact absurd c210 (by omega)
      · exact absurd c206 (by omega)
    · exact absurd c202 (by omega)
set_option maxHeartbeats 4000000 in
set_option maxRecDepth 100000 in
theorem f_many (l : Launch) (g : q_G) {K : Nat → Nat} {L : List Nat} (hN : L.Nodup) {f : Nat → va_E} (hT : q_Ty g K L f) (B : Nat → Int) (mo : Nat) (hmo : mo ∈ L) (kmo : K mo = 12) (bu : Nat) (hbu : bu ∈ L) (kbu : K bu = 150) (tn : Int) (ltn : 0 ≤ tn) (utn : tn ≤ 600) (ss : Int) (lss : 0 ≤ ss) (uss : ss ≤ 600) (hf0 : q_is (q_z f mo 3) tn) (hf1 : q_is (q_z f mo 5) ss) (hf2 : q_is (q_z f mo 8) 0) (hf3 : q_is (q_z f mo 9) (-1)) (hr0 : q_ir (q_r f mo 1) bu) (htr : tk_tr f mo B tn) (hub : tk_ub f bu B tn) : q_Ct l g K L yX12_any cX12_any 1 (some .int) 3 70 [.ref mo] f [(12, 4, 9), (12, 12, 12)] (q_Pi (fun (z : Int) (f1 : Nat → va_E) => (0 ≤ z ∧ z ≤ 999 ∧ q_is (q_z f1 mo 8) 0 ∧ q_is (q_z f1 mo 9) (-1) ∧ (tk_nm B tn 0 999 ss = tk_ok (q_z f1 mo 5)) ∧ (tk_tr f1 mo B tn)) ∨ (1 ≤ q_z f1 mo 8 ∧ q_z f1 mo 8 ≤ 5 ∧ (tk_nm B tn 0 999 ss = tk_er (q_z f1 mo 8) (q_z f1 mo 9)) ∧ (tk_tr f1 mo B tn)))) := by
  refine q_ofb (by decide +kernel) hN hT (Nat.le_of_ble_eq_true rfl) ?_
  intro p e s m below meth c ls cx hr hlk hB hl
  have hl : lv_has ls 1 [(0, .ref mo)] := hl
  obtain ⟨H, hH⟩ : ∃ H : Heap, H = s.heap := ⟨_, rfl⟩
  obtain ⟨locs, hlocs⟩ : ∃ z : List Loc, z = [] := ⟨_, rfl⟩
  rw [← hH, ← hlocs] at hB
  rw [← hH, ← hlocs]
  refine q_ald_n cx dX12_any_0 rfl (lv_at hl 0 rfl) ?_
  refine q_iconst cx dX12_any_1 ?_
  refine q_sipush cx dX12_any_2 rfl ?_
  refine q_cVi (As := [.int (q_i 0), .int (q_i 999)]) (rest := []) cx hB (fun _ h => h) hN hmo kmo (by decide) rfl (f_mnumber l g hN hB.2.1 B mo hmo kmo 0 (by decide) (by decide) 999 (by decide) (by decide) bu hbu kbu tn (by omega) (by omega) ss (by omega) (by omega) hf0 hf1 hf2 hf3 hr0 htr hub) q_cX12_193 q_dX12_number (by decide) rfl rfl hl.1 rfl (Nat.le_of_ble_eq_true rfl) dX12_any_5 (fun y26 H locs f25 ry26 h27 hF hB => ?_)
  rcases h27 with h28 | h29
  · obtain ⟨z30, z31, t32, t33, t34, g35⟩ := h28
    have z36 : q_is (q_z f25 mo 3) tn := Eq.trans (hF.z hmo (by rw [kmo]; rfl)) hf0
    have z37 : q_ir (q_r f25 mo 1) bu := Eq.trans (hF.r hmo (by rw [kmo]; rfl)) hr0
    have g38 : tk_ub f25 bu B tn := tk_ub_tr hub (fun i9 => hF.z hbu (by rw [kbu]; rfl))
    obtain ⟨x39, ex39⟩ : ∃ zz, q_is (q_z f25 mo 5) zz := ⟨_, q_isr _⟩
    obtain ⟨lx39, ux39⟩ := q_isb ex39 (q_fib hB.2.1 hmo kmo (by decide) rfl)
    obtain ⟨-, l0x39, u0x39, -, -⟩ := tk_tr_n g35 ex39
    refine q_iret cx hr hlk hB dX12_any_8 ⟨by omega, by omega⟩ ?_
    exact (Or.inl ⟨(by omega), (by omega), z30, z31, t32, g35⟩)
  · obtain ⟨lz40, uz40, t41, g42⟩ := h29
    have z43 : q_is (q_z f25 mo 3) tn := Eq.trans (hF.z hmo (by rw [kmo]; rfl)) hf0
    have z44 : q_ir (q_r f25 mo 1) bu := Eq.trans (hF.r hmo (by rw [kmo]; rfl)) hr0
    have g45 : tk_ub f25 bu B tn := tk_ub_tr hub (fun i9 => hF.z hbu (by rw [kbu]; rfl))
    obtain ⟨x46, ex46⟩ : ∃ zz, q_is (q_z f25 mo 8) zz := ⟨_, q_isr _⟩
    obtain ⟨lx46, ux46⟩ := q_isb ex46 ⟨lz40, uz40⟩
    obtain ⟨x47, ex47⟩ : ∃ zz, q_is (q_z f25 mo 5) zz := ⟨_, q_isr _⟩
    obtain ⟨lx47, ux47⟩ := q_isb ex47 (q_fib hB.2.1 hmo kmo (by decide) rfl)
    obtain ⟨x48, ex48⟩ : ∃ zz, q_is (q_z f25 mo 9) zz := ⟨_, q_isr _⟩
    obtain ⟨lx48, ux48⟩ := q_isb ex48 (q_fib hB.2.1 hmo kmo (by decide) rfl)
    obtain ⟨-, l0x47, u0x47, -, -⟩ := tk_tr_n g42 ex47
    refine q_iret cx hr hlk hB dX12_any_8 ⟨by omega, by omega⟩ ?_
    exact (Or.inr ⟨(q_isl ex46 (by omega)), (q_isu ex46 (by omega)), t41, g42⟩)
set_option maxHeartbeats 4000000 in
set_option maxRecDepth 100000 in
theorem f_mcommandHere (l : Launch) (g : q_G) {K : Nat → Nat} {L : List Nat} (hN : L.Nodup) {f : Nat → va_E} (hT : q_Ty g K L f) (B : Nat → Int) (mo : Nat) (hmo : mo ∈ L) (kmo : K mo = 12) (bu : Nat) (hbu : bu ∈ L) (kbu : K bu = 150) (tn : Int) (ltn : 0 ≤ tn) (utn : tn ≤ 600) (ss : Int) (lss : 0 ≤ ss) (uss : ss ≤ 600) (hf0 : q_is (q_z f mo 3) tn) (hf1 : q_is (q_z f mo 5) ss) (hf2 : q_is (q_z f mo 8) 0) (hf3 : q_is (q_z f mo 9) (-1)) (hr0 : q_ir (q_r f mo 1) bu) (htr : tk_tr f mo B tn) (hub : tk_ub f bu B tn) : q_Ct l g K L yX12_commandHere cX12_commandHere 1 (some .int) 1 22 [.ref mo] f [] (q_Pi (fun (z : Int) (f1 : Nat → va_E) => (f = f1 ∧ z = 0 ∧ q_is (q_z f1 mo 6) 1 ∧ (tk_kw B tn ss = 0)) ∨ (f = f1 ∧ z = 1 ∧ q_is (q_z f1 mo 6) 1 ∧ (tk_kw B tn ss = 1)) ∨ (f = f1 ∧ z = 2 ∧ q_is (q_z f1 mo 6) 1 ∧ (tk_kw B tn ss = 2)) ∨ (f = f1 ∧ z = 3 ∧ q_is (q_z f1 mo 6) 1 ∧ (tk_kw B tn ss = 3)) ∨ (f = f1 ∧ z = 4 ∧ q_is (q_z f1 mo 6) 1 ∧ (tk_kw B tn ss = 4)) ∨ (f = f1 ∧ z = 5 ∧ q_is (q_z f1 mo 6) 1 ∧ (tk_kw B tn ss = 5)) ∨ (f = f1 ∧ z = 6 ∧ q_is (q_z f1 mo 6) 1 ∧ (tk_kw B tn ss = 6)) ∨ (f = f1 ∧ z = (-1) ∧ (tk_kw B tn ss = -1)))) := by
  refine q_ofb (by decide +kernel) hN hT (Nat.le_of_ble_eq_true rfl) ?_
  intro p e s m below meth c ls cx hr hlk hB hl
  have hl : lv_has ls 1 [(0, .ref mo)] := hl
  obtain ⟨H, hH⟩ : ∃ H : Heap, H = s.heap := ⟨_, rfl⟩
  obtain ⟨locs, hlocs⟩ : ∃ z : List Loc, z = [] := ⟨_, rfl⟩
  rw [← hH, ← hlocs] at hB
  rw [← hH, ← hlocs]
  refine q_ald_n cx dX12_commandHere_0 rfl (lv_at hl 0 rfl) ?_
  refine lv_ldc2 (v := q_l 664683) cx.1 cx.2.1 cx.2.2.2.1 (cx.2.2.2.2 _ q_h2220) dX12_commandHere_1 ?_
  refine q_cVi (As := [.long (q_l 664683)]) (rest := []) cx hB (fun _ h => h) hN hmo kmo (by decide) rfl (f_misWord l g hN hB.2.1 B tk_wTick mo hmo kmo (q_l 664683) bu hbu kbu tn (by omega) (by omega) ss (by omega) (by omega) hf0 hf1 hf2 hf3 hr0 (by decide +kernel : (q_l 664683) = tk_mw tk_wTick) tk_iTick htr hub) q_cX12_143 q_dX12_isWord (by decide) rfl rfl hl.1 rfl (Nat.le_of_ble_eq_true rfl) dX12_commandHere_4 (fun y72 H locs f71 ry72 h73 hF hB => ?_)
  rcases h73 with h74 | h75
  · obtain ⟨rfl, qy72, z76, t77⟩ := h74
    subst qy72
    refine q_ifeq (tgt := 12) cx ⟨by decide, by decide⟩ dX12_commandHere_7 (by decide) (fun c78 => ?_) (fun c78 => ?_)
    · exact absurd c78 (by omega)
    · refine q_iconst cx dX12_commandHere_10 ?_
      refine q_iret cx hr hlk hB dX12_commandHere_11 ⟨by decide, by decide⟩ ?_
      exact (Or.inl ⟨rfl, rfl, z76, (tk_kw_0 t77)⟩)
  · obtain ⟨rfl, qy72, t79⟩ := h75
    subst qy72
    refine q_ifeq (tgt := 12) cx ⟨by decide, by decide⟩ dX12_commandHere_7 (by decide) (fun c80 => ?_) (fun c80 => ?_)
    · refine q_ald_n cx dX12_commandHere_12 rfl (lv_at hl 0 rfl) ?_
      refine lv_ldc2 (v := q_l 628164) cx.1 cx.2.1 cx.2.2.2.1 (cx.2.2.2.2 _ q_h2221) dX12_commandHere_13 ?_
      refine q_cVi (As := [.long (q_l 628164)]) (rest := []) cx hB (fun _ h => h) hN hmo kmo (by decide) rfl (f_misWord l g hN hB.2.1 B tk_wSend mo hmo kmo (q_l 628164) bu hbu kbu tn (by omega) (by omega) ss (by omega) (by omega) hf0 hf1 hf2 hf3 hr0 (by decide +kernel : (q_l 628164) = tk_mw tk_wSend) tk_iSend htr hub) q_cX12_143 q_dX12_isWord (by decide) rfl rfl hl.1 rfl (Nat.le_of_ble_eq_true rfl) dX12_commandHere_16 (fun y82 H locs f81 ry82 h83 hF hB => ?_)
      rcases h83 with h84 | h85
      · obtain ⟨rfl, qy82, z86, t87⟩ := h84
        subst qy82
        refine q_ifeq (tgt := 24) cx ⟨by decide, by decide⟩ dX12_commandHere_19 (by decide) (fun c88 => ?_) (fun c88 => ?_)
        · exact absurd c88 (by omega)
        · refine q_iconst cx dX12_commandHere_22 ?_
          refine q_iret cx hr hlk hB dX12_commandHere_23 ⟨by decide, by decide⟩ ?_
          exact (Or.inr (Or.inl ⟨rfl, rfl, z86, (tk_kw_1 t79 t87)⟩))
      · obtain ⟨rfl, qy82, t89⟩ := h85
        subst qy82
        refine q_ifeq (tgt := 24) cx ⟨by decide, by decide⟩ dX12_commandHere_19 (by decide) (fun c90 => ?_) (fun c90 => ?_)
        · refine q_ald_n cx dX12_commandHere_24 rfl (lv_at hl 0 rfl) ?_
          refine lv_ldc2 (v := q_l 99724) cx.1 cx.2.1 cx.2.2.2.1 (cx.2.2.2.2 _ q_h2222) dX12_commandHere_25 ?_
          refine q_cVi (As := [.long (q_l 99724)]) (rest := []) cx hB (fun _ h => h) hN hmo kmo (by decide) rfl (f_misWord l g hN hB.2.1 B tk_wCall mo hmo kmo (q_l 99724) bu hbu kbu tn (by omega) (by omega) ss (by omega) (by omega) hf0 hf1 hf2 hf3 hr0 (by decide +kernel : (q_l 99724) = tk_mw tk_wCall) tk_iCall htr hub) q_cX12_143 q_dX12_isWord (by decide) rfl rfl hl.1 rfl (Nat.le_of_ble_eq_true rfl) dX12_commandHere_28 (fun y92 H locs f91 ry92 h93 hF hB => ?_)
          rcases h93 with h94 | h95
          · obtain ⟨rfl, qy92, z96, t97⟩ := h94
            subst qy92
            refine q_ifeq (tgt := 36) cx ⟨by decide, by decide⟩ dX12_commandHere_31 (by decide) (fun c98 => ?_) (fun c98 => ?_)
            · exact absurd c98 (by omega)
            · refine q_iconst cx dX12_commandHere_34 ?_
              refine q_iret cx hr hlk hB dX12_commandHere_35 ⟨by decide, by decide⟩ ?_
              exact (Or.inr (Or.inr (Or.inl ⟨rfl, rfl, z96, (tk_kw_2 t79 t89 t97)⟩)))
          · obtain ⟨rfl, qy92, t99⟩ := h95
            subst qy92
            refine q_ifeq (tgt := 36) cx ⟨by decide, by decide⟩ dX12_commandHere_31 (by decide) (fun c100 => ?_) (fun c100 => ?_)
            · refine q_ald_n cx dX12_commandHere_36 rfl (lv_at hl 0 rfl) ?_
              refine lv_ldc2 (v := q_l 20194516) cx.1 cx.2.1 cx.2.2.2.1 (cx.2.2.2.2 _ q_h1812) dX12_commandHere_37 ?_
              refine q_cVi (As := [.long (q_l 20194516)]) (rest := []) cx hB (fun _ h => h) hN hmo kmo (by decide) rfl (f_misWord l g hN hB.2.1 B tk_wShift mo hmo kmo (q_l 20194516) bu hbu kbu tn (by omega) (by omega) ss (by omega) (by omega) hf0 hf1 hf2 hf3 hr0 (by decide +kernel : (q_l 20194516) = tk_mw tk_wShift) tk_iShift htr hub) q_cX12_143 q_dX12_isWord (by decide) rfl rfl hl.1 rfl (Nat.le_of_ble_eq_true rfl) dX12_commandHere_40 (fun y102 H locs f101 ry102 h103 hF hB => ?_)
              rcases h103 with h104 | h105
              · obtain ⟨rfl, qy102, z106, t107⟩ := h104
                subst qy102
                refine q_ifeq (tgt := 48) cx ⟨by decide, by decide⟩ dX12_commandHere_43 (by decide) (fun c108 => ?_) (fun c108 => ?_)
                · exact absurd c108 (by omega)
                · refine q_iconst cx dX12_commandHere_46 ?_
                  refine q_iret cx hr hlk hB dX12_commandHere_47 ⟨by decide, by decide⟩ ?_
                  exact (Or.inr (Or.inr (Or.inr (Or.inl ⟨rfl, rfl, z106, (tk_kw_3 t79 t89 t99 t107)⟩))))
              · obtain ⟨rfl, qy102, t109⟩ := h105
                subst qy102
                refine q_ifeq (tgt := 48) cx ⟨by decide, by decide⟩ dX12_commandHere_43 (by decide) (fun c110 => ?_) (fun c110 => ?_)
                · refine q_ald_n cx dX12_commandHere_48 rfl (lv_at hl 0 rfl) ?_
                  refine lv_ldc2 (v := q_l 24170600) cx.1 cx.2.1 cx.2.2.2.1 (cx.2.2.2.2 _ q_h2223) dX12_commandHere_49 ?_
                  refine q_cVi (As := [.long (q_l 24170600)]) (rest := []) cx hB (fun _ h => h) hN hmo kmo (by decide) rfl (f_misWord l g hN hB.2.1 B tk_wWatch mo hmo kmo (q_l 24170600) bu hbu kbu tn (by omega) (by omega) ss (by omega) (by omega) hf0 hf1 hf2 hf3 hr0 (by decide +kernel : (q_l 24170600) = tk_mw tk_wWatch) tk_iWatch htr hub) q_cX12_143 q_dX12_isWord (by decide) rfl rfl hl.1 rfl (Nat.le_of_ble_eq_true rfl) dX12_commandHere_52 (fun y112 H locs f111 ry112 h113 hF hB => ?_)
                  rcases h113 with h114 | h115
                  · obtain ⟨rfl, qy112, z116, t117⟩ := h114
                    subst qy112
                    refine q_ifeq (tgt := 60) cx ⟨by decide, by decide⟩ dX12_commandHere_55 (by decide) (fun c118 => ?_) (fun c118 => ?_)
                    · exact absurd c118 (by omega)
                    · refine q_iconst cx dX12_commandHere_58 ?_
                      refine q_iret cx hr hlk hB dX12_commandHere_59 ⟨by decide, by decide⟩ ?_
                      exact (Or.inr (Or.inr (Or.inr (Or.inr (Or.inl ⟨rfl, rfl, z116, (tk_kw_4 t79 t89 t99 t109 t117)⟩)))))
                  · obtain ⟨rfl, qy112, t119⟩ := h115
                    subst qy112
                    refine q_ifeq (tgt := 60) cx ⟨by decide, by decide⟩ dX12_commandHere_55 (by decide) (fun c120 => ?_) (fun c120 => ?_)
                    · refine q_ald_n cx dX12_commandHere_60 rfl (lv_at hl 0 rfl) ?_
                      refine lv_ldc2 (v := q_l 109103333) cx.1 cx.2.1 cx.2.2.2.1 (cx.2.2.2.2 _ q_h2224) dX12_commandHere_61 ?_
                      refine q_cVi (As := [.long (q_l 109103333)]) (rest := []) cx hB (fun _ h => h) hN hmo kmo (by decide) rfl (f_misWord l g hN hB.2.1 B tk_wCharge mo hmo kmo (q_l 109103333) bu hbu kbu tn (by omega) (by omega) ss (by omega) (by omega) hf0 hf1 hf2 hf3 hr0 (by decide +kernel : (q_l 109103333) = tk_mw tk_wCharge) tk_iCharge htr hub) q_cX12_143 q_dX12_isWord (by decide) rfl rfl hl.1 rfl (Nat.le_of_ble_eq_true rfl) dX12_commandHere_64 (fun y122 H locs f121 ry122 h123 hF hB => ?_)
                      rcases h123 with h124 | h125
                      · obtain ⟨rfl, qy122, z126, t127⟩ := h124
                        subst qy122
                        refine q_ifeq (tgt := 72) cx ⟨by decide, by decide⟩ dX12_commandHere_67 (by decide) (fun c128 => ?_) (fun c128 => ?_)
                        · exact absurd c128 (by omega)
                        · refine q_iconst cx dX12_commandHere_70 ?_
                          refine q_iret cx hr hlk hB dX12_commandHere_71 ⟨by decide, by decide⟩ ?_
                          exact (Or.inr (Or.inr (Or.inr (Or.inr (Or.inr (Or.inl ⟨rfl, rfl, z126, (tk_kw_5 t79 t89 t99 t109 t119 t127)⟩))))))
                      · obtain ⟨rfl, qy122, t129⟩ := h125
                        subst qy122
                        refine q_ifeq (tgt := 72) cx ⟨by decide, by decide⟩ dX12_commandHere_67 (by decide) (fun c130 => ?_) (fun c130 => ?_)
                        · refine q_ald_n cx dX12_commandHere_72 rfl (lv_at hl 0 rfl) ?_
                          refine lv_ldc2 (v := q_l 609752116) cx.1 cx.2.1 cx.2.2.2.1 (cx.2.2.2.2 _ q_h2225) dX12_commandHere_73 ?_
                          refine q_cVi (As := [.long (q_l 609752116)]) (rest := []) cx hB (fun _ h => h) hN hmo kmo (by decide) rfl (f_misWord l g hN hB.2.1 B tk_wRepeat mo hmo kmo (q_l 609752116) bu hbu kbu tn (by omega) (by omega) ss (by omega) (by omega) hf0 hf1 hf2 hf3 hr0 (by decide +kernel : (q_l 609752116) = tk_mw tk_wRepeat) tk_iRepeat htr hub) q_cX12_143 q_dX12_isWord (by decide) rfl rfl hl.1 rfl (Nat.le_of_ble_eq_true rfl) dX12_commandHere_76 (fun y132 H locs f131 ry132 h133 hF hB => ?_)
                          rcases h133 with h134 | h135
                          · obtain ⟨rfl, qy132, z136, t137⟩ := h134
                            subst qy132
                            refine q_ifeq (tgt := 87) cx ⟨by decide, by decide⟩ dX12_commandHere_79 (by decide) (fun c138 => ?_) (fun c138 => ?_)
                            · exact absurd c138 (by omega)
                            · refine q_bipush cx dX12_commandHere_82 rfl ?_
                              refine lv_goto (tgt := 88) cx.1 cx.2.1 dX12_commandHere_84 (by decide) ?_
                              refine q_iret cx hr hlk hB dX12_commandHere_88 ⟨by decide, by decide⟩ ?_
                              exact (Or.inr (Or.inr (Or.inr (Or.inr (Or.inr (Or.inr (Or.inl ⟨rfl, rfl, z136, (tk_kw_6 t79 t89 t99 t109 t119 t129 t137)⟩)))))))
                          · obtain ⟨rfl, qy132, t139⟩ := h135
                            subst qy132
                            refine q_ifeq (tgt := 87) cx ⟨by decide, by decide⟩ dX12_commandHere_79 (by decide) (fun c140 => ?_) (fun c140 => ?_)
                            · refine q_iconst cx dX12_commandHere_87 ?_
                              refine q_iret cx hr hlk hB dX12_commandHere_88 ⟨by decide, by decide⟩ ?_
                              exact (Or.inr (Or.inr (Or.inr (Or.inr (Or.inr (Or.inr (Or.inr ⟨rfl, rfl, (tk_kw_7 t79 t89 t99 t109 t119 t129 t139)⟩)))))))
                            · exact absurd c140 (by omega)
                        · exact absurd c130 (by omega)
                    · exact absurd c120 (by omega)
                · exact absurd c110 (by omega)
            · exact absurd c100 (by omega)
        · exact absurd c90 (by omega)
    · exact absurd c80 (by omega)
set_option maxHeartbeats 4000000 in
set_option maxRecDepth 100000 in
theorem f_mreadsNumbers0 (l : Launch) (g : q_G) {K : Nat → Nat} {L : List Nat} (hN : L.Nodup) {f : Nat → va_E} (hT : q_Ty g K L f) (B : Nat → Int) (nl9 : List (List Int)) (mo : Nat) (hmo : mo ∈ L) (kmo : K mo = 12) (a0 : Int) (la0 : 0 ≤ a0) (ua0 : a0 ≤ 58) (b0 : Int) (lb0 : 0 ≤ b0) (ub0 : b0 ≤ 0) (sr : Nat) (hsr : sr ∈ L) (ksr : K sr = 151) (nm : Nat) (hnm : nm ∈ L) (knm : K nm = 156) (bu : Nat) (hbu : bu ∈ L) (kbu : K bu = 150) (c1 : Nat) (hc1 : c1 ∈ L) (kc1 : K c1 = 162) (c2 : Nat) (hc2 : c2 ∈ L) (kc2 : K c2 = 163) (c3 : Nat) (hc3 : c3 ∈ L) (kc3 : K c3 = 164) (tn : Int) (ltn : 0 ≤ tn) (utn : tn ≤ 600) (ss : Int) (lss : 0 ≤ ss) (uss : ss ≤ 600) (xc : Int) (lxc : 0 ≤ xc) (uxc : xc ≤ 10) (hf0 : q_is (q_z f mo 3) tn) (hf1 : q_is (q_z f mo 5) ss) (hf2 : q_is (q_z f mo 8) 0) (hf3 : q_is (q_z f mo 9) (-1)) (hf4 : q_is (q_z f sr 0) xc) (hr0 : q_ir (q_r f mo 13) sr) (hr1 : q_ir (q_r f mo 18) nm) (hr2 : q_ir (q_r f mo 1) bu) (hr3 : q_ir (q_r f mo 30) c1) (hr4 : q_ir (q_r f mo 31) c2) (hr5 : q_ir (q_r f mo 32) c3) (hp0 : (nl9.length : Int) = xc) (htr : tk_tr f mo B tn) (hub : tk_ub f bu B tn) (hrn : tk_nq f nm nl9) : q_Ct l g K L yX12_readsNumbers cX12_readsNumbers 3 none 4 90 [.ref mo, .int (q_i a0), .int (q_i b0)] f [(12, 4, 9), (12, 12, 12), (162, 0, 58)] (q_Pv (fun (f1 : Nat → va_E) => (q_is (q_z f1 mo 8) 0 ∧ q_is (q_z f1 mo 9) (-1) ∧ (tk_rd B tn nl9 0 ss = tk_ok (q_z f1 mo 5)) ∧ (k_cc b0 f1 c1 c2 (Int.toNat a0)) ∧ (k_bl f f1 c1 c2 a0) ∧ (tk_tr f1 mo B tn)) ∨ (1 ≤ q_z f1 mo 8 ∧ q_z f1 mo 8 ≤ 5 ∧ (tk_rd B tn nl9 0 ss = tk_er (q_z f1 mo 8) (q_z f1 mo 9)) ∧ (tk_tr f1 mo B tn)))) := by
  obtain rfl : b0 = 0 := by omega
  refine q_ofb (by decide +kernel) hN hT (Nat.le_of_ble_eq_true rfl) ?_
  intro p e s m below meth c ls cx hr hlk hB hl
  have hl : lv_has ls 3 [(0, .ref mo), (1, .int (q_i a0)), (2, .int (q_i 0))] := hl
  obtain ⟨H, hH⟩ : ∃ H : Heap, H = s.heap := ⟨_, rfl⟩
  obtain ⟨locs, hlocs⟩ : ∃ z : List Loc, z = [] := ⟨_, rfl⟩
  rw [← hH, ← hlocs] at hB
  rw [← hH, ← hlocs]
  have hbl : k_bl f f c1 c2 a0 := k_bl_rf _ _ _ _
  refine q_ild_n cx dX12_readsNumbers_0 rfl (lv_at hl 2 rfl) ?_
  refine q_ifne (tgt := 14) cx ⟨by decide, by decide⟩ dX12_readsNumbers_1 (by decide) (fun c91 => ?_) (fun c91 => ?_)
  · exact absurd c91 (by omega)
  · refine q_ald_n cx dX12_readsNumbers_4 rfl (lv_at hl 0 rfl) ?_
    refine q_gX12_54 cx hB hmo kmo hr3 dX12_readsNumbers_5 (fun hb92 kb92 => ?_)
    refine q_ild_n cx dX12_readsNumbers_8 rfl (lv_at hl 1 rfl) ?_
    refine q_ald_n cx dX12_readsNumbers_9 rfl (lv_at hl 0 rfl) ?_
    refine q_cVi (As := []) (rest := [.int (q_i a0), .ref c1]) cx hB (fun _ h => h) hN hmo kmo (by decide) rfl (f_many l g hN hB.2.1 B mo hmo kmo bu hbu kbu tn (by omega) (by omega) ss (by omega) (by omega) hf0 hf1 hf2 hf3 hr2 htr hub) q_cX12_482 q_dX12_any (by decide) rfl rfl hl.1 rfl (Nat.le_of_ble_eq_true rfl) dX12_readsNumbers_10 (fun y94 H locs f93 ry94 h95 hF hB => ?_)
    rcases h95 with h96 | h97
    · obtain ⟨ly94, uy94, z98, z99, t100, g101⟩ := h96
      have z102 : q_is (q_z f93 mo 3) tn := Eq.trans (hF.z hmo (by rw [kmo]; rfl)) hf0
      have z103 : q_is (q_z f93 sr 0) xc := Eq.trans (hF.z hsr (by rw [ksr]; rfl)) hf4
      have z104 : q_ir (q_r f93 mo 13) sr := Eq.trans (hF.r hmo (by rw [kmo]; rfl)) hr0
      have z105 : q_ir (q_r f93 mo 18) nm := Eq.trans (hF.r hmo (by rw [kmo]; rfl)) hr1
      have z106 : q_ir (q_r f93 mo 1) bu := Eq.trans (hF.r hmo (by rw [kmo]; rfl)) hr2
      have z107 : q_ir (q_r f93 mo 30) c1 := Eq.trans (hF.r hmo (by rw [kmo]; rfl)) hr3
      have z108 : q_ir (q_r f93 mo 31) c2 := Eq.trans (hF.r hmo (by rw [kmo]; rfl)) hr4
      have z109 : q_ir (q_r f93 mo 32) c3 := Eq.trans (hF.r hmo (by rw [kmo]; rfl)) hr5
      have g110 : tk_ub f93 bu B tn := tk_ub_tr hub (fun i9 => hF.z hbu (by rw [kbu]; rfl))
      have g111 : tk_nq f93 nm nl9 := tk_nq_tr hrn (fun i9 => hF.j hnm (by rw [knm]; rfl))
      have g112 : k_bl f f93 c1 c2 a0 := k_bl_tr hbl (fun i9 => hF.z hc1 (by rw [kc1]; rfl)) (fun i9 => hF.z hc2 (by rw [kc2]; rfl))
      obtain ⟨x113, ex113⟩ : ∃ zz, q_is (q_z f93 mo 5) zz := ⟨_, q_isr _⟩
      obtain ⟨lx113, ux113⟩ := q_isb ex113 (q_fib hB.2.1 hmo kmo (by decide) rfl)
      obtain ⟨-, l0x113, u0x113, -, -⟩ := tk_tr_n g101 ex113
      refine q_iast (lo := (-2147483648)) (hi := 2147483647) (n := 60) cx hB hc1 kc1 (by decide) rfl rfl (by omega) (by omega) (by decide) rfl ⟨by omega, by omega⟩ (by omega) (by omega) (q_inWi (lo := 0) (hi := 58) (by decide) (by omega) (by omega)) dX12_readsNumbers_13 (fun H locs f114 ef114 z115 hB => ?_)
      have z116 : q_is (q_z f114 mo 3) tn := by rw [ef114, q_setz (Or.inl (fun q => by rw [q, kc1] at kmo; exact absurd kmo (by decide)))]; exact z102
      have z117 : q_is (q_z f114 sr 0) xc := by rw [ef114, q_setz (Or.inl (fun q => by rw [q, kc1] at ksr; exact absurd ksr (by decide)))]; exact z103
      have z118 : q_is (q_z f114 mo 8) 0 := by rw [ef114, q_setz (Or.inl (fun q => by rw [q, kc1] at kmo; exact absurd kmo (by decide)))]; exact z98
      have z119 : q_is (q_z f114 mo 9) (-1) := by rw [ef114, q_setz (Or.inl (fun q => by rw [q, kc1] at kmo; exact absurd kmo (by decide)))]; exact z99
      have z120 : q_is (q_z f114 mo 5) x113 := by rw [ef114, q_setz (Or.inl (fun q => by rw [q, kc1] at kmo; exact absurd kmo (by decide)))]; exact ex113
      have z121 : q_ir (q_r f114 mo 13) sr := by rw [ef114, q_setr (Or.inl (fun q => by rw [q, kc1] at kmo; exact absurd kmo (by decide)))]; exact z104
      have z122 : q_ir (q_r f114 mo 18) nm := by rw [ef114, q_setr (Or.inl (fun q => by rw [q, kc1] at kmo; exact absurd kmo (by decide)))]; exact z105
      have z123 : q_ir (q_r f114 mo 1) bu := by rw [ef114, q_setr (Or.inl (fun q => by rw [q, kc1] at kmo; exact absurd kmo (by decide)))]; exact z106
      have z124 : q_ir (q_r f114 mo 30) c1 := by rw [ef114, q_setr (Or.inl (fun q => by rw [q, kc1] at kmo; exact absurd kmo (by decide)))]; exact z107
      have z125 : q_ir (q_r f114 mo 31) c2 := by rw [ef114, q_setr (Or.inl (fun q => by rw [q, kc1] at kmo; exact absurd kmo (by decide)))]; exact z108
      have z126 : q_ir (q_r f114 mo 32) c3 := by rw [ef114, q_setr (Or.inl (fun q => by rw [q, kc1] at kmo; exact absurd kmo (by decide)))]; exact z109
      have g127 : tk_ub f114 bu B tn := tk_ub_tr g110 (fun i9 => by rw [ef114, q_setz (Or.inl (fun q => by rw [q, kc1] at kbu; exact absurd kbu (by decide)))])
      have g128 : tk_nq f114 nm nl9 := tk_nq_tr g111 (fun i9 => by rw [ef114, q_setj (Or.inl (fun q => by rw [q, kc1] at knm; exact absurd knm (by decide)))])
      have g129 : k_bl f f114 c1 c2 a0 := k_bl_s1 g112 ef114 (by omega) (fun q => q_kne (k := 163) (k2 := 162) (by decide) kc2 kc1 q)
      have g130 : tk_tr f114 mo B tn := tk_tr_tr g101 (by rw [ef114, q_setz (Or.inl (fun q => by rw [q, kc1] at kmo; exact absurd kmo (by decide)))]) (by rw [ef114, q_setz (Or.inl (fun q => by rw [q, kc1] at kmo; exact absurd kmo (by decide)))]) (by rw [ef114, q_setz (Or.inl (fun q => by rw [q, kc1] at kmo; exact absurd kmo (by decide)))]) (by rw [ef114, q_setz (Or.inl (fun q => by rw [q, kc1] at kmo; exact absurd kmo (by decide)))]) (by rw [ef114, q_setj (Or.inl (fun q => by rw [q, kc1] at kmo; exact absurd kmo (by decide)))])
      refine q_ild_n cx dX12_readsNumbers_14 rfl (lv_at hl 2 rfl) ?_
      refine q_iconst cx dX12_readsNumbers_15 ?_
      refine q_iclt (tgt := 34) cx ⟨by decide, by decide⟩ ⟨by decide, by decide⟩ dX12_readsNumbers_16 (by decide) (fun c131 => ?_) (fun c131 => ?_)
      · refine q_ild_n cx dX12_readsNumbers_34 rfl (lv_at hl 2 rfl) ?_
        refine q_iconst cx dX12_readsNumbers_35 ?_
        refine q_iceq (tgt := 44) cx ⟨by decide, by decide⟩ ⟨by decide, by decide⟩ dX12_readsNumbers_36 (by decide) (fun c132 => ?_) (fun c132 => ?_)
        · exact absurd c132 (by omega)
        · refine q_ild_n cx dX12_readsNumbers_39 rfl (lv_at hl 2 rfl) ?_
          refine q_iconst cx dX12_readsNumbers_40 ?_
          refine q_icne (tgt := 54) cx ⟨by decide, by decide⟩ ⟨by decide, by decide⟩ dX12_readsNumbers_41 (by decide) (fun c133 => ?_) (fun c133 => ?_)
          · refine q_ild_n cx dX12_readsNumbers_54 rfl (lv_at hl 2 rfl) ?_
            refine q_iconst cx dX12_readsNumbers_55 ?_
            refine q_iclt (tgt := 74) cx ⟨by decide, by decide⟩ ⟨by decide, by decide⟩ dX12_readsNumbers_56 (by decide) (fun c134 => ?_) (fun c134 => ?_)
            · refine q_ild_n cx dX12_readsNumbers_74 rfl (lv_at hl 2 rfl) ?_
              refine q_iconst cx dX12_readsNumbers_75 ?_
              refine q_iceq (tgt := 84) cx ⟨by decide, by decide⟩ ⟨by decide, by decide⟩ dX12_readsNumbers_76 (by decide) (fun c135 => ?_) (fun c135 => ?_)
              · exact absurd c135 (by omega)
              · refine q_ild_n cx dX12_readsNumbers_79 rfl (lv_at hl 2 rfl) ?_
                refine q_iconst cx dX12_readsNumbers_80 ?_
                refine q_icne (tgt := 94) cx ⟨by decide, by decide⟩ ⟨by decide, by decide⟩ dX12_readsNumbers_81 (by decide) (fun c136 => ?_) (fun c136 => ?_)
                · refine q_ild_n cx dX12_readsNumbers_94 rfl (lv_at hl 2 rfl) ?_
                  refine q_bipush cx dX12_readsNumbers_95 rfl ?_
                  refine q_icne (tgt := 113) cx ⟨by decide, by decide⟩ ⟨by decide, by decide⟩ dX12_readsNumbers_97 (by decide) (fun c137 => ?_) (fun c137 => ?_)
                  · refine q_ild_n cx dX12_readsNumbers_113 rfl (lv_at hl 2 rfl) ?_
                    refine q_bipush cx dX12_readsNumbers_114 rfl ?_
                    refine q_icne (tgt := 125) cx ⟨by decide, by decide⟩ ⟨by decide, by decide⟩ dX12_readsNumbers_116 (by decide) (fun c138 => ?_) (fun c138 => ?_)
                    · refine q_vret cx hr hlk hB dX12_readsNumbers_125 ?_
                      exact (Or.inl ⟨z118, z119, (tk_okr (tk_rd_n (by decide) (tk_ns_0 rfl rfl) (tk_okx t100 ex113)) z120), (by have h70 : _ = _ := z115; unfold k_cc; omega), g129, g130⟩)
                    · exact absurd c138 (by omega)
                  · exact absurd c137 (by omega)
                · exact absurd c136 (by omega)
            · exact absurd c134 (by omega)
          · exact absurd c133 (by omega)
      · exact absurd c131 (by omega)
    · obtain ⟨lz139, uz139, t140, g141⟩ := h97
      have z142 : q_is (q_z f93 mo 3) tn := Eq.trans (hF.z hmo (by rw [kmo]; rfl)) hf0
      have z143 : q_is (q_z f93 sr 0) xc := Eq.trans (hF.z hsr (by rw [ksr]; rfl)) hf4
      have z144 : q_ir (q_r f93 mo 13) sr := Eq.trans (hF.r hmo (by rw [kmo]; rfl)) hr0
      have z145 : q_ir (q_r f93 mo 18) nm := Eq.trans (hF.r hmo (by rw [kmo]; rfl)) hr1
      have z146 : q_ir (q_r f93 mo 1) bu := Eq.trans (hF.r hmo (by rw [kmo]; rfl)) hr2
      have z147 : q_ir (q_r f93 mo 30) c1 := Eq.trans (hF.r hmo (by rw [kmo]; rfl)) hr3
      have z148 : q_ir (q_r f93 mo 31) c2 := Eq.trans (hF.r hmo (by rw [kmo]; rfl)) hr4
      have z149 : q_ir (q_r f93 mo 32) c3 := Eq.trans (hF.r hmo (by rw [kmo]; rfl)) hr5
      have g150 : tk_ub f93 bu B tn := tk_ub_tr hub (fun i9 => hF.z hbu (by rw [kbu]; rfl))
      have g151 : tk_nq f93 nm nl9 := tk_nq_tr hrn (fun i9 => hF.j hnm (by rw [knm]; rfl))
      have g152 : k_bl f f93 c1 c2 a0 := k_bl_tr hbl (fun i9 => hF.z hc1 (by rw [kc1]; rfl)) (fun i9 => hF.z hc2 (by rw [kc2]; rfl))
      obtain ⟨x153, ex153⟩ : ∃ zz, q_is (q_z f93 mo 8) zz := ⟨_, q_isr _⟩
      obtain ⟨lx153, ux153⟩ := q_isb ex153 ⟨lz139, uz139⟩
      obtain ⟨x154, ex154⟩ : ∃ zz, q_is (q_z f93 mo 5) zz := ⟨_, q_isr _⟩
      obtain ⟨lx154, ux154⟩ := q_isb ex154 (q_fib hB.2.1 hmo kmo (by decide) rfl)
      obtain ⟨x155, ex155⟩ : ∃ zz, q_is (q_z f93 mo 9) zz := ⟨_, q_isr _⟩
      obtain ⟨lx155, ux155⟩ := q_isb ex155 (q_fib hB.2.1 hmo kmo (by decide) rfl)
      obtain ⟨-, l0x154, u0x154, -, -⟩ := tk_tr_n g141 ex154
      refine q_iast (lo := (-2147483648)) (hi := 2147483647) (n := 60) cx hB hc1 kc1 (by decide) rfl rfl (by omega) (by omega) (by decide) rfl ⟨by omega, by omega⟩ (by omega) (by omega) (q_inWi (lo := 0) (hi := 58) (by decide) (by omega) (by omega)) dX12_readsNumbers_13 (fun H locs f156 ef156 z157 hB => ?_)
      have z158 : q_is (q_z f156 mo 3) tn := by rw [ef156, q_setz (Or.inl (fun q => by rw [q, kc1] at kmo; exact absurd kmo (by decide)))]; exact z142
      have z159 : q_is (q_z f156 sr 0) xc := by rw [ef156, q_setz (Or.inl (fun q => by rw [q, kc1] at ksr; exact absurd ksr (by decide)))]; exact z143
      have z160 : q_is (q_z f156 mo 8) x153 := by rw [ef156, q_setz (Or.inl (fun q => by rw [q, kc1] at kmo; exact absurd kmo (by decide)))]; exact ex153
      have z161 : q_is (q_z f156 mo 5) x154 := by rw [ef156, q_setz (Or.inl (fun q => by rw [q, kc1] at kmo; exact absurd kmo (by decide)))]; exact ex154
      have z162 : q_is (q_z f156 mo 9) x155 := by rw [ef156, q_setz (Or.inl (fun q => by rw [q, kc1] at kmo; exact absurd kmo (by decide)))]; exact ex155
      have z163 : q_ir (q_r f156 mo 13) sr := by rw [ef156, q_setr (Or.inl (fun q => by rw [q, kc1] at kmo; exact absurd kmo (by decide)))]; exact z144
      have z164 : q_ir (q_r f156 mo 18) nm := by rw [ef156, q_setr (Or.inl (fun q => by rw [q, kc1] at kmo; exact absurd kmo (by decide)))]; exact z145
      have z165 : q_ir (q_r f156 mo 1) bu := by rw [ef156, q_setr (Or.inl (fun q => by rw [q, kc1] at kmo; exact absurd kmo (by decide)))]; exact z146
      have z166 : q_ir (q_r f156 mo 30) c1 := by rw [ef156, q_setr (Or.inl (fun q => by rw [q, kc1] at kmo; exact absurd kmo (by decide)))]; exact z147
      have z167 : q_ir (q_r f156 mo 31) c2 := by rw [ef156, q_setr (Or.inl (fun q => by rw [q, kc1] at kmo; exact absurd kmo (by decide)))]; exact z148
      have z168 : q_ir (q_r f156 mo 32) c3 := by rw [ef156, q_setr (Or.inl (fun q => by rw [q, kc1] at kmo; exact absurd kmo (by decide)))]; exact z149
      have g169 : tk_ub f156 bu B tn := tk_ub_tr g150 (fun i9 => by rw [ef156, q_setz (Or.inl (fun q => by rw [q, kc1] at kbu; exact absurd kbu (by decide)))])
      have g170 : tk_nq f156 nm nl9 := tk_nq_tr g151 (fun i9 => by rw [ef156, q_setj (Or.inl (fun q => by rw [q, kc1] at knm; exact absurd knm (by decide)))])
      have g171 : k_bl f f156 c1 c2 a0 := k_bl_s1 g152 ef156 (by omega) (fun q => q_kne (k := 163) (k2 := 162) (by decide) kc2 kc1 q)
      have g172 : tk_tr f156 mo B tn := tk_tr_tr g141 (by rw [ef156, q_setz (Or.inl (fun q => by rw [q, kc1] at kmo; exact absurd kmo (by decide)))]) (by rw [ef156, q_setz (Or.inl (fun q => by rw [q, kc1] at kmo; exact absurd kmo (by decide)))]) (by rw [ef156, q_setz (Or.inl (fun q => by rw [q, kc1] at kmo; exact absurd kmo (by decide)))]) (by rw [ef156, q_setz (Or.inl (fun q => by rw [q, kc1] at kmo; exact absurd kmo (by decide)))]) (by rw [ef156, q_setj (Or.inl (fun q => by rw [q, kc1] at kmo; exact absurd kmo (by decide)))])
      refine q_ild_n cx dX12_readsNumbers_14 rfl (lv_at hl 2 rfl) ?_
      refine q_iconst cx dX12_readsNumbers_15 ?_
      refine q_iclt (tgt := 34) cx ⟨by decide, by decide⟩ ⟨by decide, by decide⟩ dX12_readsNumbers_16 (by decide) (fun c173 => ?_) (fun c173 => ?_)
      · refine q_ild_n cx dX12_readsNumbers_34 rfl (lv_at hl 2 rfl) ?_
        refine q_iconst cx dX12_readsNumbers_35 ?_
        refine q_iceq (tgt := 44) cx ⟨by decide, by decide⟩ ⟨by decide, by decide⟩ dX12_readsNumbers_36 (by decide) (fun c174 => ?_) (fun c174 => ?_)
        · exact absurd c174 (by omega)
        · refine q_ild_n cx dX12_readsNumbers_39 rfl (lv_at hl 2 rfl) ?_
          refine q_iconst cx dX12_readsNumbers_40 ?_
          refine q_icne (tgt := 54) cx ⟨by decide, by decide⟩ ⟨by decide, by decide⟩ dX12_readsNumbers_41 (by decide) (fun c175 => ?_) (fun c175 => ?_)
          · refine q_ild_n cx dX12_readsNumbers_54 rfl (lv_at hl 2 rfl) ?_
            refine q_iconst cx dX12_readsNumbers_55 ?_
            refine q_iclt (tgt := 74) cx ⟨by decide, by decide⟩ ⟨by decide, by decide⟩ dX12_readsNumbers_56 (by decide) (fun c176 => ?_) (fun c176 => ?_)
            · refine q_ild_n cx dX12_readsNumbers_74 rfl (lv_at hl 2 rfl) ?_
              refine q_iconst cx dX12_readsNumbers_75 ?_
              refine q_iceq (tgt := 84) cx ⟨by decide, by decide⟩ ⟨by decide, by decide⟩ dX12_readsNumbers_76 (by decide) (fun c177 => ?_) (fun c177 => ?_)
              · exact absurd c177 (by omega)
              · refine q_ild_n cx dX12_readsNumbers_79 rfl (lv_at hl 2 rfl) ?_
                refine q_iconst cx dX12_readsNumbers_80 ?_
                refine q_icne (tgt := 94) cx ⟨by decide, by decide⟩ ⟨by decide, by decide⟩ dX12_readsNumbers_81 (by decide) (fun c178 => ?_) (fun c178 => ?_)
                · refine q_ild_n cx dX12_readsNumbers_94 rfl (lv_at hl 2 rfl) ?_
                  refine q_bipush cx dX12_readsNumbers_95 rfl ?_
                  refine q_icne (tgt := 113) cx ⟨by decide, by decide⟩ ⟨by decide, by decide⟩ dX12_readsNumbers_97 (by decide) (fun c179 => ?_) (fun c179 => ?_)
                  · refine q_ild_n cx dX12_readsNumbers_113 rfl (lv_at hl 2 rfl) ?_
                    refine q_bipush cx dX12_readsNumbers_114 rfl ?_
                    refine q_icne (tgt := 125) cx ⟨by decide, by decide⟩ ⟨by decide, by decide⟩ dX12_readsNumbers_116 (by decide) (fun c180 => ?_) (fun c180 => ?_)
                    · refine q_vret cx hr hlk hB dX12_readsNumbers_125 ?_
                      exact (Or.inr ⟨(q_isl z160 (by omega)), (q_isu z160 (by omega)), (tk_erp (tk_rd_n (by decide) (tk_ns_0 rfl rfl) (tk_erx t140 ex153 ex155)) z160 z162), g172⟩)
                    · exact absurd c180 (by omega)
                  · exact absurd c179 (by omega)
                · exact absurd c178 (by omega)
            · exact absurd c176 (by omega)
          · exact absurd c175 (by omega)
      · exact absurd c173 (by omega)
