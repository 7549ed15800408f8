set_option maxHeartbeats 4000000 in
set_option maxRecDepth 100000 in
theorem r_here (l : Launch) (g : q_G) {K : Nat → Nat} {L : List Nat} (hN : L.Nodup) {f : Nat → va_E} (hT : q_Ty g K L f) (mo : Nat) (hmo : mo ∈ L) (kmo : K mo = 12) (a0 : Int) (la0 : 0 ≤ a0) (ua0 : a0 ≤ 600) (bu : Nat) (hbu : bu ∈ L) (kbu : K bu = 150) (xp : Int) (lxp : 0 ≤ xp) (uxp : xp ≤ 600) (xq : Int) (lxq : 0 ≤ xq) (uxq : xq ≤ 600) (hf0 : q_is (q_z f mo 4) xp) (hf1 : q_is (q_z f mo 3) xq) (hr0 : q_ir (q_r f mo 1) bu) : q_Ct l g K L yX12_here cX12_here 2 (some .int) 0 0 [.ref mo, .int (q_i a0)] f [] (q_Pi (fun (z : Int) (f1 : Nat → va_E) => (f = f1 ∧ 0 ≤ z ∧ z ≤ 255 ∧ (z = q_z f bu (Int.toNat (xp + a0))) ∧ (xp + a0 < xq)) ∨ (f = f1 ∧ z = (-1) ∧ (xq ≤ xp + a0)))) := by
  refine q_ofb (by decide +kernel) hN hT (Nat.le_of_ble_eq_true rfl) ?_
  intro p e s m below meth c ls cx hr hlk hB hl
  have hl : lv_has ls 2 [(0, .ref mo), (1, .int (q_i a0))] := hl
  obtain ⟨H, hH⟩ : ∃ H : Heap, H = s.heap := ⟨_, rfl⟩
  obtain ⟨locs, hlocs⟩ : ∃ z : List Loc, z = [] := ⟨_, rfl⟩
  rw [← hH, ← hlocs] at hB
  rw [← hH, ← hlocs]
  refine q_ald_n cx dX12_here_0 rfl (lv_at hl 0 rfl) ?_
  refine q_gX12_97 cx hB hmo kmo hf0 dX12_here_1 (fun lb8 ub8 => ?_)
  refine q_ild_n cx dX12_here_4 rfl (lv_at hl 1 rfl) ?_
  refine q_iadd cx dX12_here_5 ?_
  refine q_ald_n cx dX12_here_6 rfl (lv_at hl 0 rfl) ?_
  refine q_gX12_100 cx hB hmo kmo hf1 dX12_here_7 (fun lb9 ub9 => ?_)
  refine q_icge (tgt := 27) cx ⟨by omega, by omega⟩ ⟨by omega, by omega⟩ dX12_here_10 (by decide) (fun c10 => ?_) (fun c10 => ?_)
  · refine q_iconst cx dX12_here_27 ?_
    refine q_iret cx hr hlk hB dX12_here_28 ⟨by decide, by decide⟩ ?_
    exact (Or.inr ⟨rfl, rfl, (by omega)⟩)
  · refine q_ald_n cx dX12_here_13 rfl (lv_at hl 0 rfl) ?_
    refine q_gX12_7 cx hB hmo kmo hr0 dX12_here_14 (fun hb11 kb11 => ?_)
    refine q_ald_n cx dX12_here_17 rfl (lv_at hl 0 rfl) ?_
    refine q_gX12_97 cx hB hmo kmo hf0 dX12_here_18 (fun lb12 ub12 => ?_)
    refine q_ild_n cx dX12_here_21 rfl (lv_at hl 1 rfl) ?_
    refine q_iadd cx dX12_here_22 ?_
    obtain ⟨x13, ex13⟩ : ∃ zz, q_is (q_z f bu (Int.toNat (xp + a0))) zz := ⟨_, q_isr _⟩
    refine q_iald (lo := 0) (hi := 255) (n := 600) cx hB hbu kbu (by decide) rfl rfl (by omega) (by omega) (by decide) rfl ex13 dX12_here_23 (fun lb14 ub14 => ?_)
    refine lv_goto (tgt := 28) cx.1 cx.2.1 dX12_here_24 (by decide) ?_
    refine q_iret cx hr hlk hB dX12_here_28 ⟨by omega, by omega⟩ ?_
    exact (Or.inl ⟨rfl, (by omega), (by omega), (Eq.symm ex13), (by omega)⟩)
set_option maxHeartbeats 4000000 in
set_option maxRecDepth 100000 in
theorem r_goOn (l : Launch) (g : q_G) {K : Nat → Nat} {L : List Nat} (hN : L.Nodup) {f : Nat → va_E} (hT : q_Ty g K L f) (mo : Nat) (hmo : mo ∈ L) (kmo : K mo = 12) (bu : Nat) (hbu : bu ∈ L) (kbu : K bu = 150) (xp : Int) (lxp : 0 ≤ xp) (uxp : xp ≤ 600) (xq : Int) (lxq : 0 ≤ xq) (uxq : xq ≤ 600) (hf0 : q_is (q_z f mo 4) xp) (hf1 : q_is (q_z f mo 3) xq) (hr0 : q_ir (q_r f mo 1) bu) : q_Ct l g K L yX12_goOn cX12_goOn 3 none 1 21 [.ref mo] f [(12, 4, 7), (12, 12, 12)] (q_Pv (fun (f1 : Nat → va_E) => (xp ≤ q_z f1 mo 4) ∧ (k_po (q_z f1 mo 6) (q_z f1 mo 4) xp))) := by
  refine q_ofb (by decide +kernel) hN hT (Nat.le_of_ble_eq_true rfl) ?_
  intro p e s m below meth c ls cx hr hlk hB hl
  have hl : lv_has ls 3 [(0, .ref mo)] := hl
  have J76 : ∀ (n : Nat) (f76 : Nat → va_E) (v76_2 : Int) (lv76_2 : 0 ≤ v76_2) (uv76_2 : v76_2 ≤ 600) (w76_mo_4 : Int) (lw76_mo_4 : 0 ≤ w76_mo_4) (uw76_mo_4 : w76_mo_4 ≤ 599) (buxp : xp ≤ 599) (blxq : 1 ≤ xq) (hj_mo_3 : q_is (q_z f76 mo 3) xq) (hj_mo_4 : q_is (q_z f76 mo 4) w76_mo_4) (hq_mo_1 : q_ir (q_r f76 mo 1) bu) (hrl76_0 : 1 * w76_mo_4 + -1 * xq + 0 ≤ (-1)) (hrl76_1 : 1 * w76_mo_4 + 1 * v76_2 + -1 * xq + 0 ≤ 0) (hrl76_2 : 0 ≤ -1 * xp + 1 * w76_mo_4 + 0) (hlt76 : 97 ≤ q_z f bu (Int.toNat w76_mo_4) ∧ q_z f bu (Int.toNat w76_mo_4) ≤ 122) (hmu : (Int.toNat (601 - v76_2)) < n) (H : Heap) (locs : List Loc) (hB : q_B g K L (fun q => q ∈ L) [(12, 4, 7), (12, 12, 12)] f f76 s H locs) (ls : Array Slot) (hl : lv_has ls 3 [(0, .ref mo), (2, .int (q_i v76_2))]), W p l e { frames := 1, cells := 0, slots := 0, locals := 21 } s m ([.ref mo] : List Value).toArray below meth c H locs 0 0 (MQ below (q_Q g K L [(12, 4, 7), (12, 12, 12)] f (q_Pv (fun (f1 : Nat → va_E) => (xp ≤ q_z f1 mo 4) ∧ (k_po (q_z f1 mo 6) (q_z f1 mo 4) xp)))) ([.ref mo] : List Value).toArray s 0 0 (fun q => q ∈ L)) (F0 m 76 ls []) := by
    intro n
    induction n with
    | zero =>
      intro f76 v76_2 lv76_2 uv76_2 w76_mo_4 lw76_mo_4 uw76_mo_4 buxp blxq hj_mo_3 hj_mo_4 hq_mo_1 hrl76_0 hrl76_1 hrl76_2 hlt76 hmu
      exact absurd hmu (Nat.not_lt_zero _)
    | succ n ih76 =>
      intro f76 v76_2 lv76_2 uv76_2 w76_mo_4 lw76_mo_4 uw76_mo_4 buxp blxq hj_mo_3 hj_mo_4 hq_mo_1 hrl76_0 hrl76_1 hrl76_2 hlt76 hmu H locs hB ls hl
      refine q_ald_n cx dX12_goOn_76 rfl (lv_at hl 0 rfl) ?_
      refine q_ild_n cx dX12_goOn_77 rfl (lv_at hl 1 rfl) ?_
      refine q_cVi (As := [.int (q_i v76_2)]) (rest := []) cx hB (fun _ h => h) hN hmo kmo (by decide) rfl (r_here l g hN hB.2.1 mo hmo kmo v76_2 (by omega) (by omega) bu hbu kbu w76_mo_4 (by omega) (by omega) xq (by omega) (by omega) hj_mo_4 hj_mo_3 hq_mo_1) q_cX12_103 q_dX12_here (by decide) rfl rfl hl.1 rfl (Nat.le_of_ble_eq_true rfl) dX12_goOn_78 (fun y5030 H locs f5029 ry5030 h5031 hF hB => ?_)
      rcases h5031 with h5032 | h5033
      · obtain ⟨rfl, ly5030, uy5030, t5034, t5035⟩ := h5032
        refine q_cSi (As := [.int (q_i y5030)]) (rest := []) cx hB (fun _ h => h) hN (r_isLetter l g hN hB.2.1 y5030 (by omega) (by omega)) q_cX12_120 q_dX12_isLetter (by decide) rfl rfl hl.1 rfl (Nat.le_of_ble_eq_true rfl) dX12_goOn_81 (fun y5037 H locs f5036 ry5037 h5038 hF hB => ?_)
        rcases h5038 with h5039 | h5040
        · obtain ⟨rfl, qy5037, t5041, t5042⟩ := h5039
          subst qy5037
          refine q_ifeq (tgt := 121) cx ⟨by decide, by decide⟩ dX12_goOn_84 (by decide) (fun c5043 => ?_) (fun c5043 => ?_)
          · exact absurd c5043 (by omega)
          · refine q_ild_n cx dX12_goOn_87 rfl (lv_at hl 1 rfl) ?_
            refine q_bipush cx dX12_goOn_88 rfl ?_
            refine q_icge (tgt := 115) cx ⟨by omega, by omega⟩ ⟨by decide, by decide⟩ dX12_goOn_90 (by decide) (fun c5044 => ?_) (fun c5044 => ?_)
            · refine q_iinc (lv' := [(2, .int (q_i (v76_2 + 1))), (0, .ref mo)]) cx dX12_goOn_115 hl (k := 1) rfl (by decide) rfl (fun ls hl => ?_)
              refine lv_goto (tgt := 76) cx.1 cx.2.1 dX12_goOn_118 (by decide) ?_
              exact ih76 f76 (v76_2 + 1) (by omega) (by omega) w76_mo_4 (by omega) (by omega) (by omega) (by omega) hj_mo_3 hj_mo_4 hq_mo_1 (by omega) (by omega) (by omega) hlt76 (by omega) H locs hB ls (lv_sub hl [1, 0] rfl)
            · refine q_ald_n cx dX12_goOn_93 rfl (lv_at hl 0 rfl) ?_
              refine q_ald_n cx dX12_goOn_94 rfl (lv_at hl 0 rfl) ?_
              obtain ⟨j5045, ej5045⟩ : ∃ zz, q_j f76 mo 12 = zz := ⟨_, rfl⟩
              refine q_gX12_110 cx hB hmo kmo ej5045 dX12_goOn_95 ?_
              refine q_iconst cx dX12_goOn_98 ?_
              refine lv_lshl cx.1 cx.2.1 dX12_goOn_99 rfl ?_
              refine lv_topl (fun j5046 ej5046 => ?_)
              refine q_ald_n cx dX12_goOn_100 rfl (lv_at hl 0 rfl) ?_
              refine q_ild_n cx dX12_goOn_101 rfl (lv_at hl 1 rfl) ?_
              refine q_cVi (As := [.int (q_i v76_2)]) (rest := [.long j5046, .ref mo]) cx hB (fun _ h => h) hN hmo kmo (by decide) rfl (r_here l g hN hB.2.1 mo hmo kmo v76_2 (by omega) (by omega) bu hbu kbu w76_mo_4 (by omega) (by omega) xq (by omega) (by omega) hj_mo_4 hj_mo_3 hq_mo_1) q_cX12_103 q_dX12_here (by decide) rfl rfl hl.1 rfl (Nat.le_of_ble_eq_true rfl) dX12_goOn_102 (fun y5048 H locs f5047 ry5048 h5049 hF hB => ?_)
              rcases h5049 with h5050 | h5051
              · obtain ⟨rfl, ly5048, uy5048, t5052, t5053⟩ := h5050
                refine q_bipush cx dX12_goOn_105 rfl ?_
                refine q_isub cx dX12_goOn_107 ?_
                refine q_iconst cx dX12_goOn_108 ?_
                refine q_iadd cx dX12_goOn_109 ?_
                refine q_i2l cx ⟨by omega, by omega⟩ dX12_goOn_110 ?_
                refine lv_lor cx.1 cx.2.1 dX12_goOn_111 ?_
                refine lv_topl (fun j5054 ej5054 => ?_)
                refine q_pX12_110 cx hB hmo kmo rfl dX12_goOn_112 (fun H locs f5055 ef5055 z5056 hB => ?_)
                have z5057 : q_is (q_z f5055 mo 3) xq := by rw [ef5055, q_setz (Or.inr (by decide))]; exact hj_mo_3
                have z5058 : q_is (q_z f5055 mo 4) w76_mo_4 := by rw [ef5055, q_setz (Or.inr (by decide))]; exact hj_mo_4
                have z5059 : q_ir (q_r f5055 mo 1) bu := by rw [ef5055, q_setr (Or.inr (by decide))]; exact hq_mo_1
                refine q_iinc (lv' := [(2, .int (q_i (v76_2 + 1))), (0, .ref mo)]) cx dX12_goOn_115 hl (k := 1) rfl (by decide) rfl (fun ls hl => ?_)
                refine lv_goto (tgt := 76) cx.1 cx.2.1 dX12_goOn_118 (by decide) ?_
                exact ih76 f5055 (v76_2 + 1) (by omega) (by omega) w76_mo_4 (by omega) (by omega) (by omega) (by omega) z5057 z5058 z5059 (by omega) (by omega) (by omega) hlt76 (by omega) H locs hB ls (lv_sub hl [1, 0] rfl)
              · obtain ⟨rfl, qy5048, t5060⟩ := h5051
                subst qy5048
                exact False.elim (by omega)
        · obtain ⟨rfl, qy5037, t5061⟩ := h5040
          subst qy5037
          refine q_ifeq (tgt := 121) cx ⟨by decide, by decide⟩ dX12_goOn_84 (by decide) (fun c5062 => ?_) (fun c5062 => ?_)
          · have h1n : 1 ≤ v76_2 := k_n1 hlt76 t5034 (hB.2.2.z hbu (by rw [kbu]; rfl)).symm t5061 (by omega)
            refine q_ald_n cx dX12_goOn_121 rfl (lv_at hl 0 rfl) ?_
            refine q_ild_n cx dX12_goOn_122 rfl (lv_at hl 1 rfl) ?_
            refine q_bipush cx dX12_goOn_123 rfl ?_
            refine q_icle (tgt := 132) cx ⟨by omega, by omega⟩ ⟨by decide, by decide⟩ dX12_goOn_125 (by decide) (fun c5063 => ?_) (fun c5063 => ?_)
            · refine q_iconst cx dX12_goOn_132 ?_
              refine q_pX12_117 cx hB hmo kmo ⟨by decide, by decide⟩ (by decide) (by decide) rfl dX12_goOn_133 (fun H locs f5064 ef5064 z5065 hB => ?_)
              have z5066 : q_is (q_z f5064 mo 3) xq := by rw [ef5064, q_setz (Or.inr (by decide))]; exact hj_mo_3
              have z5067 : q_is (q_z f5064 mo 4) w76_mo_4 := by rw [ef5064, q_setz (Or.inr (by decide))]; exact hj_mo_4
              have z5068 : q_ir (q_r f5064 mo 1) bu := by rw [ef5064, q_setr (Or.inr (by decide))]; exact hq_mo_1
              refine lv_goto (tgt := 239) cx.1 cx.2.1 dX12_goOn_136 (by decide) ?_
              refine q_ald_n cx dX12_goOn_239 rfl (lv_at hl 0 rfl) ?_
              refine lv_dup cx.1 cx.2.1 dX12_goOn_240 rfl ?_
              refine q_gX12_97 cx hB hmo kmo z5067 dX12_goOn_241 (fun lb5069 ub5069 => ?_)
              refine q_ild_n cx dX12_goOn_244 rfl (lv_at hl 1 rfl) ?_
              refine q_iadd cx dX12_goOn_245 ?_
              refine q_pX12_97 cx hB hmo kmo ⟨by omega, by omega⟩ (by omega) (by omega) rfl dX12_goOn_246 (fun H locs f5070 ef5070 z5071 hB => ?_)
              have z5072 : q_is (q_z f5070 mo 3) xq := by rw [ef5070, q_setz (Or.inr (by decide))]; exact z5066
              have z5073 : q_is (q_z f5070 mo 6) 1 := by rw [ef5070, q_setz (Or.inr (by decide))]; exact z5065
              have z5074 : q_ir (q_r f5070 mo 1) bu := by rw [ef5070, q_setr (Or.inr (by decide))]; exact z5068
              refine q_vret cx hr hlk hB dX12_goOn_249 ?_
              exact ⟨(q_isl z5071 (by omega)), (k_po_is z5073 z5071 (show _ ∨ _ by omega))⟩
            · refine q_iconst cx dX12_goOn_128 ?_
              refine lv_goto (tgt := 133) cx.1 cx.2.1 dX12_goOn_129 (by decide) ?_
              refine q_pX12_117 cx hB hmo kmo ⟨by decide, by decide⟩ (by decide) (by decide) rfl dX12_goOn_133 (fun H locs f5075 ef5075 z5076 hB => ?_)
              have z5077 : q_is (q_z f5075 mo 3) xq := by rw [ef5075, q_setz (Or.inr (by decide))]; exact hj_mo_3
              have z5078 : q_is (q_z f5075 mo 4) w76_mo_4 := by rw [ef5075, q_setz (Or.inr (by decide))]; exact hj_mo_4
              have z5079 : q_ir (q_r f5075 mo 1) bu := by rw [ef5075, q_setr (Or.inr (by decide))]; exact hq_mo_1
              refine lv_goto (tgt := 239) cx.1 cx.2.1 dX12_goOn_136 (by decide) ?_
              refine q_ald_n cx dX12_goOn_239 rfl (lv_at hl 0 rfl) ?_
              refine lv_dup cx.1 cx.2.1 dX12_goOn_240 rfl ?_
              refine q_gX12_97 cx hB hmo kmo z5078 dX12_goOn_241 (fun lb5080 ub5080 => ?_)
              refine q_ild_n cx dX12_goOn_244 rfl (lv_at hl 1 rfl) ?_
              refine q_iadd cx dX12_goOn_245 ?_
              refine q_pX12_97 cx hB hmo kmo ⟨by omega, by omega⟩ (by omega) (by omega) rfl dX12_goOn_246 (fun H locs f5081 ef5081 z5082 hB => ?_)
              have z5083 : q_is (q_z f5081 mo 3) xq := by rw [ef5081, q_setz (Or.inr (by decide))]; exact z5077
              have z5084 : q_is (q_z f5081 mo 6) 4 := by rw [ef5081, q_setz (Or.inr (by decide))]; exact z5076
              have z5085 : q_ir (q_r f5081 mo 1) bu := by rw [ef5081, q_setr (Or.inr (by decide))]; exact z5079
              refine q_vret cx hr hlk hB dX12_goOn_249 ?_
              exact ⟨(q_isl z5082 (by omega)), (k_po_is z5084 z5082 (show _ ∨ _ by omega))⟩
          · exact absurd c5062 (by omega)
      · obtain ⟨rfl, qy5030, t5086⟩ := h5033
        subst qy5030
        refine q_cSi (As := [.int (q_i (-1))]) (rest := []) cx hB (fun _ h => h) hN (r_isLetter l g hN hB.2.1 (-1) (by decide) (by decide)) q_cX12_120 q_dX12_isLetter (by decide) rfl rfl hl.1 rfl (Nat.le_of_ble_eq_true rfl) dX12_goOn_81 (fun y5088 H locs f5087 ry5088 h5089 hF hB => ?_)
        rcases h5089 with h5090 | h5091
        · obtain ⟨rfl, qy5088, t5092, t5093⟩ := h5090
          subst qy5088
          exact False.elim (by omega)
        · obtain ⟨rfl, qy5088, t5094⟩ := h5091
          subst qy5088
          refine q_ifeq (tgt := 121) cx ⟨by decide, by decide⟩ dX12_goOn_84 (by decide) (fun c5095 => ?_) (fun c5095 => ?_)
          · have h1n : 1 ≤ v76_2 := by omega
            refine q_ald_n cx dX12_goOn_121 rfl (lv_at hl 0 rfl) ?_
            refine q_ild_n cx dX12_goOn_122 rfl (lv_at hl 1 rfl) ?_
            refine q_bipush cx dX12_goOn_123 rfl ?_
            refine q_icle (tgt := 132) cx ⟨by omega, by omega⟩ ⟨by decide, by decide⟩ dX12_goOn_125 (by decide) (fun c5096 => ?_) (fun c5096 => ?_)
            · refine q_iconst cx dX12_goOn_132 ?_
              refine q_pX12_117 cx hB hmo kmo ⟨by decide, by decide⟩ (by decide) (by decide) rfl dX12_goOn_133 (fun H locs f5097 ef5097 z5098 hB => ?_)
              have z5099 : q_is (q_z f5097 mo 3) xq := by rw [ef5097, q_setz (Or.inr (by decide))]; exact hj_mo_3
              have z5100 : q_is (q_z f5097 mo 4) w76_mo_4 := by rw [ef5097, q_setz (Or.inr (by decide))]; exact hj_mo_4
              have z5101 : q_ir (q_r f5097 mo 1) bu := by rw [ef5097, q_setr (Or.inr (by decide))]; exact hq_mo_1
              refine lv_goto (tgt := 239) cx.1 cx.2.1 dX12_goOn_136 (by decide) ?_
              refine q_ald_n cx dX12_goOn_239 rfl (lv_at hl 0 rfl) ?_
              refine lv_dup cx.1 cx.2.1 dX12_goOn_240 rfl ?_
              refine q_gX12_97 cx hB hmo kmo z5100 dX12_goOn_241 (fun lb5102 ub5102 => ?_)
              refine q_ild_n cx dX12_goOn_244 rfl (lv_at hl 1 rfl) ?_
              refine q_iadd cx dX12_goOn_245 ?_
              refine q_pX12_97 cx hB hmo kmo ⟨by omega, by omega⟩ (by omega) (by omega) rfl dX12_goOn_246 (fun H locs f5103 ef5103 z5104 hB => ?_)
              have z5105 : q_is (q_z f5103 mo 3) xq := by rw [ef5103, q_setz (Or.inr (by decide))]; exact z5099
              have z5106 : q_is (q_z f5103 mo 6) 1 := by rw [ef5103, q_setz (Or.inr (by decide))]; exact z5098
              have z5107 : q_ir (q_r f5103 mo 1) bu := by rw [ef5103, q_setr (Or.inr (by decide))]; exact z5101
              refine q_vret cx hr hlk hB dX12_goOn_249 ?_
              exact ⟨(q_isl z5104 (by omega)), (k_po_is z5106 z5104 (show _ ∨ _ by omega))⟩
            · refine q_iconst cx dX12_goOn_128 ?_
              refine lv_goto (tgt := 133) cx.1 cx.2.1 dX12_goOn_129 (by decide) ?_
              refine q_pX12_117 cx hB hmo kmo ⟨by decide, by decide⟩ (by decide) (by decide) rfl dX12_goOn_133 (fun H locs f5108 ef5108 z5109 hB => ?_)
              have z5110 : q_is (q_z f5108 mo 3) xq := by rw [ef5108, q_setz (Or.inr (by decide))]; exact hj_mo_3
              have z5111 : q_is (q_z f5108 mo 4) w76_mo_4 := by rw [ef5108, q_setz (Or.inr (by decide))]; exact hj_mo_4
              have z5112 : q_ir (q_r f5108 mo 1) bu := by rw [ef5108, q_setr (Or.inr (by decide))]; exact hq_mo_1
              refine lv_goto (tgt := 239) cx.1 cx.2.1 dX12_goOn_136 (by decide) ?_
              refine q_ald_n cx dX12_goOn_239 rfl (lv_at hl 0 rfl) ?_
              refine lv_dup cx.1 cx.2.1 dX12_goOn_240 rfl ?_
              refine q_gX12_97 cx hB hmo kmo z5111 dX12_goOn_241 (fun lb5113 ub5113 => ?_)
              refine q_ild_n cx dX12_goOn_244 rfl (lv_at hl 1 rfl) ?_
              refine q_iadd cx dX12_goOn_245 ?_
              refine q_pX12_97 cx hB hmo kmo ⟨by omega, by omega⟩ (by omega) (by omega) rfl dX12_goOn_246 (fun H locs f5114 ef5114 z5115 hB => ?_)
              have z5116 : q_is (q_z f5114 mo 3) xq := by rw [ef5114, q_setz (Or.inr (by decide))]; exact z5110
              have z5117 : q_is (q_z f5114 mo 6) 4 := by rw [ef5114, q_setz (Or.inr (by decide))]; exact z5109
              have z5118 : q_ir (q_r f5114 mo 1) bu := by rw [ef5114, q_setr (Or.inr (by decide))]; exact z5112
              refine q_vret cx hr hlk hB dX12_goOn_249 ?_
              exact ⟨(q_isl z5115 (by omega)), (k_po_is z5117 z5115 (show _ ∨ _ by omega))⟩
          · exact absurd c5095 (by omega)
  have J146 : ∀ (n : Nat) (f146 : Nat → va_E) (v146_2 : Int) (lv146_2 : 0 ≤ v146_2) (uv146_2 : v146_2 ≤ 600) (w146_mo_4 : Int) (lw146_mo_4 : 0 ≤ w146_mo_4) (uw146_mo_4 : w146_mo_4 ≤ 599) (buxp : xp ≤ 599) (blxq : 1 ≤ xq) (hj_mo_3 : q_is (q_z f146 mo 3) xq) (hj_mo_4 : q_is (q_z f146 mo 4) w146_mo_4) (hq_mo_1 : q_ir (q_r f146 mo 1) bu) (hrl146_0 : 1 * w146_mo_4 + -1 * xq + 0 ≤ (-1)) (hrl146_1 : 1 * w146_mo_4 + 1 * v146_2 + -1 * xq + 0 ≤ 0) (hrl146_2 : 0 ≤ -1 * xp + 1 * w146_mo_4 + 0) (hlt146 : 48 ≤ q_z f bu (Int.toNat w146_mo_4) ∧ q_z f bu (Int.toNat w146_mo_4) ≤ 57) (hmu : (Int.toNat (601 - v146_2)) < n) (H : Heap) (locs : List Loc) (hB : q_B g K L (fun q => q ∈ L) [(12, 4, 7), (12, 12, 12)] f f146 s H locs) (ls : Array Slot) (hl : lv_has ls 3 [(0, .ref mo), (2, .int (q_i v146_2))]), W p l e { frames := 1, cells := 0, slots := 0, locals := 21 } s m ([.ref mo] : List Value).toArray below meth c H locs 0 0 (MQ below (q_Q g K L [(12, 4, 7), (12, 12, 12)] f (q_Pv (fun (f1 : Nat → va_E) => (xp ≤ q_z f1 mo 4) ∧ (k_po (q_z f1 mo 6) (q_z f1 mo 4) xp)))) ([.ref mo] : List Value).toArray s 0 0 (fun q => q ∈ L)) (F0 m 146 ls []) := by
    intro n
    induction n with
    | zero =>
      intro f146 v146_2 lv146_2 uv146_2 w146_mo_4 lw146_mo_4 uw146_mo_4 buxp blxq hj_mo_3 hj_mo_4 hq_mo_1 hrl146_0 hrl146_1 hrl146_2 hlt146 hmu
      exact absurd hmu (Nat.not_lt_zero _)
    | succ n ih146 =>
      intro f146 v146_2 lv146_2 uv146_2 w146_mo_4 lw146_mo_4 uw146_mo_4 buxp blxq hj_mo_3 hj_mo_4 hq_mo_1 hrl146_0 hrl146_1 hrl146_2 hlt146 hmu H locs hB ls hl
      refine q_ald_n cx dX12_goOn_146 rfl (lv_at hl 0 rfl) ?_
      refine q_ild_n cx dX12_goOn_147 rfl (lv_at hl 1 rfl) ?_
      refine q_cVi (As := [.int (q_i v146_2)]) (rest := []) cx hB (fun _ h => h) hN hmo kmo (by decide) rfl (r_here l g hN hB.2.1 mo hmo kmo v146_2 (by omega) (by omega) bu hbu kbu w146_mo_4 (by omega) (by omega) xq (by omega) (by omega) hj_mo_4 hj_mo_3 hq_mo_1) q_cX12_103 q_dX12_here (by decide) rfl rfl hl.1 rfl (Nat.le_of_ble_eq_true rfl) dX12_goOn_148 (fun y5120 H locs f5119 ry5120 h5121 hF hB => ?_)
      rcases h5121 with h5122 | h5123
      · obtain ⟨rfl, ly5120, uy5120, t5124, t5125⟩ := h5122
        refine q_cSi (As := [.int (q_i y5120)]) (rest := []) cx hB (fun _ h => h) hN (r_isDigit l g hN hB.2.1 y5120 (by omega) (by omega)) q_cX12_124 q_dX12_isDigit (by decide) rfl rfl hl.1 rfl (Nat.le_of_ble_eq_true rfl) dX12_goOn_151 (fun y5127 H locs f5126 ry5127 h5128 hF hB => ?_)
        rcases h5128 with h5129 | h5130
        · obtain ⟨rfl, qy5127, t5131, t5132⟩ := h5129
          subst qy5127
          refine q_ifeq (tgt := 188) cx ⟨by decide, by decide⟩ dX12_goOn_154 (by decide) (fun c5133 => ?_) (fun c5133 => ?_)
          · exact absurd c5133 (by omega)
          · refine q_ild_n cx dX12_goOn_157 rfl (lv_at hl 1 rfl) ?_
            refine q_iconst cx dX12_goOn_158 ?_
            refine q_icge (tgt := 182) cx ⟨by omega, by omega⟩ ⟨by decide, by decide⟩ dX12_goOn_159 (by decide) (fun c5134 => ?_) (fun c5134 => ?_)
            · refine q_iinc (lv' := [(2, .int (q_i (v146_2 + 1))), (0, .ref mo)]) cx dX12_goOn_182 hl (k := 1) rfl (by decide) rfl (fun ls hl => ?_)
              refine lv_goto (tgt := 146) cx.1 cx.2.1 dX12_goOn_185 (by decide) ?_
              exact ih146 f146 (v146_2 + 1) (by omega) (by omega) w146_mo_4 (by omega) (by omega) (by omega) (by omega) hj_mo_3 hj_mo_4 hq_mo_1 (by omega) (by omega) (by omega) hlt146 (by omega) H locs hB ls (lv_sub hl [1, 0] rfl)
            · refine q_ald_n cx dX12_goOn_162 rfl (lv_at hl 0 rfl) ?_
              refine q_bipush cx dX12_goOn_163 rfl ?_
              refine q_ald_n cx dX12_goOn_165 rfl (lv_at hl 0 rfl) ?_
              obtain ⟨x5135, ex5135⟩ : ∃ zz, q_is (q_z f146 mo 7) zz := ⟨_, q_isr _⟩
              refine q_gX12_114 cx hB hmo kmo ex5135 dX12_goOn_166 (fun lb5136 ub5136 => ?_)
              refine q_imul cx dX12_goOn_169 ?_
              refine q_any (fun y5137 ry5137 ey5137 => ?_)
              refine q_ald_n cx dX12_goOn_170 rfl (lv_at hl 0 rfl) ?_
              refine q_ild_n cx dX12_goOn_171 rfl (lv_at hl 1 rfl) ?_
              refine q_cVi (As := [.int (q_i v146_2)]) (rest := [.int (q_i y5137), .ref mo]) cx hB (fun _ h => h) hN hmo kmo (by decide) rfl (r_here l g hN hB.2.1 mo hmo kmo v146_2 (by omega) (by omega) bu hbu kbu w146_mo_4 (by omega) (by omega) xq (by omega) (by omega) hj_mo_4 hj_mo_3 hq_mo_1) q_cX12_103 q_dX12_here (by decide) rfl rfl hl.1 rfl (Nat.le_of_ble_eq_true rfl) dX12_goOn_172 (fun y5139 H locs f5138 ry5139 h5140 hF hB => ?_)
              rcases h5140 with h5141 | h5142
              · obtain ⟨rfl, ly5139, uy5139, t5143, t5144⟩ := h5141
                refine q_iadd cx dX12_goOn_175 ?_
                refine q_any (fun y5145 ry5145 ey5145 => ?_)
                refine q_bipush cx dX12_goOn_176 rfl ?_
                refine q_isub cx dX12_goOn_178 ?_
                refine q_any (fun y5146 ry5146 ey5146 => ?_)
                refine q_pX12_114 cx hB hmo kmo ⟨by omega, by omega⟩ (by omega) (by omega) rfl dX12_goOn_179 (fun H locs f5147 ef5147 z5148 hB => ?_)
                have z5149 : q_is (q_z f5147 mo 3) xq := by rw [ef5147, q_setz (Or.inr (by decide))]; exact hj_mo_3
                have z5150 : q_is (q_z f5147 mo 4) w146_mo_4 := by rw [ef5147, q_setz (Or.inr (by decide))]; exact hj_mo_4
                have z5151 : q_ir (q_r f5147 mo 1) bu := by rw [ef5147, q_setr (Or.inr (by decide))]; exact hq_mo_1
                refine q_iinc (lv' := [(2, .int (q_i (v146_2 + 1))), (0, .ref mo)]) cx dX12_goOn_182 hl (k := 1) rfl (by decide) rfl (fun ls hl => ?_)
                refine lv_goto (tgt := 146) cx.1 cx.2.1 dX12_goOn_185 (by decide) ?_
                exact ih146 f5147 (v146_2 + 1) (by omega) (by omega) w146_mo_4 (by omega) (by omega) (by omega) (by omega) z5149 z5150 z5151 (by omega) (by omega) (by omega) hlt146 (by omega) H locs hB ls (lv_sub hl [1, 0] rfl)
              · obtain ⟨rfl, qy5139, t5152⟩ := h5142
                subst qy5139
                exact False.elim (by omega)
        · obtain ⟨rfl, qy5127, t5153⟩ := h5130
          subst qy5127
          refine q_ifeq (tgt := 188) cx ⟨by decide, by decide⟩ dX12_goOn_154 (by decide) (fun c5154 => ?_) (fun c5154 => ?_)
          · have h1n : 1 ≤ v146_2 := k_n1 hlt146 t5124 (hB.2.2.z hbu (by rw [kbu]; rfl)).symm t5153 (by omega)
            refine q_ald_n cx dX12_goOn_188 rfl (lv_at hl 0 rfl) ?_
            refine q_ild_n cx dX12_goOn_189 rfl (lv_at hl 1 rfl) ?_
            refine q_iconst cx dX12_goOn_190 ?_
            refine q_icle (tgt := 198) cx ⟨by omega, by omega⟩ ⟨by decide, by decide⟩ dX12_goOn_191 (by decide) (fun c5155 => ?_) (fun c5155 => ?_)
            · refine q_iconst cx dX12_goOn_198 ?_
              refine q_pX12_117 cx hB hmo kmo ⟨by decide, by decide⟩ (by decide) (by decide) rfl dX12_goOn_199 (fun H locs f5156 ef5156 z5157 hB => ?_)
              have z5158 : q_is (q_z f5156 mo 3) xq := by rw [ef5156, q_setz (Or.inr (by decide))]; exact hj_mo_3
              have z5159 : q_is (q_z f5156 mo 4) w146_mo_4 := by rw [ef5156, q_setz (Or.inr (by decide))]; exact hj_mo_4
              have z5160 : q_ir (q_r f5156 mo 1) bu := by rw [ef5156, q_setr (Or.inr (by decide))]; exact hq_mo_1
              refine lv_goto (tgt := 239) cx.1 cx.2.1 dX12_goOn_202 (by decide) ?_
              refine q_ald_n cx dX12_goOn_239 rfl (lv_at hl 0 rfl) ?_
              refine lv_dup cx.1 cx.2.1 dX12_goOn_240 rfl ?_
              refine q_gX12_97 cx hB hmo kmo z5159 dX12_goOn_241 (fun lb5161 ub5161 => ?_)
              refine q_ild_n cx dX12_goOn_244 rfl (lv_at hl 1 rfl) ?_
              refine q_iadd cx dX12_goOn_245 ?_
              refine q_pX12_97 cx hB hmo kmo ⟨by omega, by omega⟩ (by omega) (by omega) rfl dX12_goOn_246 (fun H locs f5162 ef5162 z5163 hB => ?_)
              have z5164 : q_is (q_z f5162 mo 3) xq := by rw [ef5162, q_setz (Or.inr (by decide))]; exact z5158
              have z5165 : q_is (q_z f5162 mo 6) 2 := by rw [ef5162, q_setz (Or.inr (by decide))]; exact z5157
              have z5166 : q_ir (q_r f5162 mo 1) bu := by rw [ef5162, q_setr (Or.inr (by decide))]; exact z5160
              refine q_vret cx hr hlk hB dX12_goOn_249 ?_
              exact ⟨(q_isl z5163 (by omega)), (k_po_is z5165 z5163 (show _ ∨ _ by omega))⟩
            · refine q_iconst cx dX12_goOn_194 ?_
              refine lv_goto (tgt := 199) cx.1 cx.2.1 dX12_goOn_195 (by decide) ?_
              refine q_pX12_117 cx hB hmo kmo ⟨by decide, by decide⟩ (by decide) (by decide) rfl dX12_goOn_199 (fun H locs f5167 ef5167 z5168 hB => ?_)
              have z5169 : q_is (q_z f5167 mo 3) xq := by rw [ef5167, q_setz (Or.inr (by decide))]; exact hj_mo_3
              have z5170 : q_is (q_z f5167 mo 4) w146_mo_4 := by rw [ef5167, q_setz (Or.inr (by decide))]; exact hj_mo_4
              have z5171 : q_ir (q_r f5167 mo 1) bu := by rw [ef5167, q_setr (Or.inr (by decide))]; exact hq_mo_1
              refine lv_goto (tgt := 239) cx.1 cx.2.1 dX12_goOn_202 (by decide) ?_
              refine q_ald_n cx dX12_goOn_239 rfl (lv_at hl 0 rfl) ?_
              refine lv_dup cx.1 cx.2.1 dX12_goOn_240 rfl ?_
              refine q_gX12_97 cx hB hmo kmo z5170 dX12_goOn_241 (fun lb5172 ub5172 => ?_)
              refine q_ild_n cx dX12_goOn_244 rfl (lv_at hl 1 rfl) ?_
              refine q_iadd cx dX12_goOn_245 ?_
              refine q_pX12_97 cx hB hmo kmo ⟨by omega, by omega⟩ (by omega) (by omega) rfl dX12_goOn_246 (fun H locs f5173 ef5173 z5174 hB => ?_)
              have z5175 : q_is (q_z f5173 mo 3) xq := by rw [ef5173, q_setz (Or.inr (by decide))]; exact z5169
              have z5176 : q_is (q_z f5173 mo 6) 4 := by rw [ef5173, q_setz (Or.inr (by decide))]; exact z5168
              have z5177 : q_ir (q_r f5173 mo 1) bu := by rw [ef5173, q_setr (Or.inr (by decide))]; exact z5171
              refine q_vret cx hr hlk hB dX12_goOn_249 ?_
              exact ⟨(q_isl z5174 (by omega)), (k_po_is z5176 z5174 (show _ ∨ _ by omega))⟩
          · exact absurd c5154 (by omega)
      · obtain ⟨rfl, qy5120, t5178⟩ := h5123
        subst qy5120
        refine q_cSi (As := [.int (q_i (-1))]) (rest := []) cx hB (fun _ h => h) hN (r_isDigit l g hN hB.2.1 (-1) (by decide) (by decide)) q_cX12_124 q_dX12_isDigit (by decide) rfl rfl hl.1 rfl (Nat.le_of_ble_eq_true rfl) dX12_goOn_151 (fun y5180 H locs f5179 ry5180 h5181 hF hB => ?_)
        rcases h5181 with h5182 | h5183
        · obtain ⟨rfl, qy5180, t5184, t5185⟩ := h5182
          subst qy5180
          exact False.elim (by omega)
        · obtain ⟨rfl, qy5180, t5186⟩ := h5183
          subst qy5180
          refine q_ifeq (tgt := 188) cx ⟨by decide, by decide⟩ dX12_goOn_154 (by decide) (fun c5187 => ?_) (fun c5187 => ?_)
          · have h1n : 1 ≤ v146_2 := by omega
            refine q_ald_n cx dX12_goOn_188 rfl (lv_at hl 0 rfl) ?_
            refine q_ild_n cx dX12_goOn_189 rfl (lv_at hl 1 rfl) ?_
            refine q_iconst cx dX12_goOn_190 ?_
            refine q_icle (tgt := 198) cx ⟨by omega, by omega⟩ ⟨by decide, by decide⟩ dX12_goOn_191 (by decide) (fun c5188 => ?_) (fun c5188 => ?_)
            · refine q_iconst cx dX12_goOn_198 ?_
              refine q_pX12_117 cx hB hmo kmo ⟨by decide, by decide⟩ (by decide) (by decide) rfl dX12_goOn_199 (fun H locs f5189 ef5189 z5190 hB => ?_)
              have z5191 : q_is (q_z f5189 mo 3) xq := by rw [ef5189, q_setz (Or.inr (by decide))]; exact hj_mo_3
              have z5192 : q_is (q_z f5189 mo 4) w146_mo_4 := by rw [ef5189, q_setz (Or.inr (by decide))]; exact hj_mo_4
              have z5193 : q_ir (q_r f5189 mo 1) bu := by rw [ef5189, q_setr (Or.inr (by decide))]; exact hq_mo_1
              refine lv_goto (tgt := 239) cx.1 cx.2.1 dX12_goOn_202 (by decide) ?_
              refine q_ald_n cx dX12_goOn_239 rfl (lv_at hl 0 rfl) ?_
              refine lv_dup cx.1 cx.2.1 dX12_goOn_240 rfl ?_
              refine q_gX12_97 cx hB hmo kmo z5192 dX12_goOn_241 (fun lb5194 ub5194 => ?_)
              refine q_ild_n cx dX12_goOn_244 rfl (lv_at hl 1 rfl) ?_
              refine q_iadd cx dX12_goOn_245 ?_
              refine q_pX12_97 cx hB hmo kmo ⟨by omega, by omega⟩ (by omega) (by omega) rfl dX12_goOn_246 (fun H locs f5195 ef5195 z5196 hB => ?_)
              have z5197 : q_is (q_z f5195 mo 3) xq := by rw [ef5195, q_setz (Or.inr (by decide))]; exact z5191
              have z5198 : q_is (q_z f5195 mo 6) 2 := by rw [ef5195, q_setz (Or.inr (by decide))]; exact z5190
              have z5199 : q_ir (q_r f5195 mo 1) bu := by rw [ef5195, q_setr (Or.inr (by decide))]; exact z5193
              refine q_vret cx hr hlk hB dX12_goOn_249 ?_
              exact ⟨(q_isl z5196 (by omega)), (k_po_is z5198 z5196 (show _ ∨ _ by omega))⟩
            · refine q_iconst cx dX12_goOn_194 ?_
              refine lv_goto (tgt := 199) cx.1 cx.2.1 dX12_goOn_195 (by decide) ?_
              refine q_pX12_117 cx hB hmo kmo ⟨by decide, by decide⟩ (by decide) (by decide) rfl dX12_goOn_199 (fun H locs f5200 ef5200 z5201 hB => ?_)
              have z5202 : q_is (q_z f5200 mo 3) xq := by rw [ef5200, q_setz (Or.inr (by decide))]; exact hj_mo_3
              have z5203 : q_is (q_z f5200 mo 4) w146_mo_4 := by rw [ef5200, q_setz (Or.inr (by decide))]; exact hj_mo_4
              have z5204 : q_ir (q_r f5200 mo 1) bu := by rw [ef5200, q_setr (Or.inr (by decide))]; exact hq_mo_1
              refine lv_goto (tgt := 239) cx.1 cx.2.1 dX12_goOn_202 (by decide) ?_
              refine q_ald_n cx dX12_goOn_239 rfl (lv_at hl 0 rfl) ?_
              refine lv_dup cx.1 cx.2.1 dX12_goOn_240 rfl ?_
              refine q_gX12_97 cx hB hmo kmo z5203 dX12_goOn_241 (fun lb5205 ub5205 => ?_)
              refine q_ild_n cx dX12_goOn_244 rfl (lv_at hl 1 rfl) ?_
              refine q_iadd cx dX12_goOn_245 ?_
              refine q_pX12_97 cx hB hmo kmo ⟨by omega, by omega⟩ (by omega) (by omega) rfl dX12_goOn_246 (fun H locs f5206 ef5206 z5207 hB => ?_)
              have z5208 : q_is (q_z f5206 mo 3) xq := by rw [ef5206, q_setz (Or.inr (by decide))]; exact z5202
              have z5209 : q_is (q_z f5206 mo 6) 4 := by rw [ef5206, q_setz (Or.inr (by decide))]; exact z5201
              have z5210 : q_ir (q_r f5206 mo 1) bu := by rw [ef5206, q_setr (Or.inr (by decide))]; exact z5204
              refine q_vret cx hr hlk hB dX12_goOn_249 ?_
              exact ⟨(q_isl z5207 (by omega)), (k_po_is z5209 z5207 (show _ ∨ _ by omega))⟩
          · exact absurd c5187 (by omega)
  have J0 : ∀ (n : Nat) (f0 : Nat → va_E) (w0_mo_4 : Int) (lw0_mo_4 : 0 ≤ w0_mo_4) (uw0_mo_4 : w0_mo_4 ≤ 600) (hj_mo_3 : q_is (q_z f0 mo 3) xq) (hj_mo_4 : q_is (q_z f0 mo 4) w0_mo_4) (hq_mo_1 : q_ir (q_r f0 mo 1) bu) (hrl0_0 : 0 ≤ -1 * xp + 1 * w0_mo_4 + 0) (hmu : (Int.toNat (601 - w0_mo_4)) < n) (H : Heap) (locs : List Loc) (hB : q_B g K L (fun q => q ∈ L) [(12, 4, 7), (12, 12, 12)] f f0 s H locs) (ls : Array Slot) (hl : lv_has ls 3 [(0, .ref mo)]), W p l e { frames := 1, cells := 0, slots := 0, locals := 21 } s m ([.ref mo] : List Value).toArray below meth c H locs 0 0 (MQ below (q_Q g K L [(12, 4, 7), (12, 12, 12)] f (q_Pv (fun (f1 : Nat → va_E) => (xp ≤ q_z f1 mo 4) ∧ (k_po (q_z f1 mo 6) (q_z f1 mo 4) xp)))) ([.ref mo] : List Value).toArray s 0 0 (fun q => q ∈ L)) (F0 m 0 ls []) := by
    intro n
    induction n with
    | zero =>
      intro f0 w0_mo_4 lw0_mo_4 uw0_mo_4 hj_mo_3 hj_mo_4 hq_mo_1 hrl0_0 hmu
      exact absurd hmu (Nat.not_lt_zero _)
    | succ n ih0 =>
      intro f0 w0_mo_4 lw0_mo_4 uw0_mo_4 hj_mo_3 hj_mo_4 hq_mo_1 hrl0_0 hmu H locs hB ls hl
      refine q_ald_n cx dX12_goOn_0 rfl (lv_at hl 0 rfl) ?_
      refine q_iconst cx dX12_goOn_1 ?_
      refine q_cVi (As := [.int (q_i 0)]) (rest := []) cx hB (fun _ h => h) hN hmo kmo (by decide) rfl (r_here l g hN hB.2.1 mo hmo kmo 0 (by decide) (by decide) bu hbu kbu w0_mo_4 (by omega) (by omega) xq (by omega) (by omega) hj_mo_4 hj_mo_3 hq_mo_1) q_cX12_103 q_dX12_here (by decide) rfl rfl hl.1 rfl (Nat.le_of_ble_eq_true rfl) dX12_goOn_2 (fun y5212 H locs f5211 ry5212 h5213 hF hB => ?_)
      rcases h5213 with h5214 | h5215
      · obtain ⟨rfl, ly5212, uy5212, t5216, t5217⟩ := h5214
        refine q_bipush cx dX12_goOn_5 rfl ?_
        refine q_iceq (tgt := 20) cx ⟨by omega, by omega⟩ ⟨by decide, by decide⟩ dX12_goOn_7 (by decide) (fun c5218 => ?_) (fun c5218 => ?_)
        · refine q_ald_n cx dX12_goOn_20 rfl (lv_at hl 0 rfl) ?_
          refine lv_dup cx.1 cx.2.1 dX12_goOn_21 rfl ?_
          refine q_gX12_97 cx hB hmo kmo hj_mo_4 dX12_goOn_22 (fun lb5219 ub5219 => ?_)
          refine q_iconst cx dX12_goOn_25 ?_
          refine q_iadd cx dX12_goOn_26 ?_
          refine q_pX12_97 cx hB hmo kmo ⟨by omega, by omega⟩ (by omega) (by omega) rfl dX12_goOn_27 (fun H locs f5220 ef5220 z5221 hB => ?_)
          have z5222 : q_is (q_z f5220 mo 3) xq := by rw [ef5220, q_setz (Or.inr (by decide))]; exact hj_mo_3
          have z5223 : q_ir (q_r f5220 mo 1) bu := by rw [ef5220, q_setr (Or.inr (by decide))]; exact hq_mo_1
          refine lv_goto (tgt := 0) cx.1 cx.2.1 dX12_goOn_30 (by decide) ?_
          exact ih0 f5220 (w0_mo_4 + 1) (by omega) (by omega) z5222 z5221 z5223 (by omega) (by omega) H locs hB ls (lv_sub hl [0] rfl)
        · refine q_ald_n cx dX12_goOn_10 rfl (lv_at hl 0 rfl) ?_
          refine q_iconst cx dX12_goOn_11 ?_
          refine q_cVi (As := [.int (q_i 0)]) (rest := []) cx hB (fun _ h => h) hN hmo kmo (by decide) rfl (r_here l g hN hB.2.1 mo hmo kmo 0 (by decide) (by decide) bu hbu kbu w0_mo_4 (by omega) (by omega) xq (by omega) (by omega) hj_mo_4 hj_mo_3 hq_mo_1) q_cX12_103 q_dX12_here (by decide) rfl rfl hl.1 rfl (Nat.le_of_ble_eq_true rfl) dX12_goOn_12 (fun y5225 H locs f5224 ry5225 h5226 hF hB => ?_)
          rcases h5226 with h5227 | h5228
          · obtain ⟨rfl, ly5225, uy5225, t5229, t5230⟩ := h5227
            refine q_bipush cx dX12_goOn_15 rfl ?_
            refine q_icne (tgt := 33) cx ⟨by omega, by omega⟩ ⟨by decide, by decide⟩ dX12_goOn_17 (by decide) (fun c5231 => ?_) (fun c5231 => ?_)
            · refine q_ald_n cx dX12_goOn_33 rfl (lv_at hl 0 rfl) ?_
              refine q_ald_n cx dX12_goOn_34 rfl (lv_at hl 0 rfl) ?_
              refine q_gX12_97 cx hB hmo kmo hj_mo_4 dX12_goOn_35 (fun lb5232 ub5232 => ?_)
              refine q_pX12_107 cx hB hmo kmo ⟨by omega, by omega⟩ (by omega) (by omega) rfl dX12_goOn_38 (fun H locs f5233 ef5233 z5234 hB => ?_)
              have z5235 : q_is (q_z f5233 mo 3) xq := by rw [ef5233, q_setz (Or.inr (by decide))]; exact hj_mo_3
              have z5236 : q_is (q_z f5233 mo 4) w0_mo_4 := by rw [ef5233, q_setz (Or.inr (by decide))]; exact hj_mo_4
              have z5237 : q_ir (q_r f5233 mo 1) bu := by rw [ef5233, q_setr (Or.inr (by decide))]; exact hq_mo_1
              refine q_ald_n cx dX12_goOn_41 rfl (lv_at hl 0 rfl) ?_
              refine q_lconst (z := 0) cx (by decide) dX12_goOn_42 ?_
              refine q_pX12_110 cx hB hmo kmo rfl dX12_goOn_43 (fun H locs f5238 ef5238 z5239 hB => ?_)
              have z5240 : q_is (q_z f5238 mo 3) xq := by rw [ef5238, q_setz (Or.inr (by decide))]; exact z5235
              have z5241 : q_is (q_z f5238 mo 4) w0_mo_4 := by rw [ef5238, q_setz (Or.inr (by decide))]; exact z5236
              have z5242 : q_is (q_z f5238 mo 5) w0_mo_4 := by rw [ef5238, q_setz (Or.inr (by decide))]; exact z5234
              have z5243 : q_ir (q_r f5238 mo 1) bu := by rw [ef5238, q_setr (Or.inr (by decide))]; exact z5237
              refine q_ald_n cx dX12_goOn_46 rfl (lv_at hl 0 rfl) ?_
              refine q_iconst cx dX12_goOn_47 ?_
              refine q_pX12_114 cx hB hmo kmo ⟨by decide, by decide⟩ (by decide) (by decide) rfl dX12_goOn_48 (fun H locs f5244 ef5244 z5245 hB => ?_)
              have z5246 : q_is (q_z f5244 mo 3) xq := by rw [ef5244, q_setz (Or.inr (by decide))]; exact z5240
              have z5247 : q_is (q_z f5244 mo 4) w0_mo_4 := by rw [ef5244, q_setz (Or.inr (by decide))]; exact z5241
              have z5248 : q_is (q_z f5244 mo 5) w0_mo_4 := by rw [ef5244, q_setz (Or.inr (by decide))]; exact z5242
              have z5249 : q_ir (q_r f5244 mo 1) bu := by rw [ef5244, q_setr (Or.inr (by decide))]; exact z5243
              refine q_ald_n cx dX12_goOn_51 rfl (lv_at hl 0 rfl) ?_
              refine q_iconst cx dX12_goOn_52 ?_
              refine q_cVi (As := [.int (q_i 0)]) (rest := []) cx hB (fun _ h => h) hN hmo kmo (by decide) rfl (r_here l g hN hB.2.1 mo hmo kmo 0 (by decide) (by decide) bu hbu kbu w0_mo_4 (by omega) (by omega) xq (by omega) (by omega) z5247 z5246 z5249) q_cX12_103 q_dX12_here (by decide) rfl rfl hl.1 rfl (Nat.le_of_ble_eq_true rfl) dX12_goOn_53 (fun y5251 H locs f5250 ry5251 h5252 hF hB => ?_)
              rcases h5252 with h5253 | h5254
              · obtain ⟨rfl, ly5251, uy5251, t5255, t5256⟩ := h5253
                refine lv_istore_n (lv' := [(1, .int (q_i y5251)), (0, .ref mo)]) cx.1 cx.2.1 dX12_goOn_56 rfl hl (by decide) rfl (fun ls hl => ?_)
                refine q_iconst cx dX12_goOn_57 ?_
                refine lv_istore_n (lv' := [(2, .int (q_i 0)), (1, .int (q_i y5251)), (0, .ref mo)]) cx.1 cx.2.1 dX12_goOn_58 rfl hl (by decide) rfl (fun ls hl => ?_)
                refine q_ild_n cx dX12_goOn_59 rfl (lv_at hl 1 rfl) ?_
                refine q_ifge (tgt := 69) cx ⟨by omega, by omega⟩ dX12_goOn_60 (by decide) (fun c5257 => ?_) (fun c5257 => ?_)
                · refine q_ild_n cx dX12_goOn_69 rfl (lv_at hl 1 rfl) ?_
                  refine q_cSi (As := [.int (q_i y5251)]) (rest := []) cx hB (fun _ h => h) hN (r_isLetter l g hN hB.2.1 y5251 (by omega) (by omega)) q_cX12_120 q_dX12_isLetter (by decide) rfl rfl hl.1 rfl (Nat.le_of_ble_eq_true rfl) dX12_goOn_70 (fun y5259 H locs f5258 ry5259 h5260 hF hB => ?_)
                  rcases h5260 with h5261 | h5262
                  · obtain ⟨rfl, qy5259, t5263, t5264⟩ := h5261
                    subst qy5259
                    refine q_ifeq (tgt := 139) cx ⟨by decide, by decide⟩ dX12_goOn_73 (by decide) (fun c5265 => ?_) (fun c5265 => ?_)
                    · exact absurd c5265 (by omega)
                    · exact J76 ((Int.toNat (601 - 0)) + 1) f5244 0 (by decide) (by decide) w0_mo_4 (by omega) (by omega) (by omega) (by omega) z5246 z5247 z5249 (by omega) (by omega) (by omega) (k_lt0 t5255 (hB.2.2.z hbu (by rw [kbu]; rfl)).symm (by omega) (by omega)) (Nat.lt_succ_self _) H locs hB ls (lv_sub hl [2, 0] rfl)
                  · obtain ⟨rfl, qy5259, t5266⟩ := h5262
                    subst qy5259
                    refine q_ifeq (tgt := 139) cx ⟨by decide, by decide⟩ dX12_goOn_73 (by decide) (fun c5267 => ?_) (fun c5267 => ?_)
                    · refine q_ild_n cx dX12_goOn_139 rfl (lv_at hl 1 rfl) ?_
                      refine q_cSi (As := [.int (q_i y5251)]) (rest := []) cx hB (fun _ h => h) hN (r_isDigit l g hN hB.2.1 y5251 (by omega) (by omega)) q_cX12_124 q_dX12_isDigit (by decide) rfl rfl hl.1 rfl (Nat.le_of_ble_eq_true rfl) dX12_goOn_140 (fun y5269 H locs f5268 ry5269 h5270 hF hB => ?_)
                      rcases h5270 with h5271 | h5272
                      · obtain ⟨rfl, qy5269, t5273, t5274⟩ := h5271
                        subst qy5269
                        refine q_ifeq (tgt := 205) cx ⟨by decide, by decide⟩ dX12_goOn_143 (by decide) (fun c5275 => ?_) (fun c5275 => ?_)
                        · exact absurd c5275 (by omega)
                        · exact J146 ((Int.toNat (601 - 0)) + 1) f5244 0 (by decide) (by decide) w0_mo_4 (by omega) (by omega) (by omega) (by omega) z5246 z5247 z5249 (by omega) (by omega) (by omega) (k_lt0 t5255 (hB.2.2.z hbu (by rw [kbu]; rfl)).symm (by omega) (by omega)) (Nat.lt_succ_self _) H locs hB ls (lv_sub hl [2, 0] rfl)
                      · obtain ⟨rfl, qy5269, t5276⟩ := h5272
                        subst qy5269
                        refine q_ifeq (tgt := 205) cx ⟨by decide, by decide⟩ dX12_goOn_143 (by decide) (fun c5277 => ?_) (fun c5277 => ?_)
                        · refine q_ald_n cx dX12_goOn_205 rfl (lv_at hl 2 rfl) ?_
                          refine q_ild_n cx dX12_goOn_206 rfl (lv_at hl 1 rfl) ?_
                          refine q_bipush cx dX12_goOn_207 rfl ?_
                          refine q_iceq (tgt := 224) cx ⟨by omega, by omega⟩ ⟨by decide, by decide⟩ dX12_goOn_209 (by decide) (fun c5278 => ?_) (fun c5278 => ?_)
                          · refine q_iconst cx dX12_goOn_224 ?_
                            refine lv_goto (tgt := 229) cx.1 cx.2.1 dX12_goOn_225 (by decide) ?_
                            refine q_pX12_117 cx hB hmo kmo ⟨by decide, by decide⟩ (by decide) (by decide) rfl dX12_goOn_229 (fun H locs f5279 ef5279 z5280 hB => ?_)
                            have z5281 : q_is (q_z f5279 mo 3) xq := by rw [ef5279, q_setz (Or.inr (by decide))]; exact z5246
                            have z5282 : q_is (q_z f5279 mo 4) w0_mo_4 := by rw [ef5279, q_setz (Or.inr (by decide))]; exact z5247
                            have z5283 : q_is (q_z f5279 mo 5) w0_mo_4 := by rw [ef5279, q_setz (Or.inr (by decide))]; exact z5248
                            have z5284 : q_is (q_z f5279 mo 7) 0 := by rw [ef5279, q_setz (Or.inr (by decide))]; exact z5245
                            have z5285 : q_ir (q_r f5279 mo 1) bu := by rw [ef5279, q_setr (Or.inr (by decide))]; exact z5249
                            refine q_ald_n cx dX12_goOn_232 rfl (lv_at hl 2 rfl) ?_
                            refine q_ild_n cx dX12_goOn_233 rfl (lv_at hl 1 rfl) ?_
                            refine q_pX12_114 cx hB hmo kmo ⟨by omega, by omega⟩ (by omega) (by omega) rfl dX12_goOn_234 (fun H locs f5286 ef5286 z5287 hB => ?_)
                            have z5288 : q_is (q_z f5286 mo 3) xq := by rw [ef5286, q_setz (Or.inr (by decide))]; exact z5281
                            have z5289 : q_is (q_z f5286 mo 4) w0_mo_4 := by rw [ef5286, q_setz (Or.inr (by decide))]; exact z5282
                            have z5290 : q_is (q_z f5286 mo 5) w0_mo_4 := by rw [ef5286, q_setz (Or.inr (by decide))]; exact z5283
                            have z5291 : q_is (q_z f5286 mo 6) 3 := by rw [ef5286, q_setz (Or.inr (by decide))]; exact z5280
                            have z5292 : q_ir (q_r f5286 mo 1) bu := by rw [ef5286, q_setr (Or.inr (by decide))]; exact z5285
                            refine q_iconst cx dX12_goOn_237 ?_
                            refine lv_istore_n (lv' := [(2, .int (q_i 1)), (1, .int (q_i y5251)), (0, .ref mo)]) cx.1 cx.2.1 dX12_goOn_238 rfl hl (by decide) rfl (fun ls hl => ?_)
                            refine q_ald_n cx dX12_goOn_239 rfl (lv_at hl 2 rfl) ?_
                            refine lv_dup cx.1 cx.2.1 dX12_goOn_240 rfl ?_
                            refine q_gX12_97 cx hB hmo kmo z5289 dX12_goOn_241 (fun lb5293 ub5293 => ?_)
                            refine q_ild_n cx dX12_goOn_244 rfl (lv_at hl 0 rfl) ?_
                            refine q_iadd cx dX12_goOn_245 ?_
                            refine q_pX12_97 cx hB hmo kmo ⟨by omega, by omega⟩ (by omega) (by omega) rfl dX12_goOn_246 (fun H locs f5294 ef5294 z5295 hB => ?_)
                            have z5296 : q_is (q_z f5294 mo 3) xq := by rw [ef5294, q_setz (Or.inr (by decide))]; exact z5288
                            have z5297 : q_is (q_z f5294 mo 5) w0_mo_4 := by rw [ef5294, q_setz (Or.inr (by decide))]; exact z5290
                            have z5298 : q_is (q_z f5294 mo 6) 3 := by rw [ef5294, q_setz (Or.inr (by decide))]; exact z5291
                            have z5299 : q_is (q_z f5294 mo 7) y5251 := by rw [ef5294, q_setz (Or.inr (by decide))]; exact z5287
                            have z5300 : q_ir (q_r f5294 mo 1) bu := by rw [ef5294, q_setr (Or.inr (by decide))]; exact z5292
                            refine q_vret cx hr hlk hB dX12_goOn_249 ?_
                            exact ⟨(q_isl z5295 (by omega)), (k_po_is z5298 z5295 (show _ ∨ _ by omega))⟩
                          · refine q_ild_n cx dX12_goOn_212 rfl (lv_at hl 1 rfl) ?_
                            refine q_bipush cx dX12_goOn_213 rfl ?_
                            refine q_iceq (tgt := 224) cx ⟨by omega, by omega⟩ ⟨by decide, by decide⟩ dX12_goOn_215 (by decide) (fun c5301 => ?_) (fun c5301 => ?_)
                            · refine q_iconst cx dX12_goOn_224 ?_
                              refine lv_goto (tgt := 229) cx.1 cx.2.1 dX12_goOn_225 (by decide) ?_
                              refine q_pX12_117 cx hB hmo kmo ⟨by decide, by decide⟩ (by decide) (by decide) rfl dX12_goOn_229 (fun H locs f5302 ef5302 z5303 hB => ?_)
                              have z5304 : q_is (q_z f5302 mo 3) xq := by rw [ef5302, q_setz (Or.inr (by decide))]; exact z5246
                              have z5305 : q_is (q_z f5302 mo 4) w0_mo_4 := by rw [ef5302, q_setz (Or.inr (by decide))]; exact z5247
                              have z5306 : q_is (q_z f5302 mo 5) w0_mo_4 := by rw [ef5302, q_setz (Or.inr (by decide))]; exact z5248
                              have z5307 : q_is (q_z f5302 mo 7) 0 := by rw [ef5302, q_setz (Or.inr (by decide))]; exact z5245
                              have z5308 : q_ir (q_r f5302 mo 1) bu := by rw [ef5302, q_setr (Or.inr (by decide))]; exact z5249
                              refine q_ald_n cx dX12_goOn_232 rfl (lv_at hl 2 rfl) ?_
                              refine q_ild_n cx dX12_goOn_233 rfl (lv_at hl 1 rfl) ?_
                              refine q_pX12_114 cx hB hmo kmo ⟨by omega, by omega⟩ (by omega) (by omega) rfl dX12_goOn_234 (fun H locs f5309 ef5309 z5310 hB => ?_)
                              have z5311 : q_is (q_z f5309 mo 3) xq := by rw [ef5309, q_setz (Or.inr (by decide))]; exact z5304
                              have z5312 : q_is (q_z f5309 mo 4) w0_mo_4 := by rw [ef5309, q_setz (Or.inr (by decide))]; exact z5305
                              have z5313 : q_is (q_z f5309 mo 5) w0_mo_4 := by rw [ef5309, q_setz (Or.inr (by decide))]; exact z5306
                              have z5314 : q_is (q_z f5309 mo 6) 3 := by rw [ef5309, q_setz (Or.inr (by decide))]; exact z5303
                              have z5315 : q_ir (q_r f5309 mo 1) bu := by rw [ef5309, q_setr (Or.inr (by decide))]; exact z5308
                              refine q_iconst cx dX12_goOn_237 ?_
                              refine lv_istore_n (lv' := [(2, .int (q_i 1)), (1, .int (q_i y5251)), (0, .ref mo)]) cx.1 cx.2.1 dX12_goOn_238 rfl hl (by decide) rfl (fun ls hl => ?_)
                              refine q_ald_n cx dX12_goOn_239 rfl (lv_at hl 2 rfl) ?_
                              refine lv_dup cx.1 cx.2.1 dX12_goOn_240 rfl ?_
                              refine q_gX12_97 cx hB hmo kmo z5312 dX12_goOn_241 (fun lb5316 ub5316 => ?_)
                              refine q_ild_n cx dX12_goOn_244 rfl (lv_at hl 0 rfl) ?_
                              refine q_iadd cx dX12_goOn_245 ?_
                              refine q_pX12_97 cx hB hmo kmo ⟨by omega, by omega⟩ (by omega) (by omega) rfl dX12_goOn_246 (fun H locs f5317 ef5317 z5318 hB => ?_)
                              have z5319 : q_is (q_z f5317 mo 3) xq := by rw [ef5317, q_setz (Or.inr (by decide))]; exact z5311
                              have z5320 : q_is (q_z f5317 mo 5) w0_mo_4 := by rw [ef5317, q_setz (Or.inr (by decide))]; exact z5313
                              have z5321 : q_is (q_z f5317 mo 6) 3 := by rw [ef5317, q_setz (Or.inr (by decide))]; exact z5314
                              have z5322 : q_is (q_z f5317 mo 7) y5251 := by rw [ef5317, q_setz (Or.inr (by decide))]; exact z5310
                              have z5323 : q_ir (q_r f5317 mo 1) bu := by rw [ef5317, q_setr (Or.inr (by decide))]; exact z5315
                              refine q_vret cx hr hlk hB dX12_goOn_249 ?_
                              exact ⟨(q_isl z5318 (by omega)), (k_po_is z5321 z5318 (show _ ∨ _ by omega))⟩
                            · refine q_ild_n cx dX12_goOn_218 rfl (lv_at hl 1 rfl) ?_
                              refine q_bipush cx dX12_goOn_219 rfl ?_
                              refine q_icne (tgt := 228) cx ⟨by omega, by omega⟩ ⟨by decide, by decide⟩ dX12_goOn_221 (by decide) (fun c5324 => ?_) (fun c5324 => ?_)
                              · refine q_iconst cx dX12_goOn_228 ?_
                                refine q_pX12_117 cx hB hmo kmo ⟨by decide, by decide⟩ (by decide) (by decide) rfl dX12_goOn_229 (fun H locs f5325 ef5325 z5326 hB => ?_)
                                have z5327 : q_is (q_z f5325 mo 3) xq := by rw [ef5325, q_setz (Or.inr (by decide))]; exact z5246
                                have z5328 : q_is (q_z f5325 mo 4) w0_mo_4 := by rw [ef5325, q_setz (Or.inr (by decide))]; exact z5247
                                have z5329 : q_is (q_z f5325 mo 5) w0_mo_4 := by rw [ef5325, q_setz (Or.inr (by decide))]; exact z5248
                                have z5330 : q_is (q_z f5325 mo 7) 0 := by rw [ef5325, q_setz (Or.inr (by decide))]; exact z5245
                                have z5331 : q_ir (q_r f5325 mo 1) bu := by rw [ef5325, q_setr (Or.inr (by decide))]; exact z5249
                                refine q_ald_n cx dX12_goOn_232 rfl (lv_at hl 2 rfl) ?_
                                refine q_ild_n cx dX12_goOn_233 rfl (lv_at hl 1 rfl) ?_
                                refine q_pX12_114 cx hB hmo kmo ⟨by omega, by omega⟩ (by omega) (by omega) rfl dX12_goOn_234 (fun H locs f5332 ef5332 z5333 hB => ?_)
                                have z5334 : q_is (q_z f5332 mo 3) xq := by rw [ef5332, q_setz (Or.inr (by decide))]; exact z5327
                                have z5335 : q_is (q_z f5332 mo 4) w0_mo_4 := by rw [ef5332, q_setz (Or.inr (by decide))]; exact z5328
                                have z5336 : q_is (q_z f5332 mo 5) w0_mo_4 := by rw [ef5332, q_setz (Or.inr (by decide))]; exact z5329
                                have z5337 : q_is (q_z f5332 mo 6) 4 := by rw [ef5332, q_setz (Or.inr (by decide))]; exact z5326
                                have z5338 : q_ir (q_r f5332 mo 1) bu := by rw [ef5332, q_setr (Or.inr (by decide))]; exact z5331
                                refine q_iconst cx dX12_goOn_237 ?_
                                refine lv_istore_n (lv' := [(2, .int (q_i 1)), (1, .int (q_i y5251)), (0, .ref mo)]) cx.1 cx.2.1 dX12_goOn_238 rfl hl (by decide) rfl (fun ls hl => ?_)
                                refine q_ald_n cx dX12_goOn_239 rfl (lv_at hl 2 rfl) ?_
                                refine lv_dup cx.1 cx.2.1 dX12_goOn_240 rfl ?_
                                refine q_gX12_97 cx hB hmo kmo z5335 dX12_goOn_241 (fun lb5339 ub5339 => ?_)
                                refine q_ild_n cx dX12_goOn_244 rfl (lv_at hl 0 rfl) ?_
                                refine q_iadd cx dX12_goOn_245 ?_
                                refine q_pX12_97 cx hB hmo kmo ⟨by omega, by omega⟩ (by omega) (by omega) rfl dX12_goOn_246 (fun H locs f5340 ef5340 z5341 hB => ?_)
                                have z5342 : q_is (q_z f5340 mo 3) xq := by rw [ef5340, q_setz (Or.inr (by decide))]; exact z5334
                                have z5343 : q_is (q_z f5340 mo 5) w0_mo_4 := by rw [ef5340, q_setz (Or.inr (by decide))]; exact z5336
                                have z5344 : q_is (q_z f5340 mo 6) 4 := by rw [ef5340, q_setz (Or.inr (by decide))]; exact z5337
                                have z5345 : q_is (q_z f5340 mo 7) y5251 := by rw [ef5340, q_setz (Or.inr (by decide))]; exact z5333
                                have z5346 : q_ir (q_r f5340 mo 1) bu := by rw [ef5340, q_setr (Or.inr (by decide))]; exact z5338
                                refine q_vret cx hr hlk hB dX12_goOn_249 ?_
                                exact ⟨(q_isl z5341 (by omega)), (k_po_is z5344 z5341 (show _ ∨ _ by omega))⟩
                              · refine q_iconst cx dX12_goOn_224 ?_
                                refine lv_goto (tgt := 229) cx.1 cx.2.1 dX12_goOn_225 (by decide) ?_
                                refine q_pX12_117 cx hB hmo kmo ⟨by decide, by decide⟩ (by decide) (by decide) rfl dX12_goOn_229 (fun H locs f5347 ef5347 z5348 hB => ?_)
                                have z5349 : q_is (q_z f5347 mo 3) xq := by rw [ef5347, q_setz (Or.inr (by decide))]; exact z5246
                                have z5350 : q_is (q_z f5347 mo 4) w0_mo_4 := by rw [ef5347, q_setz (Or.inr (by decide))]; exact z5247
                                have z5351 : q_is (q_z f5347 mo 5) w0_mo_4 := by rw [ef5347, q_setz (Or.inr (by decide))]; exact z5248
                                have z5352 : q_is (q_z f5347 mo 7) 0 := by rw [ef5347, q_setz (Or.inr (by decide))]; exact z5245
                                have z5353 : q_ir (q_r f5347 mo 1) bu := by rw [ef5347, q_setr (Or.inr (by decide))]; exact z5249
                                refine q_ald_n cx dX12_goOn_232 rfl (lv_at hl 2 rfl) ?_
                                refine q_ild_n cx dX12_goOn_233 rfl (lv_at hl 1 rfl) ?_
                                refine q_pX12_114 cx hB hmo kmo ⟨by omega, by omega⟩ (by omega) (by omega) rfl dX12_goOn_234 (fun H locs f5354 ef5354 z5355 hB => ?_)
                                have z5356 : q_is (q_z f5354 mo 3) xq := by rw [ef5354, q_setz (Or.inr (by decide))]; exact z5349
                                have z5357 : q_is (q_z f5354 mo 4) w0_mo_4 := by rw [ef5354, q_setz (Or.inr (by decide))]; exact z5350
                                have z5358 : q_is (q_z f5354 mo 5) w0_mo_4 := by rw [ef5354, q_setz (Or.inr (by decide))]; exact z5351
                                have z5359 : q_is (q_z f5354 mo 6) 3 := by rw [ef5354, q_setz (Or.inr (by decide))]; exact z5348
                                have z5360 : q_ir (q_r f5354 mo 1) bu := by rw [ef5354, q_setr (Or.inr (by decide))]; exact z5353
                                refine q_iconst cx dX12_goOn_237 ?_
                                refine lv_istore_n (lv' := [(2, .int (q_i 1)), (1, .int (q_i y5251)), (0, .ref mo)]) cx.1 cx.2.1 dX12_goOn_238 rfl hl (by decide) rfl (fun ls hl => ?_)
                                refine q_ald_n cx dX12_goOn_239 rfl (lv_at hl 2 rfl) ?_
                                refine lv_dup cx.1 cx.2.1 dX12_goOn_240 rfl ?_
                                refine q_gX12_97 cx hB hmo kmo z5357 dX12_goOn_241 (fun lb5361 ub5361 => ?_)
                                refine q_ild_n cx dX12_goOn_244 rfl (lv_at hl 0 rfl) ?_
                                refine q_iadd cx dX12_goOn_245 ?_
                                refine q_pX12_97 cx hB hmo kmo ⟨by omega, by omega⟩ (by omega) (by omega) rfl dX12_goOn_246 (fun H locs f5362 ef5362 z5363 hB => ?_)
                                have z5364 : q_is (q_z f5362 mo 3) xq := by rw [ef5362, q_setz (Or.inr (by decide))]; exact z5356
                                have z5365 : q_is (q_z f5362 mo 5) w0_mo_4 := by rw [ef5362, q_setz (Or.inr (by decide))]; exact z5358
                                have z5366 : q_is (q_z f5362 mo 6) 3 := by rw [ef5362, q_setz (Or.inr (by decide))]; exact z5359
                                have z5367 : q_is (q_z f5362 mo 7) y5251 := by rw [ef5362, q_setz (Or.inr (by decide))]; exact z5355
                                have z5368 : q_ir (q_r f5362 mo 1) bu := by rw [ef5362, q_setr (Or.inr (by decide))]; exact z5360
                                refine q_vret cx hr hlk hB dX12_goOn_249 ?_
                                exact ⟨(q_isl z5363 (by omega)), (k_po_is z5366 z5363 (show _ ∨ _ by omega))⟩
                        · exact absurd c5277 (by omega)
                    · exact absurd c5267 (by omega)
                · exact absurd c5257 (by omega)
              · obtain ⟨rfl, qy5251, t5369⟩ := h5254
                subst qy5251
                exact False.elim (by omega)
            · refine q_ald_n cx dX12_goOn_20 rfl (lv_at hl 0 rfl) ?_
              refine lv_dup cx.1 cx.2.1 dX12_goOn_21 rfl ?_
              refine q_gX12_97 cx hB hmo kmo hj_mo_4 dX12_goOn_22 (fun lb5370 ub5370 => ?_)
              refine q_iconst cx dX12_goOn_25 ?_
              refine q_iadd cx dX12_goOn_26 ?_
              refine q_pX12_97 cx hB hmo kmo ⟨by omega, by omega⟩ (by omega) (by omega) rfl dX12_goOn_27 (fun H locs f5371 ef5371 z5372 hB => ?_)
              have z5373 : q_is (q_z f5371 mo 3) xq := by rw [ef5371, q_setz (Or.inr (by decide))]; exact hj_mo_3
              have z5374 : q_ir (q_r f5371 mo 1) bu := by rw [ef5371, q_setr (Or.inr (by decide))]; exact hq_mo_1
              refine lv_goto (tgt := 0) cx.1 cx.2.1 dX12_goOn_30 (by decide) ?_
              exact ih0 f5371 (w0_mo_4 + 1) (by omega) (by omega) z5373 z5372 z5374 (by omega) (by omega) H locs hB ls (lv_sub hl [0] rfl)
          · obtain ⟨rfl, qy5225, t5375⟩ := h5228
            subst qy5225
            exact False.elim (by omega)
      · obtain ⟨rfl, qy5212, t5376⟩ := h5215
        subst qy5212
        refine q_bipush cx dX12_goOn_5 rfl ?_
        refine q_iceq (tgt := 20) cx ⟨by decide, by decide⟩ ⟨by decide, by decide⟩ dX12_goOn_7 (by decide) (fun c5377 => ?_) (fun c5377 => ?_)
        · exact absurd c5377 (by omega)
        · refine q_ald_n cx dX12_goOn_10 rfl (lv_at hl 0 rfl) ?_
          refine q_iconst cx dX12_goOn_11 ?_
          refine q_cVi (As := [.int (q_i 0)]) (rest := []) cx hB (fun _ h => h) hN hmo kmo (by decide) rfl (r_here l g hN hB.2.1 mo hmo kmo 0 (by decide) (by decide) bu hbu kbu w0_mo_4 (by omega) (by omega) xq (by omega) (by omega) hj_mo_4 hj_mo_3 hq_mo_1) q_cX12_103 q_dX12_here (by decide) rfl rfl hl.1 rfl (Nat.le_of_ble_eq_true rfl) dX12_goOn_12 (fun y5379 H locs f5378 ry5379 h5380 hF hB => ?_)
          rcases h5380 with h5381 | h5382
          · obtain ⟨rfl, ly5379, uy5379, t5383, t5384⟩ := h5381
            exact False.elim (by omega)
          · obtain ⟨rfl, qy5379, t5385⟩ := h5382
            subst qy5379
            refine q_bipush cx dX12_goOn_15 rfl ?_
            refine q_icne (tgt := 33) cx ⟨by decide, by decide⟩ ⟨by decide, by decide⟩ dX12_goOn_17 (by decide) (fun c5386 => ?_) (fun c5386 => ?_)
            · refine q_ald_n cx dX12_goOn_33 rfl (lv_at hl 0 rfl) ?_
              refine q_ald_n cx dX12_goOn_34 rfl (lv_at hl 0 rfl) ?_
              refine q_gX12_97 cx hB hmo kmo hj_mo_4 dX12_goOn_35 (fun lb5387 ub5387 => ?_)
              refine q_pX12_107 cx hB hmo kmo ⟨by omega, by omega⟩ (by omega) (by omega) rfl dX12_goOn_38 (fun H locs f5388 ef5388 z5389 hB => ?_)
              have z5390 : q_is (q_z f5388 mo 3) xq := by rw [ef5388, q_setz (Or.inr (by decide))]; exact hj_mo_3
              have z5391 : q_is (q_z f5388 mo 4) w0_mo_4 := by rw [ef5388, q_setz (Or.inr (by decide))]; exact hj_mo_4
              have z5392 : q_ir (q_r f5388 mo 1) bu := by rw [ef5388, q_setr (Or.inr (by decide))]; exact hq_mo_1
              refine q_ald_n cx dX12_goOn_41 rfl (lv_at hl 0 rfl) ?_
              refine q_lconst (z := 0) cx (by decide) dX12_goOn_42 ?_
              refine q_pX12_110 cx hB hmo kmo rfl dX12_goOn_43 (fun H locs f5393 ef5393 z5394 hB => ?_)
              have z5395 : q_is (q_z f5393 mo 3) xq := by rw [ef5393, q_setz (Or.inr (by decide))]; exact z5390
              have z5396 : q_is (q_z f5393 mo 4) w0_mo_4 := by rw [ef5393, q_setz (Or.inr (by decide))]; exact z5391
              have z5397 : q_is (q_z f5393 mo 5) w0_mo_4 := by rw [ef5393, q_setz (Or.inr (by decide))]; exact z5389
              have z5398 : q_ir (q_r f5393 mo 1) bu := by rw [ef5393, q_setr (Or.inr (by decide))]; exact z5392
              refine q_ald_n cx dX12_goOn_46 rfl (lv_at hl 0 rfl) ?_
              refine q_iconst cx dX12_goOn_47 ?_
              refine q_pX12_114 cx hB hmo kmo ⟨by decide, by decide⟩ (by decide) (by decide) rfl dX12_goOn_48 (fun H locs f5399 ef5399 z5400 hB => ?_)
              have z5401 : q_is (q_z f5399 mo 3) xq := by rw [ef5399, q_setz (Or.inr (by decide))]; exact z5395
              have z5402 : q_is (q_z f5399 mo 4) w0_mo_4 := by rw [ef5399, q_setz (Or.inr (by decide))]; exact z5396
              have z5403 : q_is (q_z f5399 mo 5) w0_mo_4 := by rw [ef5399, q_setz (Or.inr (by decide))]; exact z5397
              have z5404 : q_ir (q_r f5399 mo 1) bu := by rw [ef5399, q_setr (Or.inr (by decide))]; exact z5398
              refine q_ald_n cx dX12_goOn_51 rfl (lv_at hl 0 rfl) ?_
              refine q_iconst cx dX12_goOn_52 ?_
              refine q_cVi (As := [.int (q_i 0)]) (rest := []) cx hB (fun _ h => h) hN hmo kmo (by decide) rfl (r_here l g hN hB.2.1 mo hmo kmo 0 (by decide) (by decide) bu hbu kbu w0_mo_4 (by omega) (by omega) xq (by omega) (by omega) z5402 z5401 z5404) q_cX12_103 q_dX12_here (by decide) rfl rfl hl.1 rfl (Nat.le_of_ble_eq_true rfl) dX12_goOn_53 (fun y5406 H locs f5405 ry5406 h5407 hF hB => ?_)
              rcases h5407 with h5408 | h5409
              · obtain ⟨rfl, ly5406, uy5406, t5410, t5411⟩ := h5408
                exact False.elim (by omega)
              · obtain ⟨rfl, qy5406, t5412⟩ := h5409
                subst qy5406
                refine lv_istore_n (lv' := [(1, .int (q_i (-1))), (0, .ref mo)]) cx.1 cx.2.1 dX12_goOn_56 rfl hl (by decide) rfl (fun ls hl => ?_)
                refine q_iconst cx dX12_goOn_57 ?_
                refine lv_istore_n (lv' := [(2, .int (q_i 0)), (1, .int (q_i (-1))), (0, .ref mo)]) cx.1 cx.2.1 dX12_goOn_58 rfl hl (by decide) rfl (fun ls hl => ?_)
                refine q_ild_n cx dX12_goOn_59 rfl (lv_at hl 1 rfl) ?_
                refine q_ifge (tgt := 69) cx ⟨by decide, by decide⟩ dX12_goOn_60 (by decide) (fun c5413 => ?_) (fun c5413 => ?_)
                · exact absurd c5413 (by omega)
                · refine q_ald_n cx dX12_goOn_63 rfl (lv_at hl 2 rfl) ?_
                  refine q_iconst cx dX12_goOn_64 ?_
                  refine q_pX12_117 cx hB hmo kmo ⟨by decide, by decide⟩ (by decide) (by decide) rfl dX12_goOn_65 (fun H locs f5414 ef5414 z5415 hB => ?_)
                  have z5416 : q_is (q_z f5414 mo 3) xq := by rw [ef5414, q_setz (Or.inr (by decide))]; exact z5401
                  have z5417 : q_is (q_z f5414 mo 4) w0_mo_4 := by rw [ef5414, q_setz (Or.inr (by decide))]; exact z5402
                  have z5418 : q_is (q_z f5414 mo 5) w0_mo_4 := by rw [ef5414, q_setz (Or.inr (by decide))]; exact z5403
                  have z5419 : q_is (q_z f5414 mo 7) 0 := by rw [ef5414, q_setz (Or.inr (by decide))]; exact z5400
                  have z5420 : q_ir (q_r f5414 mo 1) bu := by rw [ef5414, q_setr (Or.inr (by decide))]; exact z5404
                  refine q_vret cx hr hlk hB dX12_goOn_68 ?_
                  exact ⟨(q_isl z5417 (by omega)), (k_po_is z5415 z5417 (show _ ∨ _ by omega))⟩
            · exact absurd c5386 (by omega)
  obtain ⟨H, hH⟩ : ∃ H : Heap, H = s.heap := ⟨_, rfl⟩
  obtain ⟨locs, hlocs⟩ : ∃ z : List Loc, z = [] := ⟨_, rfl⟩
  rw [← hH, ← hlocs] at hB
  rw [← hH, ← hlocs]
  exact J0 ((Int.toNat (601 - xp)) + 1) f xp (by omega) (by omega) hf1 hf0 hr0 (by omega) (Nat.lt_succ_self _) H locs hB ls (lv_sub hl [0] rfl)
