set_option maxHeartbeats 4000000 in
set_option maxRecDepth 100000 in
theorem r_message (l : Launch) (g : q_G) {K : Nat → Nat} {L : List Nat} (hN : L.Nodup) {f : Nat → va_E} (hT : q_Ty g K L f) (mo : Nat) (hmo : mo ∈ L) (kmo : K mo = 12) (a0 : Int) (la0 : (-2147483648) ≤ a0) (ua0 : a0 ≤ 2147483647) (b0 : Int) (lb0 : (-2147483648) ≤ b0) (ub0 : b0 ≤ 2147483647) (sr : Nat) (hsr : sr ∈ L) (ksr : K sr = 151) (xt : Int) (lxt : 0 ≤ xt) (uxt : xt ≤ 9999) (xm : Int) (lxm : 0 ≤ xm) (uxm : xm ≤ 60) (hf0 : q_is (q_z f sr 3) xt) (hf1 : q_is (q_z f sr 4) xm) (hr0 : q_ir (q_r f mo 13) sr) (hgr : q_gr f sr) : q_Ct l g K L yX12_message cX12_message 3 (some .int) 2 46 [.ref mo, .int (q_i a0), .int (q_i b0)] f [(12, 0, 0)] (q_Pi (fun (z : Int) (f1 : Nat → va_E) => True)) := by
  refine q_ofb (by decide +kernel) hN hT (Nat.le_of_ble_eq_true rfl) ?_
  intro p e s m below meth c ls cx hr hlk hB hl
  have hl : lv_has ls 3 [(0, .ref mo), (1, .int (q_i a0)), (2, .int (q_i b0))] := hl
  obtain ⟨H, hH⟩ : ∃ H : Heap, H = s.heap := ⟨_, rfl⟩
  obtain ⟨locs, hlocs⟩ : ∃ z : List Loc, z = [] := ⟨_, rfl⟩
  rw [← hH, ← hlocs] at hB
  rw [← hH, ← hlocs]
  refine q_ald_n cx dX12_message_0 rfl (lv_at hl 0 rfl) ?_
  refine q_ald_n cx dX12_message_1 rfl (lv_at hl 0 rfl) ?_
  refine q_ild_n cx dX12_message_2 rfl (lv_at hl 1 rfl) ?_
  refine q_cVi (As := [.int (q_i a0)]) (rest := [.ref mo]) cx hB (fun _ h => h) hN hmo kmo (by decide) rfl (r_isMessage l g hN hB.2.1 mo hmo kmo a0 (by omega) (by omega) sr hsr ksr xm (by omega) (by omega) hf1 hr0 hgr) q_cX12_373 q_dX12_isMessage (by decide) rfl rfl hl.1 rfl (Nat.le_of_ble_eq_true rfl) dX12_message_3 (fun y64 H locs f63 ry64 h65 hF hB => ?_)
  rcases h65 with h66 | h67
  · obtain ⟨rfl, qy64, t68, t69⟩ := h66
    subst qy64
    refine q_ild_n cx dX12_message_6 rfl (lv_at hl 2 rfl) ?_
    refine q_i2l cx ⟨by omega, by omega⟩ dX12_message_7 ?_
    refine q_lconst (z := 0) cx (by decide) dX12_message_8 ?_
    refine lv_ldc2 (v := q_l 7) cx.1 cx.2.1 cx.2.2.2.1 (cx.2.2.2.2 _ q_h1945) dX12_message_9 ?_
    refine q_cSi (As := [.long (q_l b0), .long (q_l 0), .long (q_l 7)]) (rest := [.int (q_i 1), .ref mo]) cx hB (fun _ h => h) hN (r_isIn l g hN hB.2.1 b0 (by omega) (by omega) 0 (by decide) (by decide) 7 (by decide) (by decide)) q_cX12_93 q_dX12_isIn (by decide) rfl rfl hl.1 rfl (Nat.le_of_ble_eq_true rfl) dX12_message_12 (fun y71 H locs f70 ry71 h72 hF hB => ?_)
    rcases h72 with h73 | h74
    · obtain ⟨rfl, qy71, t75, t76⟩ := h73
      subst qy71
      refine q_cVi (As := [.int (q_i 1), .int (q_i 1)]) (rest := []) cx hB (fun _ h => h) hN hmo kmo (by decide) rfl (r_goesBoth2 l g hN hB.2.1 mo hmo kmo 1 (by decide) (by decide) 1 (by decide) (by decide)) q_cX12_358 q_dX12_goesBoth (by decide) rfl rfl hl.1 rfl (Nat.le_of_ble_eq_true rfl) dX12_message_15 (fun y78 H locs f77 ry78 h79 hF hB => ?_)
      obtain ⟨qy78, z80⟩ := h79
      have z81 : q_is (q_z f77 sr 3) xt := Eq.trans (hF.z hsr (by rw [ksr]; rfl)) hf0
      have z82 : q_is (q_z f77 sr 4) xm := Eq.trans (hF.z hsr (by rw [ksr]; rfl)) hf1
      have z83 : q_ir (q_r f77 mo 13) sr := Eq.trans (hF.r hmo (by rw [kmo]; rfl)) hr0
      have g84 : q_gr f77 sr := q_gr_fr hgr (fun i9 _ => hF.z hsr (by rw [ksr]; rfl))
      subst qy78
      refine q_ifeq (tgt := 30) cx ⟨by decide, by decide⟩ dX12_message_18 (by decide) (fun c85 => ?_) (fun c85 => ?_)
      · exact absurd c85 (by omega)
      · refine q_ald_n cx dX12_message_21 rfl (lv_at hl 0 rfl) ?_
        refine q_ild_n cx dX12_message_22 rfl (lv_at hl 1 rfl) ?_
        refine q_ild_n cx dX12_message_23 rfl (lv_at hl 2 rfl) ?_
        refine q_cVi (As := [.int (q_i a0), .int (q_i b0)]) (rest := []) cx hB (fun _ h => h) hN hmo kmo (by decide) rfl (r_ofMessagex l g hN hB.2.1 mo hmo kmo a0 (by omega) (by omega) b0 (by omega) (by omega) sr hsr ksr z83 g84) q_cX12_308 q_dX12_ofMessage (by decide) rfl rfl hl.1 rfl (Nat.le_of_ble_eq_true rfl) dX12_message_24 (fun y87 H locs f86 ry87 h88 hF hB => ?_)
        obtain rfl := h88
        refine lv_goto (tgt := 31) cx.1 cx.2.1 dX12_message_27 (by decide) ?_
        refine q_iret cx hr hlk hB dX12_message_31 ⟨by omega, by omega⟩ ?_
        trivial
    · obtain ⟨rfl, qy71, t89⟩ := h74
      subst qy71
      refine q_cVi (As := [.int (q_i 1), .int (q_i 0)]) (rest := []) cx hB (fun _ h => h) hN hmo kmo (by decide) rfl (r_goesBoth1 l g hN hB.2.1 mo hmo kmo 1 (by decide) (by decide) 0 (by decide) (by decide)) q_cX12_358 q_dX12_goesBoth (by decide) rfl rfl hl.1 rfl (Nat.le_of_ble_eq_true rfl) dX12_message_15 (fun y91 H locs f90 ry91 h92 hF hB => ?_)
      obtain ⟨qy91, z93⟩ := h92
      have z94 : q_is (q_z f90 sr 3) xt := Eq.trans (hF.z hsr (by rw [ksr]; rfl)) hf0
      have z95 : q_is (q_z f90 sr 4) xm := Eq.trans (hF.z hsr (by rw [ksr]; rfl)) hf1
      have z96 : q_ir (q_r f90 mo 13) sr := Eq.trans (hF.r hmo (by rw [kmo]; rfl)) hr0
      have g97 : q_gr f90 sr := q_gr_fr hgr (fun i9 _ => hF.z hsr (by rw [ksr]; rfl))
      subst qy91
      refine q_ifeq (tgt := 30) cx ⟨by decide, by decide⟩ dX12_message_18 (by decide) (fun c98 => ?_) (fun c98 => ?_)
      · refine q_iconst cx dX12_message_30 ?_
        refine q_iret cx hr hlk hB dX12_message_31 ⟨by decide, by decide⟩ ?_
        trivial
      · exact absurd c98 (by omega)
  · obtain ⟨rfl, qy64⟩ := h67
    subst qy64
    refine q_ild_n cx dX12_message_6 rfl (lv_at hl 2 rfl) ?_
    refine q_i2l cx ⟨by omega, by omega⟩ dX12_message_7 ?_
    refine q_lconst (z := 0) cx (by decide) dX12_message_8 ?_
    refine lv_ldc2 (v := q_l 7) cx.1 cx.2.1 cx.2.2.2.1 (cx.2.2.2.2 _ q_h1945) dX12_message_9 ?_
    refine q_cSi (As := [.long (q_l b0), .long (q_l 0), .long (q_l 7)]) (rest := [.int (q_i 0), .ref mo]) cx hB (fun _ h => h) hN (r_isIn l g hN hB.2.1 b0 (by omega) (by omega) 0 (by decide) (by decide) 7 (by decide) (by decide)) q_cX12_93 q_dX12_isIn (by decide) rfl rfl hl.1 rfl (Nat.le_of_ble_eq_true rfl) dX12_message_12 (fun y100 H locs f99 ry100 h101 hF hB => ?_)
    rcases h101 with h102 | h103
    · obtain ⟨rfl, qy100, t104, t105⟩ := h102
      subst qy100
      refine q_cVi (As := [.int (q_i 0), .int (q_i 1)]) (rest := []) cx hB (fun _ h => h) hN hmo kmo (by decide) rfl (r_goesBoth0 l g hN hB.2.1 mo hmo kmo 0 (by decide) (by decide) 1 (by decide) (by decide)) q_cX12_358 q_dX12_goesBoth (by decide) rfl rfl hl.1 rfl (Nat.le_of_ble_eq_true rfl) dX12_message_15 (fun y107 H locs f106 ry107 h108 hF hB => ?_)
      obtain ⟨qy107, z109⟩ := h108
      have z110 : q_is (q_z f106 sr 3) xt := Eq.trans (hF.z hsr (by rw [ksr]; rfl)) hf0
      have z111 : q_is (q_z f106 sr 4) xm := Eq.trans (hF.z hsr (by rw [ksr]; rfl)) hf1
      have z112 : q_ir (q_r f106 mo 13) sr := Eq.trans (hF.r hmo (by rw [kmo]; rfl)) hr0
      have g113 : q_gr f106 sr := q_gr_fr hgr (fun i9 _ => hF.z hsr (by rw [ksr]; rfl))
      subst qy107
      refine q_ifeq (tgt := 30) cx ⟨by decide, by decide⟩ dX12_message_18 (by decide) (fun c114 => ?_) (fun c114 => ?_)
      · refine q_iconst cx dX12_message_30 ?_
        refine q_iret cx hr hlk hB dX12_message_31 ⟨by decide, by decide⟩ ?_
        trivial
      · exact absurd c114 (by omega)
    · obtain ⟨rfl, qy100, t115⟩ := h103
      subst qy100
      refine q_cVi (As := [.int (q_i 0), .int (q_i 0)]) (rest := []) cx hB (fun _ h => h) hN hmo kmo (by decide) rfl (r_goesBoth0 l g hN hB.2.1 mo hmo kmo 0 (by decide) (by decide) 0 (by decide) (by decide)) q_cX12_358 q_dX12_goesBoth (by decide) rfl rfl hl.1 rfl (Nat.le_of_ble_eq_true rfl) dX12_message_15 (fun y117 H locs f116 ry117 h118 hF hB => ?_)
      obtain ⟨qy117, z119⟩ := h118
      have z120 : q_is (q_z f116 sr 3) xt := Eq.trans (hF.z hsr (by rw [ksr]; rfl)) hf0
      have z121 : q_is (q_z f116 sr 4) xm := Eq.trans (hF.z hsr (by rw [ksr]; rfl)) hf1
      have z122 : q_ir (q_r f116 mo 13) sr := Eq.trans (hF.r hmo (by rw [kmo]; rfl)) hr0
      have g123 : q_gr f116 sr := q_gr_fr hgr (fun i9 _ => hF.z hsr (by rw [ksr]; rfl))
      subst qy117
      refine q_ifeq (tgt := 30) cx ⟨by decide, by decide⟩ dX12_message_18 (by decide) (fun c124 => ?_) (fun c124 => ?_)
      · refine q_iconst cx dX12_message_30 ?_
        refine q_iret cx hr hlk hB dX12_message_31 ⟨by decide, by decide⟩ ?_
        trivial
      · exact absurd c124 (by omega)
set_option maxHeartbeats 4000000 in
set_option maxRecDepth 100000 in
theorem r_letter (l : Launch) (g : q_G) {K : Nat → Nat} {L : List Nat} (hN : L.Nodup) {f : Nat → va_E} (hT : q_Ty g K L f) (mo : Nat) (hmo : mo ∈ L) (kmo : K mo = 12) (a0 : Int) (la0 : (-2147483648) ≤ a0) (ua0 : a0 ≤ 2147483647) (b0 : Int) (lb0 : (-2147483648) ≤ b0) (ub0 : b0 ≤ 2147483647) (sr : Nat) (hsr : sr ∈ L) (ksr : K sr = 151) (nm : Nat) (hnm : nm ∈ L) (knm : K nm = 156) (hr0 : q_ir (q_r f mo 13) sr) (hr1 : q_ir (q_r f mo 18) nm) : q_Ct l g K L yX12_letter cX12_letter 3 (some .int) 2 48 [.ref mo, .int (q_i a0), .int (q_i b0)] f [(12, 0, 0)] (q_Pi (fun (z : Int) (f1 : Nat → va_E) => True)) := by
  refine q_ofb (by decide +kernel) hN hT (Nat.le_of_ble_eq_true rfl) ?_
  intro p e s m below meth c ls cx hr hlk hB hl
  have hl : lv_has ls 3 [(0, .ref mo), (1, .int (q_i a0)), (2, .int (q_i b0))] := hl
  obtain ⟨H, hH⟩ : ∃ H : Heap, H = s.heap := ⟨_, rfl⟩
  obtain ⟨locs, hlocs⟩ : ∃ z : List Loc, z = [] := ⟨_, rfl⟩
  rw [← hH, ← hlocs] at hB
  rw [← hH, ← hlocs]
  refine q_ald_n cx dX12_letter_0 rfl (lv_at hl 0 rfl) ?_
  refine q_ald_n cx dX12_letter_1 rfl (lv_at hl 0 rfl) ?_
  refine q_ild_n cx dX12_letter_2 rfl (lv_at hl 1 rfl) ?_
  refine q_cVi (As := [.int (q_i a0)]) (rest := [.ref mo]) cx hB (fun _ h => h) hN hmo kmo (by decide) rfl (r_isNode l g hN hB.2.1 mo hmo kmo a0 (by omega) (by omega) sr hsr ksr hr0) q_cX12_355 q_dX12_isNode (by decide) rfl rfl hl.1 rfl (Nat.le_of_ble_eq_true rfl) dX12_letter_3 (fun y28 H locs f27 ry28 h29 hF hB => ?_)
  rcases h29 with h30 | h31
  · obtain ⟨rfl, qy28, t32, t33⟩ := h30
    subst qy28
    refine q_cVi (As := [.int (q_i 1)]) (rest := []) cx hB (fun _ h => h) hN hmo kmo (by decide) rfl (r_goes1 l g hN hB.2.1 mo hmo kmo 1 (by decide) (by decide)) q_cX12_85 q_dX12_goes (by decide) rfl rfl hl.1 rfl (Nat.le_of_ble_eq_true rfl) dX12_letter_6 (fun y35 H locs f34 ry35 h36 hF hB => ?_)
    obtain ⟨qy35, z37⟩ := h36
    have z38 : q_ir (q_r f34 mo 13) sr := Eq.trans (hF.r hmo (by rw [kmo]; rfl)) hr0
    have z39 : q_ir (q_r f34 mo 18) nm := Eq.trans (hF.r hmo (by rw [kmo]; rfl)) hr1
    subst qy35
    refine q_ifeq (tgt := 25) cx ⟨by decide, by decide⟩ dX12_letter_9 (by decide) (fun c40 => ?_) (fun c40 => ?_)
    · exact absurd c40 (by omega)
    · refine q_ald_n cx dX12_letter_12 rfl (lv_at hl 0 rfl) ?_
      refine q_gX12_35 cx hB hmo kmo z39 dX12_letter_13 (fun hb41 kb41 => ?_)
      refine q_ild_n cx dX12_letter_16 rfl (lv_at hl 1 rfl) ?_
      obtain ⟨j42, ej42⟩ : ∃ zz, q_j f34 nm (Int.toNat a0) = zz := ⟨_, rfl⟩
      refine q_lald (n := 10) cx hB hnm knm (by decide) rfl rfl (by omega) (by omega) (by decide) rfl ej42 dX12_letter_17 ?_
      refine q_ild_n cx dX12_letter_18 rfl (lv_at hl 2 rfl) ?_
      refine q_cSi (As := [.long j42, .int (q_i b0)]) (rest := []) cx hB (fun _ h => h) hN (r_letterOf l g hN hB.2.1 j42 b0 (by omega) (by omega)) q_cX12_384 q_dX12_letterOf (by decide) rfl rfl hl.1 rfl (Nat.le_of_ble_eq_true rfl) dX12_letter_19 (fun y44 H locs f43 ry44 h45 hF hB => ?_)
      obtain rfl := h45
      refine lv_goto (tgt := 26) cx.1 cx.2.1 dX12_letter_22 (by decide) ?_
      refine q_iret cx hr hlk hB dX12_letter_26 ⟨by omega, by omega⟩ ?_
      trivial
  · obtain ⟨rfl, qy28⟩ := h31
    subst qy28
    refine q_cVi (As := [.int (q_i 0)]) (rest := []) cx hB (fun _ h => h) hN hmo kmo (by decide) rfl (r_goes0 l g hN hB.2.1 mo hmo kmo 0 (by decide) (by decide)) q_cX12_85 q_dX12_goes (by decide) rfl rfl hl.1 rfl (Nat.le_of_ble_eq_true rfl) dX12_letter_6 (fun y47 H locs f46 ry47 h48 hF hB => ?_)
    obtain ⟨qy47, z49⟩ := h48
    have z50 : q_ir (q_r f46 mo 13) sr := Eq.trans (hF.r hmo (by rw [kmo]; rfl)) hr0
    have z51 : q_ir (q_r f46 mo 18) nm := Eq.trans (hF.r hmo (by rw [kmo]; rfl)) hr1
    subst qy47
    refine q_ifeq (tgt := 25) cx ⟨by decide, by decide⟩ dX12_letter_9 (by decide) (fun c52 => ?_) (fun c52 => ?_)
    · refine q_iconst cx dX12_letter_25 ?_
      refine q_iret cx hr hlk hB dX12_letter_26 ⟨by decide, by decide⟩ ?_
      trivial
    · exact absurd c52 (by omega)
set_option maxHeartbeats 4000000 in
set_option maxRecDepth 100000 in
theorem r_inTable (l : Launch) (g : q_G) {K : Nat → Nat} {L : List Nat} (hN : L.Nodup) {f : Nat → va_E} (hT : q_Ty g K L f) (mo : Nat) (hmo : mo ∈ L) (kmo : K mo = 12) (a0 : Int) (la0 : (-2147483648) ≤ a0) (ua0 : a0 ≤ 2147483647) (b0 : Int) (lb0 : (-2147483648) ≤ b0) (ub0 : b0 ≤ 2147483647) (sr : Nat) (hsr : sr ∈ L) (ksr : K sr = 151) (hr0 : q_ir (q_r f mo 13) sr) (hgr : q_gr f sr) : q_Ct l g K L yX12_inTable cX12_inTable 3 (some .boolean) 4 90 [.ref mo, .int (q_i a0), .int (q_i b0)] f [(12, 0, 0)] (q_Pi (fun (z : Int) (f1 : Nat → va_E) => 0 ≤ z ∧ z ≤ 1)) := by
  refine q_ofb (by decide +kernel) hN hT (Nat.le_of_ble_eq_true rfl) ?_
  intro p e s m below meth c ls cx hr hlk hB hl
  have hl : lv_has ls 3 [(0, .ref mo), (1, .int (q_i a0)), (2, .int (q_i b0))] := hl
  obtain ⟨H, hH⟩ : ∃ H : Heap, H = s.heap := ⟨_, rfl⟩
  obtain ⟨locs, hlocs⟩ : ∃ z : List Loc, z = [] := ⟨_, rfl⟩
  rw [← hH, ← hlocs] at hB
  rw [← hH, ← hlocs]
  refine q_ald_n cx dX12_inTable_0 rfl (lv_at hl 0 rfl) ?_
  refine q_ald_n cx dX12_inTable_1 rfl (lv_at hl 0 rfl) ?_
  refine q_ild_n cx dX12_inTable_2 rfl (lv_at hl 1 rfl) ?_
  refine q_cVi (As := [.int (q_i a0)]) (rest := [.ref mo]) cx hB (fun _ h => h) hN hmo kmo (by decide) rfl (r_isNode l g hN hB.2.1 mo hmo kmo a0 (by omega) (by omega) sr hsr ksr hr0) q_cX12_355 q_dX12_isNode (by decide) rfl rfl hl.1 rfl (Nat.le_of_ble_eq_true rfl) dX12_inTable_3 (fun y55 H locs f54 ry55 h56 hF hB => ?_)
  rcases h56 with h57 | h58
  · obtain ⟨rfl, qy55, t59, t60⟩ := h57
    subst qy55
    refine q_ald_n cx dX12_inTable_6 rfl (lv_at hl 0 rfl) ?_
    refine q_ild_n cx dX12_inTable_7 rfl (lv_at hl 2 rfl) ?_
    refine q_cVi (As := [.int (q_i b0)]) (rest := [.int (q_i 1), .ref mo]) cx hB (fun _ h => h) hN hmo kmo (by decide) rfl (r_isDay l g hN hB.2.1 mo hmo kmo b0 (by omega) (by omega) sr hsr ksr hr0 hgr) q_cX12_388 q_dX12_isDay (by decide) rfl rfl hl.1 rfl (Nat.le_of_ble_eq_true rfl) dX12_inTable_8 (fun y62 H locs f61 ry62 h63 hF hB => ?_)
    rcases h63 with h64 | h65
    · obtain ⟨rfl, qy62, t66, t67⟩ := h64
      subst qy62
      refine q_cVi (As := [.int (q_i 1), .int (q_i 1)]) (rest := []) cx hB (fun _ h => h) hN hmo kmo (by decide) rfl (r_goesBoth2 l g hN hB.2.1 mo hmo kmo 1 (by decide) (by decide) 1 (by decide) (by decide)) q_cX12_358 q_dX12_goesBoth (by decide) rfl rfl hl.1 rfl (Nat.le_of_ble_eq_true rfl) dX12_inTable_11 (fun y69 H locs f68 ry69 h70 hF hB => ?_)
      obtain ⟨qy69, z71⟩ := h70
      have z72 : q_ir (q_r f68 mo 13) sr := Eq.trans (hF.r hmo (by rw [kmo]; rfl)) hr0
      have g73 : q_gr f68 sr := q_gr_fr hgr (fun i9 _ => hF.z hsr (by rw [ksr]; rfl))
      subst qy69
      refine q_ifeq (tgt := 30) cx ⟨by decide, by decide⟩ dX12_inTable_14 (by decide) (fun c74 => ?_) (fun c74 => ?_)
      · exact absurd c74 (by omega)
      · refine q_ald_n cx dX12_inTable_17 rfl (lv_at hl 0 rfl) ?_
        refine q_ild_n cx dX12_inTable_18 rfl (lv_at hl 1 rfl) ?_
        refine q_ild_n cx dX12_inTable_19 rfl (lv_at hl 2 rfl) ?_
        refine q_cVi (As := [.int (q_i a0), .int (q_i b0)]) (rest := []) cx hB (fun _ h => h) hN hmo kmo (by decide) rfl (r_isIts l g hN hB.2.1 mo hmo kmo a0 (by omega) (by omega) b0 (by omega) (by omega) sr hsr ksr z72 g73) q_cX12_268 q_dX12_isIts (by decide) rfl rfl hl.1 rfl (Nat.le_of_ble_eq_true rfl) dX12_inTable_20 (fun y76 H locs f75 ry76 h77 hF hB => ?_)
        obtain ⟨rfl, ly76, uy76⟩ := h77
        refine q_ifeq (tgt := 30) cx ⟨by omega, by omega⟩ dX12_inTable_23 (by decide) (fun c78 => ?_) (fun c78 => ?_)
        · refine q_iconst cx dX12_inTable_30 ?_
          refine q_zret cx hr hlk hB dX12_inTable_31 (by decide) (by decide) ?_
          exact ⟨(by decide), (by decide)⟩
        · refine q_iconst cx dX12_inTable_26 ?_
          refine lv_goto (tgt := 31) cx.1 cx.2.1 dX12_inTable_27 (by decide) ?_
          refine q_zret cx hr hlk hB dX12_inTable_31 (by decide) (by decide) ?_
          exact ⟨(by decide), (by decide)⟩
    · obtain ⟨rfl, qy62⟩ := h65
      subst qy62
      refine q_cVi (As := [.int (q_i 1), .int (q_i 0)]) (rest := []) cx hB (fun _ h => h) hN hmo kmo (by decide) rfl (r_goesBoth1 l g hN hB.2.1 mo hmo kmo 1 (by decide) (by decide) 0 (by decide) (by decide)) q_cX12_358 q_dX12_goesBoth (by decide) rfl rfl hl.1 rfl (Nat.le_of_ble_eq_true rfl) dX12_inTable_11 (fun y80 H locs f79 ry80 h81 hF hB => ?_)
      obtain ⟨qy80, z82⟩ := h81
      have z83 : q_ir (q_r f79 mo 13) sr := Eq.trans (hF.r hmo (by rw [kmo]; rfl)) hr0
      have g84 : q_gr f79 sr := q_gr_fr hgr (fun i9 _ => hF.z hsr (by rw [ksr]; rfl))
      subst qy80
      refine q_ifeq (tgt := 30) cx ⟨by decide, by decide⟩ dX12_inTable_14 (by decide) (fun c85 => ?_) (fun c85 => ?_)
      · refine q_iconst cx dX12_inTable_30 ?_
        refine q_zret cx hr hlk hB dX12_inTable_31 (by decide) (by decide) ?_
        exact ⟨(by decide), (by decide)⟩
      · exact absurd c85 (by omega)
  · obtain ⟨rfl, qy55⟩ := h58
    subst qy55
    refine q_ald_n cx dX12_inTable_6 rfl (lv_at hl 0 rfl) ?_
    refine q_ild_n cx dX12_inTable_7 rfl (lv_at hl 2 rfl) ?_
    refine q_cVi (As := [.int (q_i b0)]) (rest := [.int (q_i 0), .ref mo]) cx hB (fun _ h => h) hN hmo kmo (by decide) rfl (r_isDay l g hN hB.2.1 mo hmo kmo b0 (by omega) (by omega) sr hsr ksr hr0 hgr) q_cX12_388 q_dX12_isDay (by decide) rfl rfl hl.1 rfl (Nat.le_of_ble_eq_true rfl) dX12_inTable_8 (fun y87 H locs f86 ry87 h88 hF hB => ?_)
    rcases h88 with h89 | h90
    · obtain ⟨rfl, qy87, t91, t92⟩ := h89
      subst qy87
      refine q_cVi (As := [.int (q_i 0), .int (q_i 1)]) (rest := []) cx hB (fun _ h => h) hN hmo kmo (by decide) rfl (r_goesBoth0 l g hN hB.2.1 mo hmo kmo 0 (by decide) (by decide) 1 (by decide) (by decide)) q_cX12_358 q_dX12_goesBoth (by decide) rfl rfl hl.1 rfl (Nat.le_of_ble_eq_true rfl) dX12_inTable_11 (fun y94 H locs f93 ry94 h95 hF hB => ?_)
      obtain ⟨qy94, z96⟩ := h95
      have z97 : q_ir (q_r f93 mo 13) sr := Eq.trans (hF.r hmo (by rw [kmo]; rfl)) hr0
      have g98 : q_gr f93 sr := q_gr_fr hgr (fun i9 _ => hF.z hsr (by rw [ksr]; rfl))
      subst qy94
      refine q_ifeq (tgt := 30) cx ⟨by decide, by decide⟩ dX12_inTable_14 (by decide) (fun c99 => ?_) (fun c99 => ?_)
      · refine q_iconst cx dX12_inTable_30 ?_
        refine q_zret cx hr hlk hB dX12_inTable_31 (by decide) (by decide) ?_
        exact ⟨(by decide), (by decide)⟩
      · exact absurd c99 (by omega)
    · obtain ⟨rfl, qy87⟩ := h90
      subst qy87
      refine q_cVi (As := [.int (q_i 0), .int (q_i 0)]) (rest := []) cx hB (fun _ h => h) hN hmo kmo (by decide) rfl (r_goesBoth0 l g hN hB.2.1 mo hmo kmo 0 (by decide) (by decide) 0 (by decide) (by decide)) q_cX12_358 q_dX12_goesBoth (by decide) rfl rfl hl.1 rfl (Nat.le_of_ble_eq_true rfl) dX12_inTable_11 (fun y101 H locs f100 ry101 h102 hF hB => ?_)
      obtain ⟨qy101, z103⟩ := h102
      have z104 : q_ir (q_r f100 mo 13) sr := Eq.trans (hF.r hmo (by rw [kmo]; rfl)) hr0
      have g105 : q_gr f100 sr := q_gr_fr hgr (fun i9 _ => hF.z hsr (by rw [ksr]; rfl))
      subst qy101
      refine q_ifeq (tgt := 30) cx ⟨by decide, by decide⟩ dX12_inTable_14 (by decide) (fun c106 => ?_) (fun c106 => ?_)
      · refine q_iconst cx dX12_inTable_30 ?_
        refine q_zret cx hr hlk hB dX12_inTable_31 (by decide) (by decide) ?_
        exact ⟨(by decide), (by decide)⟩
      · exact absurd c106 (by omega)
set_option maxHeartbeats 4000000 in
set_option maxRecDepth 100000 in
theorem r_duty (l : Launch) (g : q_G) {K : Nat → Nat} {L : List Nat} (hN : L.Nodup) {f : Nat → va_E} (hT : q_Ty g K L f) (mo : Nat) (hmo : mo ∈ L) (kmo : K mo = 12) (a0 : Int) (la0 : (-2147483648) ≤ a0) (ua0 : a0 ≤ 2147483647) (sr : Nat) (hsr : sr ∈ L) (ksr : K sr = 151) (hr0 : q_ir (q_r f mo 13) sr) (hgr : q_gr f sr) : q_Ct l g K L yX12_duty cX12_duty 2 (some .float) 5 113 [.ref mo, .int (q_i a0)] f [(12, 0, 0)] (q_Pf (fun (z : UInt32) (f1 : Nat → va_E) => True)) := by
  refine q_ofb (by decide +kernel) hN hT (Nat.le_of_ble_eq_true rfl) ?_
  intro p e s m below meth c ls cx hr hlk hB hl
  have hl : lv_has ls 2 [(0, .ref mo), (1, .int (q_i a0))] := hl
  obtain ⟨H, hH⟩ : ∃ H : Heap, H = s.heap := ⟨_, rfl⟩
  obtain ⟨locs, hlocs⟩ : ∃ z : List Loc, z = [] := ⟨_, rfl⟩
  rw [← hH, ← hlocs] at hB
  rw [← hH, ← hlocs]
  refine q_ald_n cx dX12_duty_0 rfl (lv_at hl 0 rfl) ?_
  refine q_ald_n cx dX12_duty_1 rfl (lv_at hl 0 rfl) ?_
  refine q_ild_n cx dX12_duty_2 rfl (lv_at hl 1 rfl) ?_
  refine q_cVi (As := [.int (q_i a0)]) (rest := [.ref mo]) cx hB (fun _ h => h) hN hmo kmo (by decide) rfl (r_isNode l g hN hB.2.1 mo hmo kmo a0 (by omega) (by omega) sr hsr ksr hr0) q_cX12_355 q_dX12_isNode (by decide) rfl rfl hl.1 rfl (Nat.le_of_ble_eq_true rfl) dX12_duty_3 (fun y30 H locs f29 ry30 h31 hF hB => ?_)
  rcases h31 with h32 | h33
  · obtain ⟨rfl, qy30, t34, t35⟩ := h32
    subst qy30
    refine q_cVi (As := [.int (q_i 1)]) (rest := []) cx hB (fun _ h => h) hN hmo kmo (by decide) rfl (r_goes1 l g hN hB.2.1 mo hmo kmo 1 (by decide) (by decide)) q_cX12_85 q_dX12_goes (by decide) rfl rfl hl.1 rfl (Nat.le_of_ble_eq_true rfl) dX12_duty_6 (fun y37 H locs f36 ry37 h38 hF hB => ?_)
    obtain ⟨qy37, z39⟩ := h38
    have z40 : q_ir (q_r f36 mo 13) sr := Eq.trans (hF.r hmo (by rw [kmo]; rfl)) hr0
    have g41 : q_gr f36 sr := q_gr_fr hgr (fun i9 _ => hF.z hsr (by rw [ksr]; rfl))
    subst qy37
    refine q_ifeq (tgt := 29) cx ⟨by decide, by decide⟩ dX12_duty_9 (by decide) (fun c42 => ?_) (fun c42 => ?_)
    · exact absurd c42 (by omega)
    · refine q_ald_n cx dX12_duty_12 rfl (lv_at hl 0 rfl) ?_
      refine q_ild_n cx dX12_duty_13 rfl (lv_at hl 1 rfl) ?_
      refine q_cVi (As := [.int (q_i a0)]) (rest := []) cx hB (fun _ h => h) hN hmo kmo (by decide) rfl (r_daysOf l g hN hB.2.1 mo hmo kmo a0 (by omega) (by omega) sr hsr ksr z40 g41) q_cX12_365 q_dX12_daysOf (by decide) rfl rfl hl.1 rfl (Nat.le_of_ble_eq_true rfl) dX12_duty_14 (fun y44 H locs f43 ry44 h45 hF hB => ?_)
      obtain rfl := h45
      refine lv_i2f cx.1 cx.2.1 dX12_duty_17 ?_
      refine q_ald_n cx dX12_duty_18 rfl (lv_at hl 0 rfl) ?_
      refine q_gX12_20 cx hB hmo kmo z40 dX12_duty_19 (fun hb46 kb46 => ?_)
      refine q_iconst cx dX12_duty_22 ?_
      obtain ⟨x47, ex47⟩ : ∃ zz, q_is (q_z f36 sr (Int.toNat 2)) zz := ⟨_, q_isr _⟩
      refine q_sald cx hB hsr ksr (by decide) (by decide) ex47 dX12_duty_23 (fun rx47 => ?_)
      obtain ⟨lx47, ux47⟩ : 4 ≤ x47 ∧ x47 ≤ 60 := q_isb ex47 (q_gr_at g41 (by decide) rfl)
      refine lv_i2f cx.1 cx.2.1 dX12_duty_24 ?_
      have nd49 := k_fdiv (x := y44) (y := x47) (by omega) (by omega)
      refine lv_fdiv cx.1 cx.2.1 dX12_duty_25 nd49 ?_
      refine lv_topf (fun d49 ed49 => ?_)
      rw [← ed49] at nd49
      refine lv_goto (tgt := 30) cx.1 cx.2.1 dX12_duty_26 (by decide) ?_
      refine q_fret cx hr hlk hB dX12_duty_30 ?_
      trivial
  · obtain ⟨rfl, qy30⟩ := h33
    subst qy30
    refine q_cVi (As := [.int (q_i 0)]) (rest := []) cx hB (fun _ h => h) hN hmo kmo (by decide) rfl (r_goes0 l g hN hB.2.1 mo hmo kmo 0 (by decide) (by decide)) q_cX12_85 q_dX12_goes (by decide) rfl rfl hl.1 rfl (Nat.le_of_ble_eq_true rfl) dX12_duty_6 (fun y51 H locs f50 ry51 h52 hF hB => ?_)
    obtain ⟨qy51, z53⟩ := h52
    have z54 : q_ir (q_r f50 mo 13) sr := Eq.trans (hF.r hmo (by rw [kmo]; rfl)) hr0
    have g55 : q_gr f50 sr := q_gr_fr hgr (fun i9 _ => hF.z hsr (by rw [ksr]; rfl))
    subst qy51
    refine q_ifeq (tgt := 29) cx ⟨by decide, by decide⟩ dX12_duty_9 (by decide) (fun c56 => ?_) (fun c56 => ?_)
    · refine lv_fconst0 cx.1 cx.2.1 dX12_duty_29 ?_
      refine q_fret cx hr hlk hB dX12_duty_30 ?_
      trivial
    · exact absurd c56 (by omega)
set_option maxHeartbeats 4000000 in
set_option maxRecDepth 100000 in
theorem r_meanEnergy (l : Launch) (g : q_G) {K : Nat → Nat} {L : List Nat} (hN : L.Nodup) {f : Nat → va_E} (hT : q_Ty g K L f) (mo : Nat) (hmo : mo ∈ L) (kmo : K mo = 12) (sr : Nat) (hsr : sr ∈ L) (ksr : K sr = 151) (hr0 : q_ir (q_r f mo 13) sr) (hgr : q_gr f sr) : q_Ct l g K L yX12_meanEnergy cX12_meanEnergy 3 (some .double) 2 43 [.ref mo] f [(12, 0, 0)] (q_Pd (fun (z : UInt64) (f1 : Nat → va_E) => True)) := by
  refine q_ofb (by decide +kernel) hN hT (Nat.le_of_ble_eq_true rfl) ?_
  intro p e s m below meth c ls cx hr hlk hB hl
  have hl : lv_has ls 3 [(0, .ref mo)] := hl
  have J9 : ∀ (n : Nat) (f9 : Nat → va_E) (v9_1 : Int) (lv9_1 : (-2147483648) ≤ v9_1) (uv9_1 : v9_1 ≤ 2147483647) (v9_2 : Int) (lv9_2 : 0 ≤ v9_2) (uv9_2 : v9_2 ≤ 10) (hq_mo_13 : q_ir (q_r f9 mo 13) sr) (hgr9 : q_gr f9 sr) (hmu : (Int.toNat (2147483647 - v9_2)) < n) (H : Heap) (locs : List Loc) (hB : q_B g K L (fun q => q ∈ L) [(12, 0, 0)] f f9 s H locs) (ls : Array Slot) (hl : lv_has ls 3 [(0, .ref mo), (1, .int (q_i v9_1)), (2, .int (q_i v9_2))]), W p l e { frames := 2, cells := 0, slots := 0, locals := 43 } s m ([.ref mo] : List Value).toArray below meth c H locs 0 0 (MQ below (q_Q g K L [(12, 0, 0)] f (q_Pd (fun (z : UInt64) (f1 : Nat → va_E) => True))) ([.ref mo] : List Value).toArray s 0 0 (fun q => q ∈ L)) (F0 m 9 ls []) := by
    intro n
    induction n with
    | zero =>
      intro f9 v9_1 lv9_1 uv9_1 v9_2 lv9_2 uv9_2 hq_mo_13 hgr9 hmu
      exact absurd hmu (Nat.not_lt_zero _)
    | succ n ih9 =>
      intro f9 v9_1 lv9_1 uv9_1 v9_2 lv9_2 uv9_2 hq_mo_13 hgr9 hmu H locs hB ls hl
      refine q_ild_n cx dX12_meanEnergy_9 rfl (lv_at hl 2 rfl) ?_
      refine q_ald_n cx dX12_meanEnergy_10 rfl (lv_at hl 0 rfl) ?_
      refine q_gX12_20 cx hB hmo kmo hq_mo_13 dX12_meanEnergy_11 (fun hb169 kb169 => ?_)
      refine q_iconst cx dX12_meanEnergy_14 ?_
      obtain ⟨x170, ex170⟩ : ∃ zz, q_is (q_z f9 sr (Int.toNat 0)) zz := ⟨_, q_isr _⟩
      refine q_iald (lo := 0) (hi := 10) (n := 658) cx hB hsr ksr (by decide) rfl rfl (by decide) (by decide) (by decide) rfl ex170 dX12_meanEnergy_15 (fun lb171 ub171 => ?_)
      refine q_icge (tgt := 34) cx ⟨by omega, by omega⟩ ⟨by omega, by omega⟩ dX12_meanEnergy_16 (by decide) (fun c172 => ?_) (fun c172 => ?_)
      · refine q_ald_n cx dX12_meanEnergy_34 rfl (lv_at hl 0 rfl) ?_
        refine q_gX12_20 cx hB hmo kmo hq_mo_13 dX12_meanEnergy_35 (fun hb173 kb173 => ?_)
        refine q_iconst cx dX12_meanEnergy_38 ?_
        refine q_iald (lo := 0) (hi := 10) (n := 658) cx hB hsr ksr (by decide) rfl rfl (by decide) (by decide) (by decide) rfl ex170 dX12_meanEnergy_39 (fun lb175 ub175 => ?_)
        refine q_ifne (tgt := 47) cx ⟨by omega, by omega⟩ dX12_meanEnergy_40 (by decide) (fun c176 => ?_) (fun c176 => ?_)
        · refine q_ild_n cx dX12_meanEnergy_47 rfl (lv_at hl 1 rfl) ?_
          refine lv_i2d cx.1 cx.2.1 dX12_meanEnergy_48 ?_
          refine q_ald_n cx dX12_meanEnergy_49 rfl (lv_at hl 0 rfl) ?_
          refine q_gX12_20 cx hB hmo kmo hq_mo_13 dX12_meanEnergy_50 (fun hb177 kb177 => ?_)
          refine q_iconst cx dX12_meanEnergy_53 ?_
          refine q_iald (lo := 0) (hi := 10) (n := 658) cx hB hsr ksr (by decide) rfl rfl (by decide) (by decide) (by decide) rfl ex170 dX12_meanEnergy_54 (fun lb179 ub179 => ?_)
          refine lv_i2d cx.1 cx.2.1 dX12_meanEnergy_55 ?_
          have nd180 := k_ddiv (x := v9_1) (y := x170) (by omega) (by omega)
          refine lv_ddiv cx.1 cx.2.1 dX12_meanEnergy_56 nd180 ?_
          refine lv_topd (fun d180 ed180 => ?_)
          rw [← ed180] at nd180
          refine q_dret cx hr hlk hB dX12_meanEnergy_57 ?_
          trivial
        · refine lv_dconst0 cx.1 cx.2.1 dX12_meanEnergy_43 ?_
          refine lv_goto (tgt := 57) cx.1 cx.2.1 dX12_meanEnergy_44 (by decide) ?_
          refine q_dret cx hr hlk hB dX12_meanEnergy_57 ?_
          trivial
      · refine q_ild_n cx dX12_meanEnergy_19 rfl (lv_at hl 1 rfl) ?_
        refine q_ald_n cx dX12_meanEnergy_20 rfl (lv_at hl 0 rfl) ?_
        refine q_ild_n cx dX12_meanEnergy_21 rfl (lv_at hl 2 rfl) ?_
        refine q_iconst cx dX12_meanEnergy_22 ?_
        refine q_cVi (As := [.int (q_i v9_2), .int (q_i 2)]) (rest := [.int (q_i v9_1)]) cx hB (fun _ h => h) hN hmo kmo (by decide) rfl (r_ofNode2 l g hN hB.2.1 mo hmo kmo v9_2 (by omega) (by omega) 2 (by decide) (by decide) sr hsr ksr hq_mo_13 hgr9) q_cX12_256 q_dX12_ofNode (by decide) rfl rfl hl.1 rfl (Nat.le_of_ble_eq_true rfl) dX12_meanEnergy_23 (fun y182 H locs f181 ry182 h183 hF hB => ?_)
        obtain ⟨rfl, ly182, uy182, t184⟩ := h183
        refine q_iadd cx dX12_meanEnergy_26 ?_
        refine q_any (fun y185 ry185 ey185 => ?_)
        refine lv_istore_n (lv' := [(1, .int (q_i y185)), (0, .ref mo), (2, .int (q_i v9_2))]) cx.1 cx.2.1 dX12_meanEnergy_27 rfl hl (by decide) rfl (fun ls hl => ?_)
        refine q_iinc (lv' := [(2, .int (q_i (v9_2 + 1))), (1, .int (q_i y185)), (0, .ref mo)]) cx dX12_meanEnergy_28 hl (k := 2) rfl (by decide) rfl (fun ls hl => ?_)
        refine lv_goto (tgt := 9) cx.1 cx.2.1 dX12_meanEnergy_31 (by decide) ?_
        exact ih9 f9 y185 (by omega) (by omega) (v9_2 + 1) (by omega) (by omega) hq_mo_13 hgr9 (by omega) H locs hB ls (lv_sub hl [2, 1, 0] rfl)
  obtain ⟨H, hH⟩ : ∃ H : Heap, H = s.heap := ⟨_, rfl⟩
  obtain ⟨locs, hlocs⟩ : ∃ z : List Loc, z = [] := ⟨_, rfl⟩
  rw [← hH, ← hlocs] at hB
  rw [← hH, ← hlocs]
  refine q_ald_n cx dX12_meanEnergy_0 rfl (lv_at hl 0 rfl) ?_
  refine q_iconst cx dX12_meanEnergy_1 ?_
  refine q_pX12_75 cx hB hmo kmo ⟨by decide, by decide⟩ (by decide) (by decide) rfl dX12_meanEnergy_2 (fun H locs f186 ef186 z187 hB => ?_)
  have z188 : q_ir (q_r f186 mo 13) sr := by rw [ef186, q_setr (Or.inr (by decide))]; exact hr0
  have g189 : q_gr f186 sr := q_gr_ne hgr ef186 (fun q => q_kne (k := 151) (k2 := 12) (by decide) ksr kmo q)
  refine q_iconst cx dX12_meanEnergy_5 ?_
  refine lv_istore_n (lv' := [(1, .int (q_i 0)), (0, .ref mo)]) cx.1 cx.2.1 dX12_meanEnergy_6 rfl hl (by decide) rfl (fun ls hl => ?_)
  refine q_iconst cx dX12_meanEnergy_7 ?_
  refine lv_istore_n (lv' := [(2, .int (q_i 0)), (1, .int (q_i 0)), (0, .ref mo)]) cx.1 cx.2.1 dX12_meanEnergy_8 rfl hl (by decide) rfl (fun ls hl => ?_)
  exact J9 ((Int.toNat (2147483647 - 0)) + 1) f186 0 (by decide) (by decide) 0 (by decide) (by decide) z188 g189 (Nat.lt_succ_self _) H locs hB ls (lv_sub hl [2, 1, 0] rfl)
set_option maxHeartbeats 4000000 in
set_option maxRecDepth 100000 in
theorem r_awakeIn (l : Launch) (g : q_G) {K : Nat → Nat} {L : List Nat} (hN : L.Nodup) {f : Nat → va_E} (hT : q_Ty g K L f) (mo : Nat) (hmo : mo ∈ L) (kmo : K mo = 12) (a0 : Int) (la0 : (-2147483648) ≤ a0) (ua0 : a0 ≤ 2147483647) (sr : Nat) (hsr : sr ∈ L) (ksr : K sr = 151) (hr0 : q_ir (q_r f mo 13) sr) (hgr : q_gr f sr) : q_Ct l g K L yX12_awakeIn cX12_awakeIn 2 (some .int) 6 135 [.ref mo, .int (q_i a0)] f [(12, 0, 0)] (q_Pi (fun (z : Int) (f1 : Nat → va_E) => True)) := by
  refine q_ofb (by decide +kernel) hN hT (Nat.le_of_ble_eq_true rfl) ?_
  intro p e s m below meth c ls cx hr hlk hB hl
  have hl : lv_has ls 2 [(0, .ref mo), (1, .int (q_i a0))] := hl
  obtain ⟨H, hH⟩ : ∃ H : Heap, H = s.heap := ⟨_, rfl⟩
  obtain ⟨locs, hlocs⟩ : ∃ z : List Loc, z = [] := ⟨_, rfl⟩
  rw [← hH, ← hlocs] at hB
  rw [← hH, ← hlocs]
  refine q_ald_n cx dX12_awakeIn_0 rfl (lv_at hl 0 rfl) ?_
  refine q_ild_n cx dX12_awakeIn_1 rfl (lv_at hl 1 rfl) ?_
  refine q_i2l cx ⟨by omega, by omega⟩ dX12_awakeIn_2 ?_
  refine q_lconst (z := 0) cx (by decide) dX12_awakeIn_3 ?_
  refine lv_ldc2 (v := q_l 99) cx.1 cx.2.1 cx.2.2.2.1 (cx.2.2.2.2 _ q_h1977) dX12_awakeIn_4 ?_
  refine q_cSi (As := [.long (q_l a0), .long (q_l 0), .long (q_l 99)]) (rest := [.ref mo]) cx hB (fun _ h => h) hN (r_isIn l g hN hB.2.1 a0 (by omega) (by omega) 0 (by decide) (by decide) 99 (by decide) (by decide)) q_cX12_93 q_dX12_isIn (by decide) rfl rfl hl.1 rfl (Nat.le_of_ble_eq_true rfl) dX12_awakeIn_7 (fun y27 H locs f26 ry27 h28 hF hB => ?_)
  rcases h28 with h29 | h30
  · obtain ⟨rfl, qy27, t31, t32⟩ := h29
    subst qy27
    refine q_cVi (As := [.int (q_i 1)]) (rest := []) cx hB (fun _ h => h) hN hmo kmo (by decide) rfl (r_goes1 l g hN hB.2.1 mo hmo kmo 1 (by decide) (by decide)) q_cX12_85 q_dX12_goes (by decide) rfl rfl hl.1 rfl (Nat.le_of_ble_eq_true rfl) dX12_awakeIn_10 (fun y34 H locs f33 ry34 h35 hF hB => ?_)
    obtain ⟨qy34, z36⟩ := h35
    have z37 : q_ir (q_r f33 mo 13) sr := Eq.trans (hF.r hmo (by rw [kmo]; rfl)) hr0
    have g38 : q_gr f33 sr := q_gr_fr hgr (fun i9 _ => hF.z hsr (by rw [ksr]; rfl))
    subst qy34
    refine q_ifeq (tgt := 24) cx ⟨by decide, by decide⟩ dX12_awakeIn_13 (by decide) (fun c39 => ?_) (fun c39 => ?_)
    · exact absurd c39 (by omega)
    · refine q_ald_n cx dX12_awakeIn_16 rfl (lv_at hl 0 rfl) ?_
      refine q_ild_n cx dX12_awakeIn_17 rfl (lv_at hl 1 rfl) ?_
      refine q_cVi (As := [.int (q_i a0)]) (rest := []) cx hB (fun _ h => h) hN hmo kmo (by decide) rfl (r_awakeSet l g hN hB.2.1 mo hmo kmo a0 (by omega) (by omega) sr hsr ksr z37 g38) q_cX12_286 q_dX12_awakeSet (by decide) rfl rfl hl.1 rfl (Nat.le_of_ble_eq_true rfl) dX12_awakeIn_18 (fun y41 H locs f40 ry41 h42 hF hB => ?_)
      obtain rfl := h42
      refine lv_goto (tgt := 25) cx.1 cx.2.1 dX12_awakeIn_21 (by decide) ?_
      refine q_iret cx hr hlk hB dX12_awakeIn_25 ⟨by omega, by omega⟩ ?_
      trivial
  · obtain ⟨rfl, qy27, t43⟩ := h30
    subst qy27
    refine q_cVi (As := [.int (q_i 0)]) (rest := []) cx hB (fun _ h => h) hN hmo kmo (by decide) rfl (r_goes0 l g hN hB.2.1 mo hmo kmo 0 (by decide) (by decide)) q_cX12_85 q_dX12_goes (by decide) rfl rfl hl.1 rfl (Nat.le_of_ble_eq_true rfl) dX12_awakeIn_10 (fun y45 H locs f44 ry45 h46 hF hB => ?_)
    obtain ⟨qy45, z47⟩ := h46
    have z48 : q_ir (q_r f44 mo 13) sr := Eq.trans (hF.r hmo (by rw [kmo]; rfl)) hr0
    have g49 : q_gr f44 sr := q_gr_fr hgr (fun i9 _ => hF.z hsr (by rw [ksr]; rfl))
    subst qy45
    refine q_ifeq (tgt := 24) cx ⟨by decide, by decide⟩ dX12_awakeIn_13 (by decide) (fun c50 => ?_) (fun c50 => ?_)
    · refine q_iconst cx dX12_awakeIn_24 ?_
      refine q_iret cx hr hlk hB dX12_awakeIn_25 ⟨by decide, by decide⟩ ?_
      trivial
    · exact absurd c50 (by omega)
set_option maxHeartbeats 4000000 in
set_option maxRecDepth 100000 in
theorem r_meetsIn (l : Launch) (g : q_G) {K : Nat → Nat} {L : List Nat} (hN : L.Nodup) {f : Nat → va_E} (hT : q_Ty g K L f) (mo : Nat) (hmo : mo ∈ L) (kmo : K mo = 12) (a0 : Int) (la0 : (-2147483648) ≤ a0) (ua0 : a0 ≤ 2147483647) (b0 : Int) (lb0 : (-2147483648) ≤ b0) (ub0 : b0 ≤ 2147483647) (sr : Nat) (hsr : sr ∈ L) (ksr : K sr = 151) (hr0 : q_ir (q_r f mo 13) sr) (hgr : q_gr f sr) : q_Ct l g K L yX12_meetsIn cX12_meetsIn 3 (some .int) 6 135 [.ref mo, .int (q_i a0), .int (q_i b0)] f [(12, 0, 0)] (q_Pi (fun (z : Int) (f1 : Nat → va_E) => (-1) ≤ z ∧ z ≤ 60)) := by
  refine q_ofb (by decide +kernel) hN hT (Nat.le_of_ble_eq_true rfl) ?_
  intro p e s m below meth c ls cx hr hlk hB hl
  have hl : lv_has ls 3 [(0, .ref mo), (1, .int (q_i a0)), (2, .int (q_i b0))] := hl
  obtain ⟨H, hH⟩ : ∃ H : Heap, H = s.heap := ⟨_, rfl⟩
  obtain ⟨locs, hlocs⟩ : ∃ z : List Loc, z = [] := ⟨_, rfl⟩
  rw [← hH, ← hlocs] at hB
  rw [← hH, ← hlocs]
  refine q_ald_n cx dX12_meetsIn_0 rfl (lv_at hl 0 rfl) ?_
  refine q_ald_n cx dX12_meetsIn_1 rfl (lv_at hl 0 rfl) ?_
  refine q_ild_n cx dX12_meetsIn_2 rfl (lv_at hl 1 rfl) ?_
  refine q_cVi (As := [.int (q_i a0)]) (rest := [.ref mo]) cx hB (fun _ h => h) hN hmo kmo (by decide) rfl (r_isNode l g hN hB.2.1 mo hmo kmo a0 (by omega) (by omega) sr hsr ksr hr0) q_cX12_355 q_dX12_isNode (by decide) rfl rfl hl.1 rfl (Nat.le_of_ble_eq_true rfl) dX12_meetsIn_3 (fun y44 H locs f43 ry44 h45 hF hB => ?_)
  rcases h45 with h46 | h47
  · obtain ⟨rfl, qy44, t48, t49⟩ := h46
    subst qy44
    refine q_ifeq (tgt := 21) cx ⟨by decide, by decide⟩ dX12_meetsIn_6 (by decide) (fun c50 => ?_) (fun c50 => ?_)
    · exact absurd c50 (by omega)
    · refine q_ald_n cx dX12_meetsIn_9 rfl (lv_at hl 0 rfl) ?_
      refine q_ild_n cx dX12_meetsIn_10 rfl (lv_at hl 2 rfl) ?_
      refine q_cVi (As := [.int (q_i b0)]) (rest := [.ref mo]) cx hB (fun _ h => h) hN hmo kmo (by decide) rfl (r_isNode l g hN hB.2.1 mo hmo kmo b0 (by omega) (by omega) sr hsr ksr hr0) q_cX12_355 q_dX12_isNode (by decide) rfl rfl hl.1 rfl (Nat.le_of_ble_eq_true rfl) dX12_meetsIn_11 (fun y52 H locs f51 ry52 h53 hF hB => ?_)
      rcases h53 with h54 | h55
      · obtain ⟨rfl, qy52, t56, t57⟩ := h54
        subst qy52
        refine q_ifeq (tgt := 21) cx ⟨by decide, by decide⟩ dX12_meetsIn_14 (by decide) (fun c58 => ?_) (fun c58 => ?_)
        · exact absurd c58 (by omega)
        · refine q_iconst cx dX12_meetsIn_17 ?_
          refine lv_goto (tgt := 22) cx.1 cx.2.1 dX12_meetsIn_18 (by decide) ?_
          refine q_cVi (As := [.int (q_i 1)]) (rest := []) cx hB (fun _ h => h) hN hmo kmo (by decide) rfl (r_goes1 l g hN hB.2.1 mo hmo kmo 1 (by decide) (by decide)) q_cX12_85 q_dX12_goes (by decide) rfl rfl hl.1 rfl (Nat.le_of_ble_eq_true rfl) dX12_meetsIn_22 (fun y60 H locs f59 ry60 h61 hF hB => ?_)
          obtain ⟨qy60, z62⟩ := h61
          have z63 : q_ir (q_r f59 mo 13) sr := Eq.trans (hF.r hmo (by rw [kmo]; rfl)) hr0
          have g64 : q_gr f59 sr := q_gr_fr hgr (fun i9 _ => hF.z hsr (by rw [ksr]; rfl))
          subst qy60
          refine q_ifeq (tgt := 37) cx ⟨by decide, by decide⟩ dX12_meetsIn_25 (by decide) (fun c65 => ?_) (fun c65 => ?_)
          · exact absurd c65 (by omega)
          · refine q_ald_n cx dX12_meetsIn_28 rfl (lv_at hl 0 rfl) ?_
            refine q_ild_n cx dX12_meetsIn_29 rfl (lv_at hl 1 rfl) ?_
            refine q_ild_n cx dX12_meetsIn_30 rfl (lv_at hl 2 rfl) ?_
            refine q_cVi (As := [.int (q_i a0), .int (q_i b0)]) (rest := []) cx hB (fun _ h => h) hN hmo kmo (by decide) rfl (r_meeting l g hN hB.2.1 mo hmo kmo a0 (by omega) (by omega) b0 (by omega) (by omega) sr hsr ksr z63 g64) q_cX12_393 q_dX12_meeting (by decide) rfl rfl hl.1 rfl (Nat.le_of_ble_eq_true rfl) dX12_meetsIn_31 (fun y67 H locs f66 ry67 h68 hF hB => ?_)
            obtain ⟨rfl, ly67, uy67⟩ := h68
            refine lv_goto (tgt := 38) cx.1 cx.2.1 dX12_meetsIn_34 (by decide) ?_
            refine q_iret cx hr hlk hB dX12_meetsIn_38 ⟨by omega, by omega⟩ ?_
            exact ⟨(by omega), (by omega)⟩
      · obtain ⟨rfl, qy52⟩ := h55
        subst qy52
        refine q_ifeq (tgt := 21) cx ⟨by decide, by decide⟩ dX12_meetsIn_14 (by decide) (fun c69 => ?_) (fun c69 => ?_)
        · refine q_iconst cx dX12_meetsIn_21 ?_
          refine q_cVi (As := [.int (q_i 0)]) (rest := []) cx hB (fun _ h => h) hN hmo kmo (by decide) rfl (r_goes0 l g hN hB.2.1 mo hmo kmo 0 (by decide) (by decide)) q_cX12_85 q_dX12_goes (by decide) rfl rfl hl.1 rfl (Nat.le_of_ble_eq_true rfl) dX12_meetsIn_22 (fun y71 H locs f70 ry71 h72 hF hB => ?_)
          obtain ⟨qy71, z73⟩ := h72
          have z74 : q_ir (q_r f70 mo 13) sr := Eq.trans (hF.r hmo (by rw [kmo]; rfl)) hr0
          have g75 : q_gr f70 sr := q_gr_fr hgr (fun i9 _ => hF.z hsr (by rw [ksr]; rfl))
          subst qy71
          refine q_ifeq (tgt := 37) cx ⟨by decide, by decide⟩ dX12_meetsIn_25 (by decide) (fun c76 => ?_) (fun c76 => ?_)
          · refine q_iconst cx dX12_meetsIn_37 ?_
            refine q_iret cx hr hlk hB dX12_meetsIn_38 ⟨by decide, by decide⟩ ?_
            exact ⟨(by decide), (by decide)⟩
          · exact absurd c76 (by omega)
        · exact absurd c69 (by omega)
  · obtain ⟨rfl, qy44⟩ := h47
    subst qy44
    refine q_ifeq (tgt := 21) cx ⟨by decide, by decide⟩ dX12_meetsIn_6 (by decide) (fun c77 => ?_) (fun c77 => ?_)
    · refine q_iconst cx dX12_meetsIn_21 ?_
      refine q_cVi (As := [.int (q_i 0)]) (rest := []) cx hB (fun _ h => h) hN hmo kmo (by decide) rfl (r_goes0 l g hN hB.2.1 mo hmo kmo 0 (by decide) (by decide)) q_cX12_85 q_dX12_goes (by decide) rfl rfl hl.1 rfl (Nat.le_of_ble_eq_true rfl) dX12_meetsIn_22 (fun y79 H locs f78 ry79 h80 hF hB => ?_)
      obtain ⟨qy79, z81⟩ := h80
      have z82 : q_ir (q_r f78 mo 13) sr := Eq.trans (hF.r hmo (by rw [kmo]; rfl)) hr0
      have g83 : q_gr f78 sr := q_gr_fr hgr (fun i9 _ => hF.z hsr (by rw [ksr]; rfl))
      subst qy79
      refine q_ifeq (tgt := 37) cx ⟨by decide, by decide⟩ dX12_meetsIn_25 (by decide) (fun c84 => ?_) (fun c84 => ?_)
      · refine q_iconst cx dX12_meetsIn_37 ?_
        refine q_iret cx hr hlk hB dX12_meetsIn_38 ⟨by decide, by decide⟩ ?_
        exact ⟨(by decide), (by decide)⟩
      · exact absurd c84 (by omega)
    · exact absurd c77 (by omega)
set_option maxHeartbeats 4000000 in
set_option maxRecDepth 100000 in
theorem r_worstLink (l : Launch) (g : q_G) {K : Nat → Nat} {L : List Nat} (hN : L.Nodup) {f : Nat → va_E} (hT : q_Ty g K L f) (mo : Nat) (hmo : mo ∈ L) (kmo : K mo = 12) (sr : Nat) (hsr : sr ∈ L) (ksr : K sr = 151) (hr0 : q_ir (q_r f mo 13) sr) (hgr : q_gr f sr) : q_Ct l g K L yX12_worstLink cX12_worstLink 5 (some .int) 7 158 [.ref mo] f [(12, 0, 0)] (q_Pi (fun (z : Int) (f1 : Nat → va_E) => (-1) ≤ z ∧ z ≤ 15)) := by
  refine q_ofb (by decide +kernel) hN hT (Nat.le_of_ble_eq_true rfl) ?_
  intro p e s m below meth c ls cx hr hlk hB hl
  have hl : lv_has ls 5 [(0, .ref mo)] := hl
  have J11 : ∀ (n : Nat) (f11 : Nat → va_E) (v11_1 : Int) (lv11_1 : (-1) ≤ v11_1) (uv11_1 : v11_1 ≤ 15) (v11_2 : Int) (lv11_2 : (-1) ≤ v11_2) (uv11_2 : v11_2 ≤ 1000) (v11_3 : Int) (lv11_3 : 0 ≤ v11_3) (uv11_3 : v11_3 ≤ 16) (hq_mo_13 : q_ir (q_r f11 mo 13) sr) (hgr11 : q_gr f11 sr) (hmu : (Int.toNat (2147483647 - v11_3)) < n) (H : Heap) (locs : List Loc) (hB : q_B g K L (fun q => q ∈ L) [(12, 0, 0)] f f11 s H locs) (ls : Array Slot) (hl : lv_has ls 5 [(0, .ref mo), (1, .int (q_i v11_1)), (2, .int (q_i v11_2)), (3, .int (q_i v11_3))]), W p l e { frames := 7, cells := 0, slots := 0, locals := 158 } s m ([.ref mo] : List Value).toArray below meth c H locs 0 0 (MQ below (q_Q g K L [(12, 0, 0)] f (q_Pi (fun (z : Int) (f1 : Nat → va_E) => (-1) ≤ z ∧ z ≤ 15))) ([.ref mo] : List Value).toArray s 0 0 (fun q => q ∈ L)) (F0 m 11 ls []) := by
    intro n
    induction n with
    | zero =>
      intro f11 v11_1 lv11_1 uv11_1 v11_2 lv11_2 uv11_2 v11_3 lv11_3 uv11_3 hq_mo_13 hgr11 hmu
      exact absurd hmu (Nat.not_lt_zero _)
    | succ n ih11 =>
      intro f11 v11_1 lv11_1 uv11_1 v11_2 lv11_2 uv11_2 v11_3 lv11_3 uv11_3 hq_mo_13 hgr11 hmu H locs hB ls hl
      refine q_ild_n cx dX12_worstLink_11 rfl (lv_at hl 3 rfl) ?_
      refine q_ald_n cx dX12_worstLink_12 rfl (lv_at hl 0 rfl) ?_
      refine q_gX12_20 cx hB hmo kmo hq_mo_13 dX12_worstLink_13 (fun hb201 kb201 => ?_)
      refine q_iconst cx dX12_worstLink_16 ?_
      obtain ⟨x202, ex202⟩ : ∃ zz, q_is (q_z f11 sr (Int.toNat 1)) zz := ⟨_, q_isr _⟩
      refine q_iald (lo := 0) (hi := 16) (n := 658) cx hB hsr ksr (by decide) rfl rfl (by decide) (by decide) (by decide) rfl ex202 dX12_worstLink_17 (fun lb203 ub203 => ?_)
      refine q_icge (tgt := 59) cx ⟨by omega, by omega⟩ ⟨by omega, by omega⟩ dX12_worstLink_18 (by decide) (fun c204 => ?_) (fun c204 => ?_)
      · refine q_ild_n cx dX12_worstLink_59 rfl (lv_at hl 1 rfl) ?_
        refine q_iret cx hr hlk hB dX12_worstLink_60 ⟨by omega, by omega⟩ ?_
        exact ⟨(by omega), (by omega)⟩
      · refine q_ald_n cx dX12_worstLink_21 rfl (lv_at hl 0 rfl) ?_
        refine q_ald_n cx dX12_worstLink_22 rfl (lv_at hl 0 rfl) ?_
        refine q_ild_n cx dX12_worstLink_23 rfl (lv_at hl 3 rfl) ?_
        refine q_iconst cx dX12_worstLink_24 ?_
        refine q_cVi (As := [.int (q_i v11_3), .int (q_i 0)]) (rest := [.ref mo]) cx hB (fun _ h => h) hN hmo kmo (by decide) rfl (r_ofLink0 l g hN hB.2.1 mo hmo kmo v11_3 (by omega) (by omega) 0 (by decide) (by decide) sr hsr ksr hq_mo_13 hgr11) q_cX12_210 q_dX12_ofLink (by decide) rfl rfl hl.1 rfl (Nat.le_of_ble_eq_true rfl) dX12_worstLink_25 (fun y206 H locs f205 ry206 h207 hF hB => ?_)
        obtain ⟨rfl, ly206, uy206⟩ := h207
        refine q_ald_n cx dX12_worstLink_28 rfl (lv_at hl 0 rfl) ?_
        refine q_ild_n cx dX12_worstLink_29 rfl (lv_at hl 3 rfl) ?_
        refine q_iconst cx dX12_worstLink_30 ?_
        refine q_cVi (As := [.int (q_i v11_3), .int (q_i 1)]) (rest := [.int (q_i y206), .ref mo]) cx hB (fun _ h => h) hN hmo kmo (by decide) rfl (r_ofLink1 l g hN hB.2.1 mo hmo kmo v11_3 (by omega) (by omega) 1 (by decide) (by decide) sr hsr ksr hq_mo_13 hgr11) q_cX12_210 q_dX12_ofLink (by decide) rfl rfl hl.1 rfl (Nat.le_of_ble_eq_true rfl) dX12_worstLink_31 (fun y209 H locs f208 ry209 h210 hF hB => ?_)
        obtain ⟨rfl, ly209, uy209⟩ := h210
        refine q_cVi (As := [.int (q_i y206), .int (q_i y209)]) (rest := []) cx hB (fun _ h => h) hN hmo kmo (by decide) rfl (r_lateness l g hN hB.2.1 mo hmo kmo y206 (by omega) (by omega) y209 (by omega) (by omega) sr hsr ksr hq_mo_13 hgr11) q_cX12_396 q_dX12_lateness (by decide) rfl rfl hl.1 rfl (Nat.le_of_ble_eq_true rfl) dX12_worstLink_34 (fun y212 H locs f211 ry212 h213 hF hB => ?_)
        obtain ⟨rfl, ly212, uy212⟩ := h213
        refine lv_istore (lv' := [(4, .int (q_i y212)), (0, .ref mo), (1, .int (q_i v11_1)), (2, .int (q_i v11_2)), (3, .int (q_i v11_3))]) cx.1 cx.2.1 dX12_worstLink_37 hl (by decide) rfl (fun ls hl => ?_)
        refine lv_iload cx.1 cx.2.1 dX12_worstLink_39 (lv_at hl 0 rfl) ?_
        refine q_ild_n cx dX12_worstLink_41 rfl (lv_at hl 3 rfl) ?_
        refine q_icgt (tgt := 48) cx ⟨by omega, by omega⟩ ⟨by omega, by omega⟩ dX12_worstLink_42 (by decide) (fun c214 => ?_) (fun c214 => ?_)
        · refine lv_iload cx.1 cx.2.1 dX12_worstLink_48 (lv_at hl 0 rfl) ?_
          refine lv_istore_n (lv' := [(2, .int (q_i y212)), (4, .int (q_i y212)), (0, .ref mo), (1, .int (q_i v11_1)), (3, .int (q_i v11_3))]) cx.1 cx.2.1 dX12_worstLink_50 rfl hl (by decide) rfl (fun ls hl => ?_)
          refine q_ild_n cx dX12_worstLink_51 rfl (lv_at hl 4 rfl) ?_
          refine lv_istore_n (lv' := [(1, .int (q_i v11_3)), (2, .int (q_i y212)), (4, .int (q_i y212)), (0, .ref mo), (3, .int (q_i v11_3))]) cx.1 cx.2.1 dX12_worstLink_52 rfl hl (by decide) rfl (fun ls hl => ?_)
          refine q_iinc (lv' := [(3, .int (q_i (v11_3 + 1))), (1, .int (q_i v11_3)), (2, .int (q_i y212)), (4, .int (q_i y212)), (0, .ref mo)]) cx dX12_worstLink_53 hl (k := 4) rfl (by decide) rfl (fun ls hl => ?_)
          refine lv_goto (tgt := 11) cx.1 cx.2.1 dX12_worstLink_56 (by decide) ?_
          exact ih11 f11 v11_3 (by omega) (by omega) y212 (by omega) (by omega) (v11_3 + 1) (by omega) (by omega) hq_mo_13 hgr11 (by omega) H locs hB ls (lv_sub hl [4, 1, 2, 0] rfl)
        · refine lv_goto (tgt := 53) cx.1 cx.2.1 dX12_worstLink_45 (by decide) ?_
          refine q_iinc (lv' := [(3, .int (q_i (v11_3 + 1))), (4, .int (q_i y212)), (0, .ref mo), (1, .int (q_i v11_1)), (2, .int (q_i v11_2))]) cx dX12_worstLink_53 hl (k := 4) rfl (by decide) rfl (fun ls hl => ?_)
          refine lv_goto (tgt := 11) cx.1 cx.2.1 dX12_worstLink_56 (by decide) ?_
          exact ih11 f11 v11_1 (by omega) (by omega) v11_2 (by omega) (by omega) (v11_3 + 1) (by omega) (by omega) hq_mo_13 hgr11 (by omega) H locs hB ls (lv_sub hl [2, 3, 4, 0] rfl)
  obtain ⟨H, hH⟩ : ∃ H : Heap, H = s.heap := ⟨_, rfl⟩
  obtain ⟨locs, hlocs⟩ : ∃ z : List Loc, z = [] := ⟨_, rfl⟩
  rw [← hH, ← hlocs] at hB
  rw [← hH, ← hlocs]
  refine q_ald_n cx dX12_worstLink_0 rfl (lv_at hl 0 rfl) ?_
  refine q_iconst cx dX12_worstLink_1 ?_
  refine q_pX12_75 cx hB hmo kmo ⟨by decide, by decide⟩ (by decide) (by decide) rfl dX12_worstLink_2 (fun H locs f215 ef215 z216 hB => ?_)
  have z217 : q_ir (q_r f215 mo 13) sr := by rw [ef215, q_setr (Or.inr (by decide))]; exact hr0
  have g218 : q_gr f215 sr := q_gr_ne hgr ef215 (fun q => q_kne (k := 151) (k2 := 12) (by decide) ksr kmo q)
  refine q_iconst cx dX12_worstLink_5 ?_
  refine lv_istore_n (lv' := [(1, .int (q_i (-1))), (0, .ref mo)]) cx.1 cx.2.1 dX12_worstLink_6 rfl hl (by decide) rfl (fun ls hl => ?_)
  refine q_iconst cx dX12_worstLink_7 ?_
  refine lv_istore_n (lv' := [(2, .int (q_i (-1))), (1, .int (q_i (-1))), (0, .ref mo)]) cx.1 cx.2.1 dX12_worstLink_8 rfl hl (by decide) rfl (fun ls hl => ?_)
  refine q_iconst cx dX12_worstLink_9 ?_
  refine lv_istore_n (lv' := [(3, .int (q_i 0)), (2, .int (q_i (-1))), (1, .int (q_i (-1))), (0, .ref mo)]) cx.1 cx.2.1 dX12_worstLink_10 rfl hl (by decide) rfl (fun ls hl => ?_)
  exact J11 ((Int.toNat (2147483647 - 0)) + 1) f215 (-1) (by decide) (by decide) (-1) (by decide) (by decide) 0 (by decide) (by decide) z217 g218 (Nat.lt_succ_self _) H locs hB ls (lv_sub hl [3, 2, 1, 0] rfl)
set_option maxHeartbeats 4000000 in
set_option maxRecDepth 100000 in
theorem r_busiest (l : Launch) (g : q_G) {K : Nat → Nat} {L : List Nat} (hN : L.Nodup) {f : Nat → va_E} (hT : q_Ty g K L f) (mo : Nat) (hmo : mo ∈ L) (kmo : K mo = 12) (sr : Nat) (hsr : sr ∈ L) (ksr : K sr = 151) (hr0 : q_ir (q_r f mo 13) sr) (hgr : q_gr f sr) : q_Ct l g K L yX12_busiest cX12_busiest 3 (some .int) 6 135 [.ref mo] f [(12, 0, 0)] (q_Pi (fun (z : Int) (f1 : Nat → va_E) => 1 ≤ z ∧ z ≤ 60)) := by
  refine q_ofb (by decide +kernel) hN hT (Nat.le_of_ble_eq_true rfl) ?_
  intro p e s m below meth c ls cx hr hlk hB hl
  have hl : lv_has ls 3 [(0, .ref mo)] := hl
  have J9 : ∀ (n : Nat) (f9 : Nat → va_E) (v9_1 : Int) (lv9_1 : 1 ≤ v9_1) (uv9_1 : v9_1 ≤ 60) (v9_2 : Int) (lv9_2 : 2 ≤ v9_2) (uv9_2 : v9_2 ≤ 61) (hq_mo_13 : q_ir (q_r f9 mo 13) sr) (hgr9 : q_gr f9 sr) (hmu : (Int.toNat (2147483647 - v9_2)) < n) (H : Heap) (locs : List Loc) (hB : q_B g K L (fun q => q ∈ L) [(12, 0, 0)] f f9 s H locs) (ls : Array Slot) (hl : lv_has ls 3 [(0, .ref mo), (1, .int (q_i v9_1)), (2, .int (q_i v9_2))]), W p l e { frames := 6, cells := 0, slots := 0, locals := 135 } s m ([.ref mo] : List Value).toArray below meth c H locs 0 0 (MQ below (q_Q g K L [(12, 0, 0)] f (q_Pi (fun (z : Int) (f1 : Nat → va_E) => 1 ≤ z ∧ z ≤ 60))) ([.ref mo] : List Value).toArray s 0 0 (fun q => q ∈ L)) (F0 m 9 ls []) := by
    intro n
    induction n with
    | zero =>
      intro f9 v9_1 lv9_1 uv9_1 v9_2 lv9_2 uv9_2 hq_mo_13 hgr9 hmu
      exact absurd hmu (Nat.not_lt_zero _)
    | succ n ih9 =>
      intro f9 v9_1 lv9_1 uv9_1 v9_2 lv9_2 uv9_2 hq_mo_13 hgr9 hmu H locs hB ls hl
      refine q_ild_n cx dX12_busiest_9 rfl (lv_at hl 2 rfl) ?_
      refine q_ald_n cx dX12_busiest_10 rfl (lv_at hl 0 rfl) ?_
      refine q_gX12_20 cx hB hmo kmo hq_mo_13 dX12_busiest_11 (fun hb328 kb328 => ?_)
      refine q_iconst cx dX12_busiest_14 ?_
      obtain ⟨x329, ex329⟩ : ∃ zz, q_is (q_z f9 sr (Int.toNat 2)) zz := ⟨_, q_isr _⟩
      refine q_sald cx hB hsr ksr (by decide) (by decide) ex329 dX12_busiest_15 (fun rx329 => ?_)
      obtain ⟨lx329, ux329⟩ : 4 ≤ x329 ∧ x329 ≤ 60 := q_isb ex329 (q_gr_at hgr9 (by decide) rfl)
      refine q_icgt (tgt := 46) cx ⟨by omega, by omega⟩ ⟨by omega, by omega⟩ dX12_busiest_16 (by decide) (fun c331 => ?_) (fun c331 => ?_)
      · refine q_ild_n cx dX12_busiest_46 rfl (lv_at hl 1 rfl) ?_
        refine q_iret cx hr hlk hB dX12_busiest_47 ⟨by omega, by omega⟩ ?_
        exact ⟨(by omega), (by omega)⟩
      · refine q_ald_n cx dX12_busiest_19 rfl (lv_at hl 0 rfl) ?_
        refine q_ild_n cx dX12_busiest_20 rfl (lv_at hl 2 rfl) ?_
        refine q_cVi (As := [.int (q_i v9_2)]) (rest := []) cx hB (fun _ h => h) hN hmo kmo (by decide) rfl (r_awakeSet l g hN hB.2.1 mo hmo kmo v9_2 (by omega) (by omega) sr hsr ksr hq_mo_13 hgr9) q_cX12_286 q_dX12_awakeSet (by decide) rfl rfl hl.1 rfl (Nat.le_of_ble_eq_true rfl) dX12_busiest_21 (fun y333 H locs f332 ry333 h334 hF hB => ?_)
        obtain rfl := h334
        refine q_cSi (As := [.int (q_i y333)]) (rest := []) cx hB (fun _ h => h) hN (r_bits l g hN hB.2.1 y333 (by omega) (by omega)) q_cX12_399 q_dX12_bits (by decide) rfl rfl hl.1 rfl (Nat.le_of_ble_eq_true rfl) dX12_busiest_24 (fun y336 H locs f335 ry336 h337 hF hB => ?_)
        obtain rfl := h337
        refine q_ald_n cx dX12_busiest_27 rfl (lv_at hl 0 rfl) ?_
        refine q_ild_n cx dX12_busiest_28 rfl (lv_at hl 1 rfl) ?_
        refine q_cVi (As := [.int (q_i v9_1)]) (rest := [.int (q_i y336)]) cx hB (fun _ h => h) hN hmo kmo (by decide) rfl (r_awakeSet l g hN hB.2.1 mo hmo kmo v9_1 (by omega) (by omega) sr hsr ksr hq_mo_13 hgr9) q_cX12_286 q_dX12_awakeSet (by decide) rfl rfl hl.1 rfl (Nat.le_of_ble_eq_true rfl) dX12_busiest_29 (fun y339 H locs f338 ry339 h340 hF hB => ?_)
        obtain rfl := h340
        refine q_cSi (As := [.int (q_i y339)]) (rest := [.int (q_i y336)]) cx hB (fun _ h => h) hN (r_bits l g hN hB.2.1 y339 (by omega) (by omega)) q_cX12_399 q_dX12_bits (by decide) rfl rfl hl.1 rfl (Nat.le_of_ble_eq_true rfl) dX12_busiest_32 (fun y342 H locs f341 ry342 h343 hF hB => ?_)
        obtain rfl := h343
        refine q_icle (tgt := 40) cx ⟨by omega, by omega⟩ ⟨by omega, by omega⟩ dX12_busiest_35 (by decide) (fun c344 => ?_) (fun c344 => ?_)
        · refine q_iinc (lv' := [(2, .int (q_i (v9_2 + 1))), (0, .ref mo), (1, .int (q_i v9_1))]) cx dX12_busiest_40 hl (k := 2) rfl (by decide) rfl (fun ls hl => ?_)
          refine lv_goto (tgt := 9) cx.1 cx.2.1 dX12_busiest_43 (by decide) ?_
          exact ih9 f9 v9_1 (by omega) (by omega) (v9_2 + 1) (by omega) (by omega) hq_mo_13 hgr9 (by omega) H locs hB ls (lv_sub hl [1, 2, 0] rfl)
        · refine q_ild_n cx dX12_busiest_38 rfl (lv_at hl 2 rfl) ?_
          refine lv_istore_n (lv' := [(1, .int (q_i v9_2)), (0, .ref mo), (2, .int (q_i v9_2))]) cx.1 cx.2.1 dX12_busiest_39 rfl hl (by decide) rfl (fun ls hl => ?_)
          refine q_iinc (lv' := [(2, .int (q_i (v9_2 + 1))), (1, .int (q_i v9_2)), (0, .ref mo)]) cx dX12_busiest_40 hl (k := 2) rfl (by decide) rfl (fun ls hl => ?_)
          refine lv_goto (tgt := 9) cx.1 cx.2.1 dX12_busiest_43 (by decide) ?_
          exact ih9 f9 v9_2 (by omega) (by omega) (v9_2 + 1) (by omega) (by omega) hq_mo_13 hgr9 (by omega) H locs hB ls (lv_sub hl [2, 1, 0] rfl)
  obtain ⟨H, hH⟩ : ∃ H : Heap, H = s.heap := ⟨_, rfl⟩
  obtain ⟨locs, hlocs⟩ : ∃ z : List Loc, z = [] := ⟨_, rfl⟩
  rw [← hH, ← hlocs] at hB
  rw [← hH, ← hlocs]
  refine q_ald_n cx dX12_busiest_0 rfl (lv_at hl 0 rfl) ?_
  refine q_iconst cx dX12_busiest_1 ?_
  refine q_pX12_75 cx hB hmo kmo ⟨by decide, by decide⟩ (by decide) (by decide) rfl dX12_busiest_2 (fun H locs f345 ef345 z346 hB => ?_)
  have z347 : q_ir (q_r f345 mo 13) sr := by rw [ef345, q_setr (Or.inr (by decide))]; exact hr0
  have g348 : q_gr f345 sr := q_gr_ne hgr ef345 (fun q => q_kne (k := 151) (k2 := 12) (by decide) ksr kmo q)
  refine q_iconst cx dX12_busiest_5 ?_
  refine lv_istore_n (lv' := [(1, .int (q_i 1)), (0, .ref mo)]) cx.1 cx.2.1 dX12_busiest_6 rfl hl (by decide) rfl (fun ls hl => ?_)
  refine q_iconst cx dX12_busiest_7 ?_
  refine lv_istore_n (lv' := [(2, .int (q_i 2)), (1, .int (q_i 1)), (0, .ref mo)]) cx.1 cx.2.1 dX12_busiest_8 rfl hl (by decide) rfl (fun ls hl => ?_)
  exact J9 ((Int.toNat (2147483647 - 2)) + 1) f345 1 (by decide) (by decide) 2 (by decide) (by decide) z347 g348 (Nat.lt_succ_self _) H locs hB ls (lv_sub hl [2, 1, 0] rfl)
set_option maxHeartbeats 4000000 in
set_option maxRecDepth 100000 in
theorem r_hops (l : Launch) (g : q_G) {K : Nat → Nat} {L : List Nat} (hN : L.Nodup) {f : Nat → va_E} (hT : q_Ty g K L f) (mo : Nat) (hmo : mo ∈ L) (kmo : K mo = 12) (a0 : Int) (la0 : (-2147483648) ≤ a0) (ua0 : a0 ≤ 2147483647) (b0 : Int) (lb0 : (-2147483648) ≤ b0) (ub0 : b0 ≤ 2147483647) (sr : Nat) (hsr : sr ∈ L) (ksr : K sr = 151) (hp : Nat) (hhp : hp ∈ L) (khp : K hp = 159) (hr0 : q_ir (q_r f mo 13) sr) (hr1 : q_ir (q_r f mo 24) hp) (hgr : q_gr f sr) : q_Ct l g K L yX12_hops cX12_hops 3 (some .int) 6 132 [.ref mo, .int (q_i a0), .int (q_i b0)] f [(12, 0, 0), (159, 0, 9)] (q_Pi (fun (z : Int) (f1 : Nat → va_E) => (-1) ≤ z ∧ z ≤ 999)) := by
  refine q_ofb (by decide +kernel) hN hT (Nat.le_of_ble_eq_true rfl) ?_
  intro p e s m below meth c ls cx hr hlk hB hl
  have hl : lv_has ls 3 [(0, .ref mo), (1, .int (q_i a0)), (2, .int (q_i b0))] := hl
  obtain ⟨H, hH⟩ : ∃ H : Heap, H = s.heap := ⟨_, rfl⟩
  obtain ⟨locs, hlocs⟩ : ∃ z : List Loc, z = [] := ⟨_, rfl⟩
  rw [← hH, ← hlocs] at hB
  rw [← hH, ← hlocs]
  refine q_ald_n cx dX12_hops_0 rfl (lv_at hl 0 rfl) ?_
  refine q_ald_n cx dX12_hops_1 rfl (lv_at hl 0 rfl) ?_
  refine q_ild_n cx dX12_hops_2 rfl (lv_at hl 1 rfl) ?_
  refine q_cVi (As := [.int (q_i a0)]) (rest := [.ref mo]) cx hB (fun _ h => h) hN hmo kmo (by decide) rfl (r_isNode l g hN hB.2.1 mo hmo kmo a0 (by omega) (by omega) sr hsr ksr hr0) q_cX12_355 q_dX12_isNode (by decide) rfl rfl hl.1 rfl (Nat.le_of_ble_eq_true rfl) dX12_hops_3 (fun y51 H locs f50 ry51 h52 hF hB => ?_)
  rcases h52 with h53 | h54
  · obtain ⟨rfl, qy51, t55, t56⟩ := h53
    subst qy51
    refine q_ifeq (tgt := 21) cx ⟨by decide, by decide⟩ dX12_hops_6 (by decide) (fun c57 => ?_) (fun c57 => ?_)
    · exact absurd c57 (by omega)
    · refine q_ald_n cx dX12_hops_9 rfl (lv_at hl 0 rfl) ?_
      refine q_ild_n cx dX12_hops_10 rfl (lv_at hl 2 rfl) ?_
      refine q_cVi (As := [.int (q_i b0)]) (rest := [.ref mo]) cx hB (fun _ h => h) hN hmo kmo (by decide) rfl (r_isNode l g hN hB.2.1 mo hmo kmo b0 (by omega) (by omega) sr hsr ksr hr0) q_cX12_355 q_dX12_isNode (by decide) rfl rfl hl.1 rfl (Nat.le_of_ble_eq_true rfl) dX12_hops_11 (fun y59 H locs f58 ry59 h60 hF hB => ?_)
      rcases h60 with h61 | h62
      · obtain ⟨rfl, qy59, t63, t64⟩ := h61
        subst qy59
        refine q_ifeq (tgt := 21) cx ⟨by decide, by decide⟩ dX12_hops_14 (by decide) (fun c65 => ?_) (fun c65 => ?_)
        · exact absurd c65 (by omega)
        · refine q_iconst cx dX12_hops_17 ?_
          refine lv_goto (tgt := 22) cx.1 cx.2.1 dX12_hops_18 (by decide) ?_
          refine q_cVi (As := [.int (q_i 1)]) (rest := []) cx hB (fun _ h => h) hN hmo kmo (by decide) rfl (r_goes1 l g hN hB.2.1 mo hmo kmo 1 (by decide) (by decide)) q_cX12_85 q_dX12_goes (by decide) rfl rfl hl.1 rfl (Nat.le_of_ble_eq_true rfl) dX12_hops_22 (fun y67 H locs f66 ry67 h68 hF hB => ?_)
          obtain ⟨qy67, z69⟩ := h68
          have z70 : q_ir (q_r f66 mo 13) sr := Eq.trans (hF.r hmo (by rw [kmo]; rfl)) hr0
          have z71 : q_ir (q_r f66 mo 24) hp := Eq.trans (hF.r hmo (by rw [kmo]; rfl)) hr1
          have g72 : q_gr f66 sr := q_gr_fr hgr (fun i9 _ => hF.z hsr (by rw [ksr]; rfl))
          subst qy67
          refine q_ifeq (tgt := 37) cx ⟨by decide, by decide⟩ dX12_hops_25 (by decide) (fun c73 => ?_) (fun c73 => ?_)
          · exact absurd c73 (by omega)
          · refine q_ald_n cx dX12_hops_28 rfl (lv_at hl 0 rfl) ?_
            refine q_ild_n cx dX12_hops_29 rfl (lv_at hl 1 rfl) ?_
            refine q_ild_n cx dX12_hops_30 rfl (lv_at hl 2 rfl) ?_
            refine q_cVi (As := [.int (q_i a0), .int (q_i b0)]) (rest := []) cx hB (fun _ h => h) hN hmo kmo (by decide) rfl (r_hopsBetween l g hN hB.2.1 mo hmo kmo a0 (by omega) (by omega) b0 (by omega) (by omega) sr hsr ksr hp hhp khp z70 z71 g72) q_cX12_402 q_dX12_hopsBetween (by decide) rfl rfl hl.1 rfl (Nat.le_of_ble_eq_true rfl) dX12_hops_31 (fun y75 H locs f74 ry75 h76 hF hB => ?_)
            obtain ⟨ly75, uy75⟩ := h76
            have z77 : q_is (q_z f74 mo 0) 0 := Eq.trans (hF.z hmo (by rw [kmo]; rfl)) z69
            have z78 : q_ir (q_r f74 mo 13) sr := Eq.trans (hF.r hmo (by rw [kmo]; rfl)) z70
            have z79 : q_ir (q_r f74 mo 24) hp := Eq.trans (hF.r hmo (by rw [kmo]; rfl)) z71
            have g80 : q_gr f74 sr := q_gr_fr g72 (fun i9 _ => hF.z hsr (by rw [ksr]; rfl))
            refine lv_goto (tgt := 38) cx.1 cx.2.1 dX12_hops_34 (by decide) ?_
            refine q_iret cx hr hlk hB dX12_hops_38 ⟨by omega, by omega⟩ ?_
            exact ⟨(by omega), (by omega)⟩
      · obtain ⟨rfl, qy59⟩ := h62
        subst qy59
        refine q_ifeq (tgt := 21) cx ⟨by decide, by decide⟩ dX12_hops_14 (by decide) (fun c81 => ?_) (fun c81 => ?_)
        · refine q_iconst cx dX12_hops_21 ?_
          refine q_cVi (As := [.int (q_i 0)]) (rest := []) cx hB (fun _ h => h) hN hmo kmo (by decide) rfl (r_goes0 l g hN hB.2.1 mo hmo kmo 0 (by decide) (by decide)) q_cX12_85 q_dX12_goes (by decide) rfl rfl hl.1 rfl (Nat.le_of_ble_eq_true rfl) dX12_hops_22 (fun y83 H locs f82 ry83 h84 hF hB => ?_)
          obtain ⟨qy83, z85⟩ := h84
          have z86 : q_ir (q_r f82 mo 13) sr := Eq.trans (hF.r hmo (by rw [kmo]; rfl)) hr0
          have z87 : q_ir (q_r f82 mo 24) hp := Eq.trans (hF.r hmo (by rw [kmo]; rfl)) hr1
          have g88 : q_gr f82 sr := q_gr_fr hgr (fun i9 _ => hF.z hsr (by rw [ksr]; rfl))
          subst qy83
          refine q_ifeq (tgt := 37) cx ⟨by decide, by decide⟩ dX12_hops_25 (by decide) (fun c89 => ?_) (fun c89 => ?_)
          · refine q_iconst cx dX12_hops_37 ?_
            refine q_iret cx hr hlk hB dX12_hops_38 ⟨by decide, by decide⟩ ?_
            exact ⟨(by decide), (by decide)⟩
          · exact absurd c89 (by omega)
        · exact absurd c81 (by omega)
  · obtain ⟨rfl, qy51⟩ := h54
    subst qy51
    refine q_ifeq (tgt := 21) cx ⟨by decide, by decide⟩ dX12_hops_6 (by decide) (fun c90 => ?_) (fun c90 => ?_)
    · refine q_iconst cx dX12_hops_21 ?_
      refine q_cVi (As := [.int (q_i 0)]) (rest := []) cx hB (fun _ h => h) hN hmo kmo (by decide) rfl (r_goes0 l g hN hB.2.1 mo hmo kmo 0 (by decide) (by decide)) q_cX12_85 q_dX12_goes (by decide) rfl rfl hl.1 rfl (Nat.le_of_ble_eq_true rfl) dX12_hops_22 (fun y92 H locs f91 ry92 h93 hF hB => ?_)
      obtain ⟨qy92, z94⟩ := h93
      have z95 : q_ir (q_r f91 mo 13) sr := Eq.trans (hF.r hmo (by rw [kmo]; rfl)) hr0
      have z96 : q_ir (q_r f91 mo 24) hp := Eq.trans (hF.r hmo (by rw [kmo]; rfl)) hr1
      have g97 : q_gr f91 sr := q_gr_fr hgr (fun i9 _ => hF.z hsr (by rw [ksr]; rfl))
      subst qy92
      refine q_ifeq (tgt := 37) cx ⟨by decide, by decide⟩ dX12_hops_25 (by decide) (fun c98 => ?_) (fun c98 => ?_)
      · refine q_iconst cx dX12_hops_37 ?_
        refine q_iret cx hr hlk hB dX12_hops_38 ⟨by decide, by decide⟩ ?_
        exact ⟨(by decide), (by decide)⟩
      · exact absurd c98 (by omega)
    · exact absurd c90 (by omega)
