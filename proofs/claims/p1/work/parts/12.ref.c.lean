set_option maxHeartbeats 4000000 in
set_option maxRecDepth 100000 in
theorem r_isIn (l : Launch) (g : q_G) {K : Nat → Nat} {L : List Nat} (hN : L.Nodup) {f : Nat → va_E} (hT : q_Ty g K L f) (a1 : Int) (la1 : (-2147483648) ≤ a1) (ua1 : a1 ≤ 2147483647) (b1 : Int) (lb1 : (-2147483648) ≤ b1) (ub1 : b1 ≤ 2147483647) (c1 : Int) (lc1 : (-2147483648) ≤ c1) (uc1 : c1 ≤ 2147483647) : q_Ct l g K L yX12_isIn cX12_isIn 6 (some .boolean) 0 0 [.long (q_l a1), .long (q_l b1), .long (q_l c1)] f [] (q_Pi (fun (z : Int) (f1 : Nat → va_E) => f = f1 ∧ 0 ≤ z ∧ z ≤ 1 ∧ ((z = 1 ∧ b1 ≤ a1 ∧ a1 ≤ c1) ∨ (z = 0 ∧ (a1 < b1 ∨ c1 < a1))))) := by
  refine q_ofb (by decide +kernel) hN hT (Nat.le_of_ble_eq_true rfl) ?_
  intro p e s m below meth c ls cx hr hlk hB hl
  have hl : lv_has ls 6 [(0, .long (q_l a1)), (2, .long (q_l b1)), (4, .long (q_l c1))] := hl
  obtain ⟨H, hH⟩ : ∃ H : Heap, H = s.heap := ⟨_, rfl⟩
  obtain ⟨locs, hlocs⟩ : ∃ z : List Loc, z = [] := ⟨_, rfl⟩
  rw [← hH, ← hlocs] at hB
  rw [← hH, ← hlocs]
  refine q_lld_n cx dX12_isIn_0 rfl (lv_at hl 0 rfl) ?_
  refine q_lld_n cx dX12_isIn_1 rfl (lv_at hl 1 rfl) ?_
  refine q_lcmp cx dX12_isIn_2 (fun y5 ly5 uy5 ey5 gy5 hy5 => ?_)
  rw [q_lInt ⟨by omega, by omega⟩, q_lInt ⟨by omega, by omega⟩] at ey5 hy5
  refine q_iflt (tgt := 17) cx ⟨by omega, by omega⟩ dX12_isIn_3 (by decide) (fun c6 => ?_) (fun c6 => ?_)
  · refine q_iconst cx dX12_isIn_17 ?_
    refine q_zret cx hr hlk hB dX12_isIn_18 (by decide) (by decide) ?_
    exact ⟨rfl, (by decide), (by decide), (by omega)⟩
  · refine q_lld_n cx dX12_isIn_6 rfl (lv_at hl 0 rfl) ?_
    refine lv_lload cx.1 cx.2.1 dX12_isIn_7 (lv_at hl 2 rfl) ?_
    refine q_lcmp cx dX12_isIn_9 (fun y7 ly7 uy7 ey7 gy7 hy7 => ?_)
    rw [q_lInt ⟨by omega, by omega⟩, q_lInt ⟨by omega, by omega⟩] at ey7 hy7
    refine q_ifgt (tgt := 17) cx ⟨by omega, by omega⟩ dX12_isIn_10 (by decide) (fun c8 => ?_) (fun c8 => ?_)
    · refine q_iconst cx dX12_isIn_17 ?_
      refine q_zret cx hr hlk hB dX12_isIn_18 (by decide) (by decide) ?_
      exact ⟨rfl, (by decide), (by decide), (by omega)⟩
    · refine q_iconst cx dX12_isIn_13 ?_
      refine lv_goto (tgt := 18) cx.1 cx.2.1 dX12_isIn_14 (by decide) ?_
      refine q_zret cx hr hlk hB dX12_isIn_18 (by decide) (by decide) ?_
      exact ⟨rfl, (by decide), (by decide), (by omega)⟩
set_option maxHeartbeats 4000000 in
set_option maxRecDepth 100000 in
theorem r_truth0 (l : Launch) (g : q_G) {K : Nat → Nat} {L : List Nat} (hN : L.Nodup) {f : Nat → va_E} (hT : q_Ty g K L f) (a0 : Int) (la0 : 0 ≤ a0) (ua0 : a0 ≤ 0) : q_Ct l g K L yX12_truth cX12_truth 1 (some .int) 0 0 [.int (q_i a0)] f [] (q_Pi (fun (z : Int) (f1 : Nat → va_E) => f = f1 ∧ z = 0)) := by
  obtain rfl : a0 = 0 := by omega
  refine q_ofb (by decide +kernel) hN hT (Nat.le_of_ble_eq_true rfl) ?_
  intro p e s m below meth c ls cx hr hlk hB hl
  have hl : lv_has ls 1 [(0, .int (q_i 0))] := hl
  obtain ⟨H, hH⟩ : ∃ H : Heap, H = s.heap := ⟨_, rfl⟩
  obtain ⟨locs, hlocs⟩ : ∃ z : List Loc, z = [] := ⟨_, rfl⟩
  rw [← hH, ← hlocs] at hB
  rw [← hH, ← hlocs]
  refine q_ild_n cx dX12_truth_0 rfl (lv_at hl 0 rfl) ?_
  refine q_ifeq (tgt := 8) cx ⟨by decide, by decide⟩ dX12_truth_1 (by decide) (fun c2 => ?_) (fun c2 => ?_)
  · refine q_iconst cx dX12_truth_8 ?_
    refine q_iret cx hr hlk hB dX12_truth_9 ⟨by decide, by decide⟩ ?_
    exact ⟨rfl, rfl⟩
  · exact absurd c2 (by omega)
set_option maxHeartbeats 4000000 in
set_option maxRecDepth 100000 in
theorem r_truth1 (l : Launch) (g : q_G) {K : Nat → Nat} {L : List Nat} (hN : L.Nodup) {f : Nat → va_E} (hT : q_Ty g K L f) (a0 : Int) (la0 : 1 ≤ a0) (ua0 : a0 ≤ 1) : q_Ct l g K L yX12_truth cX12_truth 1 (some .int) 0 0 [.int (q_i a0)] f [] (q_Pi (fun (z : Int) (f1 : Nat → va_E) => f = f1 ∧ z = 1)) := by
  obtain rfl : a0 = 1 := by omega
  refine q_ofb (by decide +kernel) hN hT (Nat.le_of_ble_eq_true rfl) ?_
  intro p e s m below meth c ls cx hr hlk hB hl
  have hl : lv_has ls 1 [(0, .int (q_i 1))] := hl
  obtain ⟨H, hH⟩ : ∃ H : Heap, H = s.heap := ⟨_, rfl⟩
  obtain ⟨locs, hlocs⟩ : ∃ z : List Loc, z = [] := ⟨_, rfl⟩
  rw [← hH, ← hlocs] at hB
  rw [← hH, ← hlocs]
  refine q_ild_n cx dX12_truth_0 rfl (lv_at hl 0 rfl) ?_
  refine q_ifeq (tgt := 8) cx ⟨by decide, by decide⟩ dX12_truth_1 (by decide) (fun c2 => ?_) (fun c2 => ?_)
  · exact absurd c2 (by omega)
  · refine q_iconst cx dX12_truth_4 ?_
    refine lv_goto (tgt := 9) cx.1 cx.2.1 dX12_truth_5 (by decide) ?_
    refine q_iret cx hr hlk hB dX12_truth_9 ⟨by decide, by decide⟩ ?_
    exact ⟨rfl, rfl⟩
set_option maxHeartbeats 4000000 in
set_option maxRecDepth 100000 in
theorem r_goes0 (l : Launch) (g : q_G) {K : Nat → Nat} {L : List Nat} (hN : L.Nodup) {f : Nat → va_E} (hT : q_Ty g K L f) (mo : Nat) (hmo : mo ∈ L) (kmo : K mo = 12) (a0 : Int) (la0 : 0 ≤ a0) (ua0 : a0 ≤ 0) : q_Ct l g K L yX12_goes cX12_goes 2 (some .boolean) 1 20 [.ref mo, .int (q_i a0)] f [(12, 0, 0)] (q_Pi (fun (z : Int) (f1 : Nat → va_E) => z = 0 ∧ q_z f1 mo 0 = 1)) := by
  obtain rfl : a0 = 0 := by omega
  refine q_ofb (by decide +kernel) hN hT (Nat.le_of_ble_eq_true rfl) ?_
  intro p e s m below meth c ls cx hr hlk hB hl
  have hl : lv_has ls 2 [(0, .ref mo), (1, .int (q_i 0))] := hl
  obtain ⟨H, hH⟩ : ∃ H : Heap, H = s.heap := ⟨_, rfl⟩
  obtain ⟨locs, hlocs⟩ : ∃ z : List Loc, z = [] := ⟨_, rfl⟩
  rw [← hH, ← hlocs] at hB
  rw [← hH, ← hlocs]
  refine q_ald_n cx dX12_goes_0 rfl (lv_at hl 0 rfl) ?_
  refine q_ild_n cx dX12_goes_1 rfl (lv_at hl 1 rfl) ?_
  refine q_ifne (tgt := 9) cx ⟨by decide, by decide⟩ dX12_goes_2 (by decide) (fun c7 => ?_) (fun c7 => ?_)
  · exact absurd c7 (by omega)
  · refine q_iconst cx dX12_goes_5 ?_
    refine lv_goto (tgt := 10) cx.1 cx.2.1 dX12_goes_6 (by decide) ?_
    refine q_cSi (As := [.int (q_i 1)]) (rest := [.ref mo]) cx hB (fun _ h => h) hN (r_truth1 l g hN hB.2.1 1 (by decide) (by decide)) q_cX12_78 q_dX12_truth (by decide) rfl rfl hl.1 rfl (Nat.le_of_ble_eq_true rfl) dX12_goes_10 (fun y9 H locs f8 ry9 h10 hF hB => ?_)
    obtain ⟨rfl, qy9⟩ := h10
    subst qy9
    refine q_pX12_75 cx hB hmo kmo ⟨by decide, by decide⟩ (by decide) (by decide) rfl dX12_goes_13 (fun H locs f11 ef11 z12 hB => ?_)
    refine q_ild_n cx dX12_goes_16 rfl (lv_at hl 1 rfl) ?_
    refine q_zret cx hr hlk hB dX12_goes_17 (by decide) (by decide) ?_
    exact ⟨rfl, z12⟩
set_option maxHeartbeats 4000000 in
set_option maxRecDepth 100000 in
theorem r_goes1 (l : Launch) (g : q_G) {K : Nat → Nat} {L : List Nat} (hN : L.Nodup) {f : Nat → va_E} (hT : q_Ty g K L f) (mo : Nat) (hmo : mo ∈ L) (kmo : K mo = 12) (a0 : Int) (la0 : 1 ≤ a0) (ua0 : a0 ≤ 1) : q_Ct l g K L yX12_goes cX12_goes 2 (some .boolean) 1 20 [.ref mo, .int (q_i a0)] f [(12, 0, 0)] (q_Pi (fun (z : Int) (f1 : Nat → va_E) => z = 1 ∧ q_z f1 mo 0 = 0)) := by
  obtain rfl : a0 = 1 := by omega
  refine q_ofb (by decide +kernel) hN hT (Nat.le_of_ble_eq_true rfl) ?_
  intro p e s m below meth c ls cx hr hlk hB hl
  have hl : lv_has ls 2 [(0, .ref mo), (1, .int (q_i 1))] := hl
  obtain ⟨H, hH⟩ : ∃ H : Heap, H = s.heap := ⟨_, rfl⟩
  obtain ⟨locs, hlocs⟩ : ∃ z : List Loc, z = [] := ⟨_, rfl⟩
  rw [← hH, ← hlocs] at hB
  rw [← hH, ← hlocs]
  refine q_ald_n cx dX12_goes_0 rfl (lv_at hl 0 rfl) ?_
  refine q_ild_n cx dX12_goes_1 rfl (lv_at hl 1 rfl) ?_
  refine q_ifne (tgt := 9) cx ⟨by decide, by decide⟩ dX12_goes_2 (by decide) (fun c7 => ?_) (fun c7 => ?_)
  · refine q_iconst cx dX12_goes_9 ?_
    refine q_cSi (As := [.int (q_i 0)]) (rest := [.ref mo]) cx hB (fun _ h => h) hN (r_truth0 l g hN hB.2.1 0 (by decide) (by decide)) q_cX12_78 q_dX12_truth (by decide) rfl rfl hl.1 rfl (Nat.le_of_ble_eq_true rfl) dX12_goes_10 (fun y9 H locs f8 ry9 h10 hF hB => ?_)
    obtain ⟨rfl, qy9⟩ := h10
    subst qy9
    refine q_pX12_75 cx hB hmo kmo ⟨by decide, by decide⟩ (by decide) (by decide) rfl dX12_goes_13 (fun H locs f11 ef11 z12 hB => ?_)
    refine q_ild_n cx dX12_goes_16 rfl (lv_at hl 1 rfl) ?_
    refine q_zret cx hr hlk hB dX12_goes_17 (by decide) (by decide) ?_
    exact ⟨rfl, z12⟩
  · exact absurd c7 (by omega)
set_option maxHeartbeats 4000000 in
set_option maxRecDepth 100000 in
theorem r_goesBoth0 (l : Launch) (g : q_G) {K : Nat → Nat} {L : List Nat} (hN : L.Nodup) {f : Nat → va_E} (hT : q_Ty g K L f) (mo : Nat) (hmo : mo ∈ L) (kmo : K mo = 12) (a0 : Int) (la0 : 0 ≤ a0) (ua0 : a0 ≤ 0) (b0 : Int) (lb0 : 0 ≤ b0) (ub0 : b0 ≤ 1) : q_Ct l g K L yX12_goesBoth cX12_goesBoth 3 (some .boolean) 0 0 [.ref mo, .int (q_i a0), .int (q_i b0)] f [(12, 0, 0)] (q_Pi (fun (z : Int) (f1 : Nat → va_E) => z = 0 ∧ q_z f1 mo 0 = 1)) := by
  obtain rfl : a0 = 0 := by omega
  refine q_ofb (by decide +kernel) hN hT (Nat.le_of_ble_eq_true rfl) ?_
  intro p e s m below meth c ls cx hr hlk hB hl
  have hl : lv_has ls 3 [(0, .ref mo), (1, .int (q_i 0)), (2, .int (q_i b0))] := hl
  obtain ⟨H, hH⟩ : ∃ H : Heap, H = s.heap := ⟨_, rfl⟩
  obtain ⟨locs, hlocs⟩ : ∃ z : List Loc, z = [] := ⟨_, rfl⟩
  rw [← hH, ← hlocs] at hB
  rw [← hH, ← hlocs]
  refine q_ald_n cx dX12_goesBoth_0 rfl (lv_at hl 0 rfl) ?_
  refine q_ild_n cx dX12_goesBoth_1 rfl (lv_at hl 1 rfl) ?_
  refine q_ifne (tgt := 9) cx ⟨by decide, by decide⟩ dX12_goesBoth_2 (by decide) (fun c6 => ?_) (fun c6 => ?_)
  · exact absurd c6 (by omega)
  · refine q_iconst cx dX12_goesBoth_5 ?_
    refine lv_goto (tgt := 18) cx.1 cx.2.1 dX12_goesBoth_6 (by decide) ?_
    refine q_pX12_75 cx hB hmo kmo ⟨by decide, by decide⟩ (by decide) (by decide) rfl dX12_goesBoth_18 (fun H locs f7 ef7 z8 hB => ?_)
    refine q_ald_n cx dX12_goesBoth_21 rfl (lv_at hl 0 rfl) ?_
    refine q_gX12_75 cx hB hmo kmo z8 dX12_goesBoth_22 (fun lb9 ub9 => ?_)
    refine q_ifne (tgt := 32) cx ⟨by decide, by decide⟩ dX12_goesBoth_25 (by decide) (fun c10 => ?_) (fun c10 => ?_)
    · refine q_iconst cx dX12_goesBoth_32 ?_
      refine q_zret cx hr hlk hB dX12_goesBoth_33 (by decide) (by decide) ?_
      exact ⟨rfl, z8⟩
    · exact absurd c10 (by omega)
set_option maxHeartbeats 4000000 in
set_option maxRecDepth 100000 in
theorem r_goesBoth1 (l : Launch) (g : q_G) {K : Nat → Nat} {L : List Nat} (hN : L.Nodup) {f : Nat → va_E} (hT : q_Ty g K L f) (mo : Nat) (hmo : mo ∈ L) (kmo : K mo = 12) (a0 : Int) (la0 : 1 ≤ a0) (ua0 : a0 ≤ 1) (b0 : Int) (lb0 : 0 ≤ b0) (ub0 : b0 ≤ 0) : q_Ct l g K L yX12_goesBoth cX12_goesBoth 3 (some .boolean) 0 0 [.ref mo, .int (q_i a0), .int (q_i b0)] f [(12, 0, 0)] (q_Pi (fun (z : Int) (f1 : Nat → va_E) => z = 0 ∧ q_z f1 mo 0 = 2)) := by
  obtain rfl : a0 = 1 := by omega
  obtain rfl : b0 = 0 := by omega
  refine q_ofb (by decide +kernel) hN hT (Nat.le_of_ble_eq_true rfl) ?_
  intro p e s m below meth c ls cx hr hlk hB hl
  have hl : lv_has ls 3 [(0, .ref mo), (1, .int (q_i 1)), (2, .int (q_i 0))] := hl
  obtain ⟨H, hH⟩ : ∃ H : Heap, H = s.heap := ⟨_, rfl⟩
  obtain ⟨locs, hlocs⟩ : ∃ z : List Loc, z = [] := ⟨_, rfl⟩
  rw [← hH, ← hlocs] at hB
  rw [← hH, ← hlocs]
  refine q_ald_n cx dX12_goesBoth_0 rfl (lv_at hl 0 rfl) ?_
  refine q_ild_n cx dX12_goesBoth_1 rfl (lv_at hl 1 rfl) ?_
  refine q_ifne (tgt := 9) cx ⟨by decide, by decide⟩ dX12_goesBoth_2 (by decide) (fun c7 => ?_) (fun c7 => ?_)
  · refine q_ild_n cx dX12_goesBoth_9 rfl (lv_at hl 2 rfl) ?_
    refine q_ifne (tgt := 17) cx ⟨by decide, by decide⟩ dX12_goesBoth_10 (by decide) (fun c8 => ?_) (fun c8 => ?_)
    · exact absurd c8 (by omega)
    · refine q_iconst cx dX12_goesBoth_13 ?_
      refine lv_goto (tgt := 18) cx.1 cx.2.1 dX12_goesBoth_14 (by decide) ?_
      refine q_pX12_75 cx hB hmo kmo ⟨by decide, by decide⟩ (by decide) (by decide) rfl dX12_goesBoth_18 (fun H locs f9 ef9 z10 hB => ?_)
      refine q_ald_n cx dX12_goesBoth_21 rfl (lv_at hl 0 rfl) ?_
      refine q_gX12_75 cx hB hmo kmo z10 dX12_goesBoth_22 (fun lb11 ub11 => ?_)
      refine q_ifne (tgt := 32) cx ⟨by decide, by decide⟩ dX12_goesBoth_25 (by decide) (fun c12 => ?_) (fun c12 => ?_)
      · refine q_iconst cx dX12_goesBoth_32 ?_
        refine q_zret cx hr hlk hB dX12_goesBoth_33 (by decide) (by decide) ?_
        exact ⟨rfl, z10⟩
      · exact absurd c12 (by omega)
  · exact absurd c7 (by omega)
set_option maxHeartbeats 4000000 in
set_option maxRecDepth 100000 in
theorem r_goesBoth2 (l : Launch) (g : q_G) {K : Nat → Nat} {L : List Nat} (hN : L.Nodup) {f : Nat → va_E} (hT : q_Ty g K L f) (mo : Nat) (hmo : mo ∈ L) (kmo : K mo = 12) (a0 : Int) (la0 : 1 ≤ a0) (ua0 : a0 ≤ 1) (b0 : Int) (lb0 : 1 ≤ b0) (ub0 : b0 ≤ 1) : q_Ct l g K L yX12_goesBoth cX12_goesBoth 3 (some .boolean) 0 0 [.ref mo, .int (q_i a0), .int (q_i b0)] f [(12, 0, 0)] (q_Pi (fun (z : Int) (f1 : Nat → va_E) => z = 1 ∧ q_z f1 mo 0 = 0)) := by
  obtain rfl : a0 = 1 := by omega
  obtain rfl : b0 = 1 := by omega
  refine q_ofb (by decide +kernel) hN hT (Nat.le_of_ble_eq_true rfl) ?_
  intro p e s m below meth c ls cx hr hlk hB hl
  have hl : lv_has ls 3 [(0, .ref mo), (1, .int (q_i 1)), (2, .int (q_i 1))] := hl
  obtain ⟨H, hH⟩ : ∃ H : Heap, H = s.heap := ⟨_, rfl⟩
  obtain ⟨locs, hlocs⟩ : ∃ z : List Loc, z = [] := ⟨_, rfl⟩
  rw [← hH, ← hlocs] at hB
  rw [← hH, ← hlocs]
  refine q_ald_n cx dX12_goesBoth_0 rfl (lv_at hl 0 rfl) ?_
  refine q_ild_n cx dX12_goesBoth_1 rfl (lv_at hl 1 rfl) ?_
  refine q_ifne (tgt := 9) cx ⟨by decide, by decide⟩ dX12_goesBoth_2 (by decide) (fun c7 => ?_) (fun c7 => ?_)
  · refine q_ild_n cx dX12_goesBoth_9 rfl (lv_at hl 2 rfl) ?_
    refine q_ifne (tgt := 17) cx ⟨by decide, by decide⟩ dX12_goesBoth_10 (by decide) (fun c8 => ?_) (fun c8 => ?_)
    · refine q_iconst cx dX12_goesBoth_17 ?_
      refine q_pX12_75 cx hB hmo kmo ⟨by decide, by decide⟩ (by decide) (by decide) rfl dX12_goesBoth_18 (fun H locs f9 ef9 z10 hB => ?_)
      refine q_ald_n cx dX12_goesBoth_21 rfl (lv_at hl 0 rfl) ?_
      refine q_gX12_75 cx hB hmo kmo z10 dX12_goesBoth_22 (fun lb11 ub11 => ?_)
      refine q_ifne (tgt := 32) cx ⟨by decide, by decide⟩ dX12_goesBoth_25 (by decide) (fun c12 => ?_) (fun c12 => ?_)
      · exact absurd c12 (by omega)
      · refine q_iconst cx dX12_goesBoth_28 ?_
        refine lv_goto (tgt := 33) cx.1 cx.2.1 dX12_goesBoth_29 (by decide) ?_
        refine q_zret cx hr hlk hB dX12_goesBoth_33 (by decide) (by decide) ?_
        exact ⟨rfl, z10⟩
    · exact absurd c8 (by omega)
  · exact absurd c7 (by omega)
set_option maxHeartbeats 4000000 in
set_option maxRecDepth 100000 in
theorem r_goesAll0 (l : Launch) (g : q_G) {K : Nat → Nat} {L : List Nat} (hN : L.Nodup) {f : Nat → va_E} (hT : q_Ty g K L f) (mo : Nat) (hmo : mo ∈ L) (kmo : K mo = 12) (a0 : Int) (la0 : 0 ≤ a0) (ua0 : a0 ≤ 0) (b0 : Int) (lb0 : 0 ≤ b0) (ub0 : b0 ≤ 1) (c0 : Int) (lc0 : 0 ≤ c0) (uc0 : c0 ≤ 1) : q_Ct l g K L yX12_goesAll cX12_goesAll 4 (some .boolean) 1 22 [.ref mo, .int (q_i a0), .int (q_i b0), .int (q_i c0)] f [(12, 0, 0)] (q_Pi (fun (z : Int) (f1 : Nat → va_E) => z = 0 ∧ q_z f1 mo 0 = 1)) := by
  obtain rfl : a0 = 0 := by omega
  refine q_ofb (by decide +kernel) hN hT (Nat.le_of_ble_eq_true rfl) ?_
  intro p e s m below meth c ls cx hr hlk hB hl
  have hl : lv_has ls 4 [(0, .ref mo), (1, .int (q_i 0)), (2, .int (q_i b0)), (3, .int (q_i c0))] := hl
  obtain ⟨H, hH⟩ : ∃ H : Heap, H = s.heap := ⟨_, rfl⟩
  obtain ⟨locs, hlocs⟩ : ∃ z : List Loc, z = [] := ⟨_, rfl⟩
  rw [← hH, ← hlocs] at hB
  rw [← hH, ← hlocs]
  refine q_ald_n cx dX12_goesAll_0 rfl (lv_at hl 0 rfl) ?_
  refine q_ild_n cx dX12_goesAll_1 rfl (lv_at hl 1 rfl) ?_
  refine q_ild_n cx dX12_goesAll_2 rfl (lv_at hl 2 rfl) ?_
  refine q_cVi (As := [.int (q_i 0), .int (q_i b0)]) (rest := []) cx hB (fun _ h => h) hN hmo kmo (by decide) rfl (r_goesBoth0 l g hN hB.2.1 mo hmo kmo 0 (by decide) (by decide) b0 (by omega) (by omega)) q_cX12_358 q_dX12_goesBoth (by decide) rfl rfl hl.1 rfl (Nat.le_of_ble_eq_true rfl) dX12_goesAll_3 (fun y9 H locs f8 ry9 h10 hF hB => ?_)
  obtain ⟨qy9, z11⟩ := h10
  subst qy9
  refine q_ifeq (tgt := 18) cx ⟨by decide, by decide⟩ dX12_goesAll_6 (by decide) (fun c12 => ?_) (fun c12 => ?_)
  · refine q_ald_n cx dX12_goesAll_18 rfl (lv_at hl 0 rfl) ?_
    refine q_gX12_75 cx hB hmo kmo z11 dX12_goesAll_19 (fun lb13 ub13 => ?_)
    refine q_ifne (tgt := 29) cx ⟨by decide, by decide⟩ dX12_goesAll_22 (by decide) (fun c14 => ?_) (fun c14 => ?_)
    · refine q_iconst cx dX12_goesAll_29 ?_
      refine q_zret cx hr hlk hB dX12_goesAll_30 (by decide) (by decide) ?_
      exact ⟨rfl, z11⟩
    · exact absurd c14 (by omega)
  · exact absurd c12 (by omega)
set_option maxHeartbeats 4000000 in
set_option maxRecDepth 100000 in
theorem r_thrown (l : Launch) (g : q_G) {K : Nat → Nat} {L : List Nat} (hN : L.Nodup) {f : Nat → va_E} (hT : q_Ty g K L f) (mo : Nat) (hmo : mo ∈ L) (kmo : K mo = 12) (k : Int) (lk : 0 ≤ k) (uk : k ≤ 3) (hf0 : q_z f mo 0 = k) : q_Ct l g K L yX12_thrown cX12_thrown 1 (some .int) 0 0 [.ref mo] f [] (q_Pi (fun (z : Int) (f1 : Nat → va_E) => f = f1 ∧ z = k)) := by
  refine q_ofb (by decide +kernel) hN hT (Nat.le_of_ble_eq_true rfl) ?_
  intro p e s m below meth c ls cx hr hlk hB hl
  have hl : lv_has ls 1 [(0, .ref mo)] := hl
  obtain ⟨H, hH⟩ : ∃ H : Heap, H = s.heap := ⟨_, rfl⟩
  obtain ⟨locs, hlocs⟩ : ∃ z : List Loc, z = [] := ⟨_, rfl⟩
  rw [← hH, ← hlocs] at hB
  rw [← hH, ← hlocs]
  refine q_ald_n cx dX12_thrown_0 rfl (lv_at hl 0 rfl) ?_
  refine q_gX12_75 cx hB hmo kmo hf0 dX12_thrown_1 (fun lb2 ub2 => ?_)
  refine q_iret cx hr hlk hB dX12_thrown_4 ⟨by omega, by omega⟩ ?_
  exact ⟨rfl, rfl⟩
set_option maxHeartbeats 4000000 in
set_option maxRecDepth 100000 in
theorem r_four (l : Launch) (g : q_G) {K : Nat → Nat} {L : List Nat} (hN : L.Nodup) {f : Nat → va_E} (hT : q_Ty g K L f) (mo : Nat) (hmo : mo ∈ L) (kmo : K mo = 12) (v0 : Int) (lv0 : (-2147483648) ≤ v0) (uv0 : v0 ≤ 2147483647) (bu : Nat) (hbu : bu ∈ L) (kbu : K bu = 150) (n : Int) (ln : 0 ≤ n) (un : n ≤ 596) (hf0 : q_z f mo 2 = n) (hr0 : q_r f mo 1 = bu) : q_Ct l g K L yX12_four cX12_four 3 none 0 0 [.ref mo, .int (q_i v0)] f [(12, 2, 2), (150, 0, 599)] (q_Pv (fun (f1 : Nat → va_E) => q_z f1 mo 2 = (n + 4))) := by
  refine q_ofb (by decide +kernel) hN hT (Nat.le_of_ble_eq_true rfl) ?_
  intro p e s m below meth c ls cx hr hlk hB hl
  have hl : lv_has ls 3 [(0, .ref mo), (1, .int (q_i v0))] := hl
  obtain ⟨H, hH⟩ : ∃ H : Heap, H = s.heap := ⟨_, rfl⟩
  obtain ⟨locs, hlocs⟩ : ∃ z : List Loc, z = [] := ⟨_, rfl⟩
  rw [← hH, ← hlocs] at hB
  rw [← hH, ← hlocs]
  refine q_bipush cx dX12_four_0 rfl ?_
  refine lv_istore_n (lv' := [(2, .int (q_i 24)), (0, .ref mo), (1, .int (q_i v0))]) cx.1 cx.2.1 dX12_four_2 rfl hl (by decide) rfl (fun ls hl => ?_)
  refine q_ild_n cx dX12_four_3 rfl (lv_at hl 0 rfl) ?_
  refine q_iflt (tgt := 39) cx ⟨by decide, by decide⟩ dX12_four_4 (by decide) (fun c54 => ?_) (fun c54 => ?_)
  · exact absurd c54 (by omega)
  · refine q_ald_n cx dX12_four_7 rfl (lv_at hl 1 rfl) ?_
    refine q_gX12_7 cx hB hmo kmo hr0 dX12_four_8 (fun hb55 kb55 => ?_)
    refine q_ald_n cx dX12_four_11 rfl (lv_at hl 1 rfl) ?_
    refine q_gX12_82 cx hB hmo kmo hf0 dX12_four_12 (fun lb56 ub56 => ?_)
    refine q_ild_n cx dX12_four_15 rfl (lv_at hl 2 rfl) ?_
    refine q_ild_n cx dX12_four_16 rfl (lv_at hl 0 rfl) ?_
    refine q_ishr cx dX12_four_17 (fun y57 ry57 ey57 => ?_)
    refine q_sipush cx dX12_four_18 rfl ?_
    refine q_iandm cx 8 (by decide) rfl dX12_four_21 (fun y58 ly58 uy58 ey58 => ?_)
    refine q_iast (lo := 0) (hi := 255) (n := 600) cx hB hbu kbu (by decide) rfl rfl (by omega) (by omega) (by decide) rfl ⟨by omega, by omega⟩ (by omega) (by omega) (q_inWi (lo := 0) (hi := 596) (by decide) (by omega) (by omega)) dX12_four_22 (fun H locs f59 ef59 z60 hB => ?_)
    have z61 : q_z f59 mo 2 = n := by rw [ef59, q_setz (Or.inl (fun q => by rw [q, kbu] at kmo; exact absurd kmo (by decide)))]; exact hf0
    have z62 : q_r f59 mo 1 = bu := by rw [ef59, q_setr (Or.inl (fun q => by rw [q, kbu] at kmo; exact absurd kmo (by decide)))]; exact hr0
    refine q_ald_n cx dX12_four_23 rfl (lv_at hl 1 rfl) ?_
    refine lv_dup cx.1 cx.2.1 dX12_four_24 rfl ?_
    refine q_gX12_82 cx hB hmo kmo z61 dX12_four_25 (fun lb63 ub63 => ?_)
    refine q_iconst cx dX12_four_28 ?_
    refine q_iadd cx dX12_four_29 ?_
    refine q_pX12_82 cx hB hmo kmo ⟨by omega, by omega⟩ (by omega) (by omega) rfl dX12_four_30 (fun H locs f64 ef64 z65 hB => ?_)
    have z66 : q_r f64 mo 1 = bu := by rw [ef64, q_setr (Or.inr (by decide))]; exact z62
    refine q_iinc (lv' := [(2, .int (q_i (24 + (-8)))), (0, .ref mo), (1, .int (q_i v0))]) cx dX12_four_33 hl (k := 0) rfl (by decide) rfl (fun ls hl => ?_)
    refine lv_goto (tgt := 3) cx.1 cx.2.1 dX12_four_36 (by decide) ?_
    refine q_ild_n cx dX12_four_3 rfl (lv_at hl 0 rfl) ?_
    refine q_iflt (tgt := 39) cx ⟨by decide, by decide⟩ dX12_four_4 (by decide) (fun c67 => ?_) (fun c67 => ?_)
    · exact absurd c67 (by omega)
    · refine q_ald_n cx dX12_four_7 rfl (lv_at hl 1 rfl) ?_
      refine q_gX12_7 cx hB hmo kmo z66 dX12_four_8 (fun hb68 kb68 => ?_)
      refine q_ald_n cx dX12_four_11 rfl (lv_at hl 1 rfl) ?_
      refine q_gX12_82 cx hB hmo kmo z65 dX12_four_12 (fun lb69 ub69 => ?_)
      refine q_ild_n cx dX12_four_15 rfl (lv_at hl 2 rfl) ?_
      refine q_ild_n cx dX12_four_16 rfl (lv_at hl 0 rfl) ?_
      refine q_ishr cx dX12_four_17 (fun y70 ry70 ey70 => ?_)
      refine q_sipush cx dX12_four_18 rfl ?_
      refine q_iandm cx 8 (by decide) rfl dX12_four_21 (fun y71 ly71 uy71 ey71 => ?_)
      refine q_iast (lo := 0) (hi := 255) (n := 600) cx hB hbu kbu (by decide) rfl rfl (by omega) (by omega) (by decide) rfl ⟨by omega, by omega⟩ (by omega) (by omega) (q_inWi (lo := 1) (hi := 597) (by decide) (by omega) (by omega)) dX12_four_22 (fun H locs f72 ef72 z73 hB => ?_)
      have z74 : q_z f72 mo 2 = (n + 1) := by rw [ef72, q_setz (Or.inl (fun q => by rw [q, kbu] at kmo; exact absurd kmo (by decide)))]; exact z65
      have z75 : q_r f72 mo 1 = bu := by rw [ef72, q_setr (Or.inl (fun q => by rw [q, kbu] at kmo; exact absurd kmo (by decide)))]; exact z66
      refine q_ald_n cx dX12_four_23 rfl (lv_at hl 1 rfl) ?_
      refine lv_dup cx.1 cx.2.1 dX12_four_24 rfl ?_
      refine q_gX12_82 cx hB hmo kmo z74 dX12_four_25 (fun lb76 ub76 => ?_)
      refine q_iconst cx dX12_four_28 ?_
      refine q_iadd cx dX12_four_29 ?_
      refine q_pX12_82 cx hB hmo kmo ⟨by omega, by omega⟩ (by omega) (by omega) rfl dX12_four_30 (fun H locs f77 ef77 z78 hB => ?_)
      have z79 : q_r f77 mo 1 = bu := by rw [ef77, q_setr (Or.inr (by decide))]; exact z75
      refine q_iinc (lv' := [(2, .int (q_i ((24 + (-8)) + (-8)))), (0, .ref mo), (1, .int (q_i v0))]) cx dX12_four_33 hl (k := 0) rfl (by decide) rfl (fun ls hl => ?_)
      refine lv_goto (tgt := 3) cx.1 cx.2.1 dX12_four_36 (by decide) ?_
      refine q_ild_n cx dX12_four_3 rfl (lv_at hl 0 rfl) ?_
      refine q_iflt (tgt := 39) cx ⟨by decide, by decide⟩ dX12_four_4 (by decide) (fun c80 => ?_) (fun c80 => ?_)
      · exact absurd c80 (by omega)
      · refine q_ald_n cx dX12_four_7 rfl (lv_at hl 1 rfl) ?_
        refine q_gX12_7 cx hB hmo kmo z79 dX12_four_8 (fun hb81 kb81 => ?_)
        refine q_ald_n cx dX12_four_11 rfl (lv_at hl 1 rfl) ?_
        refine q_gX12_82 cx hB hmo kmo z78 dX12_four_12 (fun lb82 ub82 => ?_)
        refine q_ild_n cx dX12_four_15 rfl (lv_at hl 2 rfl) ?_
        refine q_ild_n cx dX12_four_16 rfl (lv_at hl 0 rfl) ?_
        refine q_ishr cx dX12_four_17 (fun y83 ry83 ey83 => ?_)
        refine q_sipush cx dX12_four_18 rfl ?_
        refine q_iandm cx 8 (by decide) rfl dX12_four_21 (fun y84 ly84 uy84 ey84 => ?_)
        refine q_iast (lo := 0) (hi := 255) (n := 600) cx hB hbu kbu (by decide) rfl rfl (by omega) (by omega) (by decide) rfl ⟨by omega, by omega⟩ (by omega) (by omega) (q_inWi (lo := 2) (hi := 598) (by decide) (by omega) (by omega)) dX12_four_22 (fun H locs f85 ef85 z86 hB => ?_)
        have z87 : q_z f85 mo 2 = ((n + 1) + 1) := by rw [ef85, q_setz (Or.inl (fun q => by rw [q, kbu] at kmo; exact absurd kmo (by decide)))]; exact z78
        have z88 : q_r f85 mo 1 = bu := by rw [ef85, q_setr (Or.inl (fun q => by rw [q, kbu] at kmo; exact absurd kmo (by decide)))]; exact z79
        refine q_ald_n cx dX12_four_23 rfl (lv_at hl 1 rfl) ?_
        refine lv_dup cx.1 cx.2.1 dX12_four_24 rfl ?_
        refine q_gX12_82 cx hB hmo kmo z87 dX12_four_25 (fun lb89 ub89 => ?_)
        refine q_iconst cx dX12_four_28 ?_
        refine q_iadd cx dX12_four_29 ?_
        refine q_pX12_82 cx hB hmo kmo ⟨by omega, by omega⟩ (by omega) (by omega) rfl dX12_four_30 (fun H locs f90 ef90 z91 hB => ?_)
        have z92 : q_r f90 mo 1 = bu := by rw [ef90, q_setr (Or.inr (by decide))]; exact z88
        refine q_iinc (lv' := [(2, .int (q_i (((24 + (-8)) + (-8)) + (-8)))), (0, .ref mo), (1, .int (q_i v0))]) cx dX12_four_33 hl (k := 0) rfl (by decide) rfl (fun ls hl => ?_)
        refine lv_goto (tgt := 3) cx.1 cx.2.1 dX12_four_36 (by decide) ?_
        refine q_ild_n cx dX12_four_3 rfl (lv_at hl 0 rfl) ?_
        refine q_iflt (tgt := 39) cx ⟨by decide, by decide⟩ dX12_four_4 (by decide) (fun c93 => ?_) (fun c93 => ?_)
        · exact absurd c93 (by omega)
        · refine q_ald_n cx dX12_four_7 rfl (lv_at hl 1 rfl) ?_
          refine q_gX12_7 cx hB hmo kmo z92 dX12_four_8 (fun hb94 kb94 => ?_)
          refine q_ald_n cx dX12_four_11 rfl (lv_at hl 1 rfl) ?_
          refine q_gX12_82 cx hB hmo kmo z91 dX12_four_12 (fun lb95 ub95 => ?_)
          refine q_ild_n cx dX12_four_15 rfl (lv_at hl 2 rfl) ?_
          refine q_ild_n cx dX12_four_16 rfl (lv_at hl 0 rfl) ?_
          refine q_ishr cx dX12_four_17 (fun y96 ry96 ey96 => ?_)
          refine q_sipush cx dX12_four_18 rfl ?_
          refine q_iandm cx 8 (by decide) rfl dX12_four_21 (fun y97 ly97 uy97 ey97 => ?_)
          refine q_iast (lo := 0) (hi := 255) (n := 600) cx hB hbu kbu (by decide) rfl rfl (by omega) (by omega) (by decide) rfl ⟨by omega, by omega⟩ (by omega) (by omega) (q_inWi (lo := 3) (hi := 599) (by decide) (by omega) (by omega)) dX12_four_22 (fun H locs f98 ef98 z99 hB => ?_)
          have z100 : q_z f98 mo 2 = (((n + 1) + 1) + 1) := by rw [ef98, q_setz (Or.inl (fun q => by rw [q, kbu] at kmo; exact absurd kmo (by decide)))]; exact z91
          have z101 : q_r f98 mo 1 = bu := by rw [ef98, q_setr (Or.inl (fun q => by rw [q, kbu] at kmo; exact absurd kmo (by decide)))]; exact z92
          refine q_ald_n cx dX12_four_23 rfl (lv_at hl 1 rfl) ?_
          refine lv_dup cx.1 cx.2.1 dX12_four_24 rfl ?_
          refine q_gX12_82 cx hB hmo kmo z100 dX12_four_25 (fun lb102 ub102 => ?_)
          refine q_iconst cx dX12_four_28 ?_
          refine q_iadd cx dX12_four_29 ?_
          refine q_pX12_82 cx hB hmo kmo ⟨by omega, by omega⟩ (by omega) (by omega) rfl dX12_four_30 (fun H locs f103 ef103 z104 hB => ?_)
          have z105 : q_r f103 mo 1 = bu := by rw [ef103, q_setr (Or.inr (by decide))]; exact z101
          refine q_iinc (lv' := [(2, .int (q_i ((((24 + (-8)) + (-8)) + (-8)) + (-8)))), (0, .ref mo), (1, .int (q_i v0))]) cx dX12_four_33 hl (k := 0) rfl (by decide) rfl (fun ls hl => ?_)
          refine lv_goto (tgt := 3) cx.1 cx.2.1 dX12_four_36 (by decide) ?_
          refine q_ild_n cx dX12_four_3 rfl (lv_at hl 0 rfl) ?_
          refine q_iflt (tgt := 39) cx ⟨by decide, by decide⟩ dX12_four_4 (by decide) (fun c106 => ?_) (fun c106 => ?_)
          · refine q_vret cx hr hlk hB dX12_four_39 ?_
            exact (by omega)
          · exact absurd c106 (by omega)
set_option maxHeartbeats 4000000 in
set_option maxRecDepth 100000 in
theorem r_here0 (l : Launch) (g : q_G) {K : Nat → Nat} {L : List Nat} (hN : L.Nodup) {f : Nat → va_E} (hT : q_Ty g K L f) (mo : Nat) (hmo : mo ∈ L) (kmo : K mo = 12) (k : Int) (lk : 0 ≤ k) (uk : k ≤ 0) (hf0 : q_z f mo 3 = 0) (hf1 : q_z f mo 4 = 0) : q_Ct l g K L yX12_here cX12_here 2 (some .int) 0 0 [.ref mo, .int (q_i k)] f [] (q_Pi (fun (z : Int) (f1 : Nat → va_E) => f = f1 ∧ z = (-1))) := by
  obtain rfl : k = 0 := by omega
  refine q_ofb (by decide +kernel) hN hT (Nat.le_of_ble_eq_true rfl) ?_
  intro p e s m below meth c ls cx hr hlk hB hl
  have hl : lv_has ls 2 [(0, .ref mo), (1, .int (q_i 0))] := hl
  obtain ⟨H, hH⟩ : ∃ H : Heap, H = s.heap := ⟨_, rfl⟩
  obtain ⟨locs, hlocs⟩ : ∃ z : List Loc, z = [] := ⟨_, rfl⟩
  rw [← hH, ← hlocs] at hB
  rw [← hH, ← hlocs]
  refine q_ald_n cx dX12_here_0 rfl (lv_at hl 0 rfl) ?_
  refine q_gX12_97 cx hB hmo kmo hf1 dX12_here_1 (fun lb4 ub4 => ?_)
  refine q_ild_n cx dX12_here_4 rfl (lv_at hl 1 rfl) ?_
  refine q_iadd cx dX12_here_5 ?_
  refine q_ald_n cx dX12_here_6 rfl (lv_at hl 0 rfl) ?_
  refine q_gX12_100 cx hB hmo kmo hf0 dX12_here_7 (fun lb5 ub5 => ?_)
  refine q_icge (tgt := 27) cx ⟨by decide, by decide⟩ ⟨by decide, by decide⟩ dX12_here_10 (by decide) (fun c6 => ?_) (fun c6 => ?_)
  · refine q_iconst cx dX12_here_27 ?_
    refine q_iret cx hr hlk hB dX12_here_28 ⟨by decide, by decide⟩ ?_
    exact ⟨rfl, rfl⟩
  · exact absurd c6 (by omega)
set_option maxHeartbeats 4000000 in
set_option maxRecDepth 100000 in
theorem r_goOn0 (l : Launch) (g : q_G) {K : Nat → Nat} {L : List Nat} (hN : L.Nodup) {f : Nat → va_E} (hT : q_Ty g K L f) (mo : Nat) (hmo : mo ∈ L) (kmo : K mo = 12) (hf0 : q_z f mo 3 = 0) (hf1 : q_z f mo 4 = 0) : q_Ct l g K L yX12_goOn cX12_goOn 3 none 1 21 [.ref mo] f [(12, 4, 7), (12, 12, 12)] (q_Pv (fun (f1 : Nat → va_E) => q_z f1 mo 6 = 0)) := by
  refine q_ofb (by decide +kernel) hN hT (Nat.le_of_ble_eq_true rfl) ?_
  intro p e s m below meth c ls cx hr hlk hB hl
  have hl : lv_has ls 3 [(0, .ref mo)] := hl
  obtain ⟨H, hH⟩ : ∃ H : Heap, H = s.heap := ⟨_, rfl⟩
  obtain ⟨locs, hlocs⟩ : ∃ z : List Loc, z = [] := ⟨_, rfl⟩
  rw [← hH, ← hlocs] at hB
  rw [← hH, ← hlocs]
  refine q_ald_n cx dX12_goOn_0 rfl (lv_at hl 0 rfl) ?_
  refine q_iconst cx dX12_goOn_1 ?_
  refine q_cVi (As := [.int (q_i 0)]) (rest := []) cx hB (fun _ h => h) hN hmo kmo (by decide) rfl (r_here0 l g hN hB.2.1 mo hmo kmo 0 (by decide) (by decide) hf0 hf1) q_cX12_103 q_dX12_here (by decide) rfl rfl hl.1 rfl (Nat.le_of_ble_eq_true rfl) dX12_goOn_2 (fun y35 H locs f34 ry35 h36 hF hB => ?_)
  obtain ⟨rfl, qy35⟩ := h36
  subst qy35
  refine q_bipush cx dX12_goOn_5 rfl ?_
  refine q_iceq (tgt := 20) cx ⟨by decide, by decide⟩ ⟨by decide, by decide⟩ dX12_goOn_7 (by decide) (fun c37 => ?_) (fun c37 => ?_)
  · exact absurd c37 (by omega)
  · refine q_ald_n cx dX12_goOn_10 rfl (lv_at hl 0 rfl) ?_
    refine q_iconst cx dX12_goOn_11 ?_
    refine q_cVi (As := [.int (q_i 0)]) (rest := []) cx hB (fun _ h => h) hN hmo kmo (by decide) rfl (r_here0 l g hN hB.2.1 mo hmo kmo 0 (by decide) (by decide) hf0 hf1) q_cX12_103 q_dX12_here (by decide) rfl rfl hl.1 rfl (Nat.le_of_ble_eq_true rfl) dX12_goOn_12 (fun y39 H locs f38 ry39 h40 hF hB => ?_)
    obtain ⟨rfl, qy39⟩ := h40
    subst qy39
    refine q_bipush cx dX12_goOn_15 rfl ?_
    refine q_icne (tgt := 33) cx ⟨by decide, by decide⟩ ⟨by decide, by decide⟩ dX12_goOn_17 (by decide) (fun c41 => ?_) (fun c41 => ?_)
    · refine q_ald_n cx dX12_goOn_33 rfl (lv_at hl 0 rfl) ?_
      refine q_ald_n cx dX12_goOn_34 rfl (lv_at hl 0 rfl) ?_
      refine q_gX12_97 cx hB hmo kmo hf1 dX12_goOn_35 (fun lb42 ub42 => ?_)
      refine q_pX12_107 cx hB hmo kmo ⟨by decide, by decide⟩ (by decide) (by decide) rfl dX12_goOn_38 (fun H locs f43 ef43 z44 hB => ?_)
      have z45 : q_z f43 mo 3 = 0 := by rw [ef43, q_setz (Or.inr (by decide))]; exact hf0
      have z46 : q_z f43 mo 4 = 0 := by rw [ef43, q_setz (Or.inr (by decide))]; exact hf1
      refine q_ald_n cx dX12_goOn_41 rfl (lv_at hl 0 rfl) ?_
      refine q_lconst (z := 0) cx (by decide) dX12_goOn_42 ?_
      refine q_pX12_110 cx hB hmo kmo rfl dX12_goOn_43 (fun H locs f47 ef47 z48 hB => ?_)
      have z49 : q_z f47 mo 3 = 0 := by rw [ef47, q_setz (Or.inr (by decide))]; exact z45
      have z50 : q_z f47 mo 4 = 0 := by rw [ef47, q_setz (Or.inr (by decide))]; exact z46
      have z51 : q_z f47 mo 5 = 0 := by rw [ef47, q_setz (Or.inr (by decide))]; exact z44
      refine q_ald_n cx dX12_goOn_46 rfl (lv_at hl 0 rfl) ?_
      refine q_iconst cx dX12_goOn_47 ?_
      refine q_pX12_114 cx hB hmo kmo ⟨by decide, by decide⟩ (by decide) (by decide) rfl dX12_goOn_48 (fun H locs f52 ef52 z53 hB => ?_)
      have z54 : q_z f52 mo 3 = 0 := by rw [ef52, q_setz (Or.inr (by decide))]; exact z49
      have z55 : q_z f52 mo 4 = 0 := by rw [ef52, q_setz (Or.inr (by decide))]; exact z50
      have z56 : q_z f52 mo 5 = 0 := by rw [ef52, q_setz (Or.inr (by decide))]; exact z51
      refine q_ald_n cx dX12_goOn_51 rfl (lv_at hl 0 rfl) ?_
      refine q_iconst cx dX12_goOn_52 ?_
      refine q_cVi (As := [.int (q_i 0)]) (rest := []) cx hB (fun _ h => h) hN hmo kmo (by decide) rfl (r_here0 l g hN hB.2.1 mo hmo kmo 0 (by decide) (by decide) z54 z55) q_cX12_103 q_dX12_here (by decide) rfl rfl hl.1 rfl (Nat.le_of_ble_eq_true rfl) dX12_goOn_53 (fun y58 H locs f57 ry58 h59 hF hB => ?_)
      obtain ⟨rfl, qy58⟩ := h59
      subst qy58
      refine lv_istore_n (lv' := [(1, .int (q_i (-1))), (0, .ref mo)]) cx.1 cx.2.1 dX12_goOn_56 rfl hl (by decide) rfl (fun ls hl => ?_)
      refine q_iconst cx dX12_goOn_57 ?_
      refine lv_istore_n (lv' := [(2, .int (q_i 0)), (1, .int (q_i (-1))), (0, .ref mo)]) cx.1 cx.2.1 dX12_goOn_58 rfl hl (by decide) rfl (fun ls hl => ?_)
      refine q_ild_n cx dX12_goOn_59 rfl (lv_at hl 1 rfl) ?_
      refine q_ifge (tgt := 69) cx ⟨by decide, by decide⟩ dX12_goOn_60 (by decide) (fun c60 => ?_) (fun c60 => ?_)
      · exact absurd c60 (by omega)
      · refine q_ald_n cx dX12_goOn_63 rfl (lv_at hl 2 rfl) ?_
        refine q_iconst cx dX12_goOn_64 ?_
        refine q_pX12_117 cx hB hmo kmo ⟨by decide, by decide⟩ (by decide) (by decide) rfl dX12_goOn_65 (fun H locs f61 ef61 z62 hB => ?_)
        have z63 : q_z f61 mo 3 = 0 := by rw [ef61, q_setz (Or.inr (by decide))]; exact z54
        have z64 : q_z f61 mo 4 = 0 := by rw [ef61, q_setz (Or.inr (by decide))]; exact z55
        have z65 : q_z f61 mo 5 = 0 := by rw [ef61, q_setz (Or.inr (by decide))]; exact z56
        have z66 : q_z f61 mo 7 = 0 := by rw [ef61, q_setz (Or.inr (by decide))]; exact z53
        refine q_vret cx hr hlk hB dX12_goOn_68 ?_
        exact z62
    · exact absurd c41 (by omega)
set_option maxHeartbeats 4000000 in
set_option maxRecDepth 100000 in
theorem r_beginsText0 (l : Launch) (g : q_G) {K : Nat → Nat} {L : List Nat} (hN : L.Nodup) {f : Nat → va_E} (hT : q_Ty g K L f) (mo : Nat) (hmo : mo ∈ L) (kmo : K mo = 12) (hf0 : q_z f mo 2 = 0) : q_Ct l g K L yX12_beginsText cX12_beginsText 1 none 2 43 [.ref mo] f [(12, 2, 9), (12, 12, 12)] (q_Pv (fun (f1 : Nat → va_E) => q_z f1 mo 2 = 0 ∧ q_z f1 mo 6 = 0 ∧ q_z f1 mo 8 = 0 ∧ q_z f1 mo 9 = (-1))) := by
  refine q_ofb (by decide +kernel) hN hT (Nat.le_of_ble_eq_true rfl) ?_
  intro p e s m below meth c ls cx hr hlk hB hl
  have hl : lv_has ls 1 [(0, .ref mo)] := hl
  obtain ⟨H, hH⟩ : ∃ H : Heap, H = s.heap := ⟨_, rfl⟩
  obtain ⟨locs, hlocs⟩ : ∃ z : List Loc, z = [] := ⟨_, rfl⟩
  rw [← hH, ← hlocs] at hB
  rw [← hH, ← hlocs]
  refine q_ald_n cx dX12_beginsText_0 rfl (lv_at hl 0 rfl) ?_
  refine q_ald_n cx dX12_beginsText_1 rfl (lv_at hl 0 rfl) ?_
  refine q_gX12_82 cx hB hmo kmo hf0 dX12_beginsText_2 (fun lb31 ub31 => ?_)
  refine q_pX12_100 cx hB hmo kmo ⟨by decide, by decide⟩ (by decide) (by decide) rfl dX12_beginsText_5 (fun H locs f32 ef32 z33 hB => ?_)
  have z34 : q_z f32 mo 2 = 0 := by rw [ef32, q_setz (Or.inr (by decide))]; exact hf0
  refine q_ald_n cx dX12_beginsText_8 rfl (lv_at hl 0 rfl) ?_
  refine q_iconst cx dX12_beginsText_9 ?_
  refine q_pX12_82 cx hB hmo kmo ⟨by decide, by decide⟩ (by decide) (by decide) rfl dX12_beginsText_10 (fun H locs f35 ef35 z36 hB => ?_)
  have z37 : q_z f35 mo 3 = 0 := by rw [ef35, q_setz (Or.inr (by decide))]; exact z33
  refine q_ald_n cx dX12_beginsText_13 rfl (lv_at hl 0 rfl) ?_
  refine q_iconst cx dX12_beginsText_14 ?_
  refine q_pX12_97 cx hB hmo kmo ⟨by decide, by decide⟩ (by decide) (by decide) rfl dX12_beginsText_15 (fun H locs f38 ef38 z39 hB => ?_)
  have z40 : q_z f38 mo 3 = 0 := by rw [ef38, q_setz (Or.inr (by decide))]; exact z37
  have z41 : q_z f38 mo 2 = 0 := by rw [ef38, q_setz (Or.inr (by decide))]; exact z36
  refine q_ald_n cx dX12_beginsText_18 rfl (lv_at hl 0 rfl) ?_
  refine q_iconst cx dX12_beginsText_19 ?_
  refine q_pX12_127 cx hB hmo kmo ⟨by decide, by decide⟩ (by decide) (by decide) rfl dX12_beginsText_20 (fun H locs f42 ef42 z43 hB => ?_)
  have z44 : q_z f42 mo 3 = 0 := by rw [ef42, q_setz (Or.inr (by decide))]; exact z40
  have z45 : q_z f42 mo 2 = 0 := by rw [ef42, q_setz (Or.inr (by decide))]; exact z41
  have z46 : q_z f42 mo 4 = 0 := by rw [ef42, q_setz (Or.inr (by decide))]; exact z39
  refine q_ald_n cx dX12_beginsText_23 rfl (lv_at hl 0 rfl) ?_
  refine q_iconst cx dX12_beginsText_24 ?_
  refine q_pX12_13 cx hB hmo kmo ⟨by decide, by decide⟩ (by decide) (by decide) rfl dX12_beginsText_25 (fun H locs f47 ef47 z48 hB => ?_)
  have z49 : q_z f47 mo 3 = 0 := by rw [ef47, q_setz (Or.inr (by decide))]; exact z44
  have z50 : q_z f47 mo 2 = 0 := by rw [ef47, q_setz (Or.inr (by decide))]; exact z45
  have z51 : q_z f47 mo 4 = 0 := by rw [ef47, q_setz (Or.inr (by decide))]; exact z46
  have z52 : q_z f47 mo 8 = 0 := by rw [ef47, q_setz (Or.inr (by decide))]; exact z43
  refine q_ald_n cx dX12_beginsText_28 rfl (lv_at hl 0 rfl) ?_
  refine q_cVv (As := []) (rest := []) cx hB (fun _ h => h) hN hmo kmo (by decide) rfl (r_goOn0 l g hN hB.2.1 mo hmo kmo z49 z51) q_cX12_140 q_dX12_goOn (by decide) rfl rfl hl.1 rfl (Nat.le_of_ble_eq_true rfl) dX12_beginsText_29 (fun H locs f53 h55 hF hB => ?_)
  have z56 := h55
  have z57 : q_z f53 mo 3 = 0 := (hF.z hmo (by rw [kmo]; rfl)).trans z49
  have z58 : q_z f53 mo 2 = 0 := (hF.z hmo (by rw [kmo]; rfl)).trans z50
  have z59 : q_z f53 mo 8 = 0 := (hF.z hmo (by rw [kmo]; rfl)).trans z52
  have z60 : q_z f53 mo 9 = (-1) := (hF.z hmo (by rw [kmo]; rfl)).trans z48
  refine q_vret cx hr hlk hB dX12_beginsText_32 ?_
  exact ⟨z58, z56, z59, z60⟩
set_option maxHeartbeats 4000000 in
set_option maxRecDepth 100000 in
theorem r_isGood0 (l : Launch) (g : q_G) {K : Nat → Nat} {L : List Nat} (hN : L.Nodup) {f : Nat → va_E} (hT : q_Ty g K L f) (mo : Nat) (hmo : mo ∈ L) (kmo : K mo = 12) (hf0 : q_z f mo 8 = 0) : q_Ct l g K L yX12_isGood cX12_isGood 1 (some .boolean) 0 0 [.ref mo] f [] (q_Pi (fun (z : Int) (f1 : Nat → va_E) => f = f1 ∧ z = 1)) := by
  refine q_ofb (by decide +kernel) hN hT (Nat.le_of_ble_eq_true rfl) ?_
  intro p e s m below meth c ls cx hr hlk hB hl
  have hl : lv_has ls 1 [(0, .ref mo)] := hl
  obtain ⟨H, hH⟩ : ∃ H : Heap, H = s.heap := ⟨_, rfl⟩
  obtain ⟨locs, hlocs⟩ : ∃ z : List Loc, z = [] := ⟨_, rfl⟩
  rw [← hH, ← hlocs] at hB
  rw [← hH, ← hlocs]
  refine q_ald_n cx dX12_isGood_0 rfl (lv_at hl 0 rfl) ?_
  refine q_gX12_127 cx hB hmo kmo hf0 dX12_isGood_1 (fun lb3 ub3 => ?_)
  refine q_ifne (tgt := 11) cx ⟨by decide, by decide⟩ dX12_isGood_4 (by decide) (fun c4 => ?_) (fun c4 => ?_)
  · exact absurd c4 (by omega)
  · refine q_iconst cx dX12_isGood_7 ?_
    refine lv_goto (tgt := 12) cx.1 cx.2.1 dX12_isGood_8 (by decide) ?_
    refine q_zret cx hr hlk hB dX12_isGood_12 (by decide) (by decide) ?_
    exact ⟨rfl, rfl⟩
set_option maxHeartbeats 4000000 in
set_option maxRecDepth 100000 in
theorem r_endsText0 (l : Launch) (g : q_G) {K : Nat → Nat} {L : List Nat} (hN : L.Nodup) {f : Nat → va_E} (hT : q_Ty g K L f) (mo : Nat) (hmo : mo ∈ L) (kmo : K mo = 12) (hf0 : q_z f mo 8 = 0) (hf1 : q_z f mo 9 = (-1)) : q_Ct l g K L yX12_endsText cX12_endsText 1 (some .boolean) 2 41 [.ref mo] f [(12, 0, 0), (12, 10, 11)] (q_Pi (fun (z : Int) (f1 : Nat → va_E) => z = 1 ∧ q_z f1 mo 0 = 0 ∧ q_z f1 mo 10 = 0 ∧ q_z f1 mo 11 = (-1))) := by
  refine q_ofb (by decide +kernel) hN hT (Nat.le_of_ble_eq_true rfl) ?_
  intro p e s m below meth c ls cx hr hlk hB hl
  have hl : lv_has ls 1 [(0, .ref mo)] := hl
  obtain ⟨H, hH⟩ : ∃ H : Heap, H = s.heap := ⟨_, rfl⟩
  obtain ⟨locs, hlocs⟩ : ∃ z : List Loc, z = [] := ⟨_, rfl⟩
  rw [← hH, ← hlocs] at hB
  rw [← hH, ← hlocs]
  refine q_ald_n cx dX12_endsText_0 rfl (lv_at hl 0 rfl) ?_
  refine q_ald_n cx dX12_endsText_1 rfl (lv_at hl 0 rfl) ?_
  refine q_gX12_127 cx hB hmo kmo hf0 dX12_endsText_2 (fun lb22 ub22 => ?_)
  refine q_pX12_151 cx hB hmo kmo ⟨by decide, by decide⟩ (by decide) (by decide) rfl dX12_endsText_5 (fun H locs f23 ef23 z24 hB => ?_)
  have z25 : q_z f23 mo 8 = 0 := by rw [ef23, q_setz (Or.inr (by decide))]; exact hf0
  have z26 : q_z f23 mo 9 = (-1) := by rw [ef23, q_setz (Or.inr (by decide))]; exact hf1
  refine q_ald_n cx dX12_endsText_8 rfl (lv_at hl 0 rfl) ?_
  refine q_ald_n cx dX12_endsText_9 rfl (lv_at hl 0 rfl) ?_
  refine q_gX12_13 cx hB hmo kmo z26 dX12_endsText_10 (fun lb27 ub27 => ?_)
  refine q_pX12_17 cx hB hmo kmo ⟨by decide, by decide⟩ (by decide) (by decide) rfl dX12_endsText_13 (fun H locs f28 ef28 z29 hB => ?_)
  have z30 : q_z f28 mo 8 = 0 := by rw [ef28, q_setz (Or.inr (by decide))]; exact z25
  have z31 : q_z f28 mo 9 = (-1) := by rw [ef28, q_setz (Or.inr (by decide))]; exact z26
  have z32 : q_z f28 mo 10 = 0 := by rw [ef28, q_setz (Or.inr (by decide))]; exact z24
  refine q_ald_n cx dX12_endsText_16 rfl (lv_at hl 0 rfl) ?_
  refine q_ald_n cx dX12_endsText_17 rfl (lv_at hl 0 rfl) ?_
  refine q_gX12_127 cx hB hmo kmo z30 dX12_endsText_18 (fun lb33 ub33 => ?_)
  refine q_ifne (tgt := 28) cx ⟨by decide, by decide⟩ dX12_endsText_21 (by decide) (fun c34 => ?_) (fun c34 => ?_)
  · exact absurd c34 (by omega)
  · refine q_iconst cx dX12_endsText_24 ?_
    refine lv_goto (tgt := 29) cx.1 cx.2.1 dX12_endsText_25 (by decide) ?_
    refine q_cVi (As := [.int (q_i 1)]) (rest := []) cx hB (fun _ h => h) hN hmo kmo (by decide) rfl (r_goes1 l g hN hB.2.1 mo hmo kmo 1 (by decide) (by decide)) q_cX12_85 q_dX12_goes (by decide) rfl rfl hl.1 rfl (Nat.le_of_ble_eq_true rfl) dX12_endsText_29 (fun y36 H locs f35 ry36 h37 hF hB => ?_)
    obtain ⟨qy36, z38⟩ := h37
    have z39 : q_z f35 mo 8 = 0 := (hF.z hmo (by rw [kmo]; rfl)).trans z30
    have z40 : q_z f35 mo 9 = (-1) := (hF.z hmo (by rw [kmo]; rfl)).trans z31
    have z41 : q_z f35 mo 10 = 0 := (hF.z hmo (by rw [kmo]; rfl)).trans z32
    have z42 : q_z f35 mo 11 = (-1) := (hF.z hmo (by rw [kmo]; rfl)).trans z29
    subst qy36
    refine q_zret cx hr hlk hB dX12_endsText_32 (by decide) (by decide) ?_
    exact ⟨rfl, z38, z41, z42⟩
set_option maxHeartbeats 4000000 in
set_option maxRecDepth 100000 in
theorem r_copiesRow_sr_as (l : Launch) (g : q_G) {K : Nat → Nat} {L : List Nat} (hN : L.Nodup) {f : Nat → va_E} (hT : q_Ty g K L f) (pp : Nat) (hpp : pp ∈ L) (kpp : K pp = 151) (a0 : Int) (la0 : 0 ≤ a0) (ua0 : a0 ≤ 0) (qq : Nat) (hqq : qq ∈ L) (kqq : K qq = 153) (b0 : Int) (lb0 : 0 ≤ b0) (ub0 : b0 ≤ 0) : q_Ct l g K L yX12_copiesRow cX12_copiesRow 5 none 0 0 [.ref pp, .int (q_i a0), .ref qq, .int (q_i b0)] f [(153, 0, 657)] (q_Pv (fun (f1 : Nat → va_E) => True)) := by
  obtain rfl : a0 = 0 := by omega
  obtain rfl : b0 = 0 := by omega
  refine q_ofb (by decide +kernel) hN hT (Nat.le_of_ble_eq_true rfl) ?_
  intro p e s m below meth c ls cx hr hlk hB hl
  have hl : lv_has ls 5 [(0, .ref pp), (1, .int (q_i 0)), (2, .ref qq), (3, .int (q_i 0))] := hl
  have J3 : ∀ (n : Nat) (f3 : Nat → va_E) (v3_1 : Int) (lv3_1 : 0 ≤ v3_1) (uv3_1 : v3_1 ≤ 0) (v3_3 : Int) (lv3_3 : 0 ≤ v3_3) (uv3_3 : v3_3 ≤ 0) (v3_4 : Int) (lv3_4 : 0 ≤ v3_4) (uv3_4 : v3_4 ≤ 658) (hmu : (Int.toNat (2147483647 - v3_4)) < n) (H : Heap) (locs : List Loc) (hB : q_B g K L (fun q => q ∈ L) [(153, 0, 657)] f f3 s H locs) (ls : Array Slot) (hl : lv_has ls 5 [(0, .ref pp), (1, .int (q_i v3_1)), (2, .ref qq), (3, .int (q_i v3_3)), (4, .int (q_i v3_4))]), W p l e { frames := 0, cells := 0, slots := 0, locals := 0 } s m ([.ref pp, .int (q_i 0), .ref qq, .int (q_i 0)] : List Value).toArray below meth c H locs 0 0 (MQ below (q_Q g K L [(153, 0, 657)] f (q_Pv (fun (f1 : Nat → va_E) => True))) ([.ref pp, .int (q_i 0), .ref qq, .int (q_i 0)] : List Value).toArray s 0 0 (fun q => q ∈ L)) (F0 m 3 ls []) := by
    intro n
    induction n with
    | zero =>
      intro f3 v3_1 lv3_1 uv3_1 v3_3 lv3_3 uv3_3 v3_4 lv3_4 uv3_4 hmu
      exact absurd hmu (Nat.not_lt_zero _)
    | succ n ih3 =>
      intro f3 v3_1 lv3_1 uv3_1 v3_3 lv3_3 uv3_3 v3_4 lv3_4 uv3_4 hmu H locs hB ls hl
      refine lv_iload cx.1 cx.2.1 dX12_copiesRow_3 (lv_at hl 4 rfl) ?_
      refine q_sipush cx dX12_copiesRow_5 rfl ?_
      refine q_icge (tgt := 29) cx ⟨by omega, by omega⟩ ⟨by decide, by decide⟩ dX12_copiesRow_8 (by decide) (fun c146 => ?_) (fun c146 => ?_)
      · refine q_vret cx hr hlk hB dX12_copiesRow_29 ?_
        trivial
      · refine q_ald_n cx dX12_copiesRow_11 rfl (lv_at hl 2 rfl) ?_
        refine q_ild_n cx dX12_copiesRow_12 rfl (lv_at hl 3 rfl) ?_
        refine lv_iload cx.1 cx.2.1 dX12_copiesRow_13 (lv_at hl 4 rfl) ?_
        refine q_iadd cx dX12_copiesRow_15 ?_
        refine q_ald_n cx dX12_copiesRow_16 rfl (lv_at hl 0 rfl) ?_
        refine q_ild_n cx dX12_copiesRow_17 rfl (lv_at hl 1 rfl) ?_
        refine lv_iload cx.1 cx.2.1 dX12_copiesRow_18 (lv_at hl 4 rfl) ?_
        refine q_iadd cx dX12_copiesRow_20 ?_
        obtain ⟨x147, ex147⟩ : ∃ zz, q_z f3 pp (Int.toNat (v3_1 + v3_4)) = zz := ⟨_, rfl⟩
        refine q_rald (n := 658) cx hB hpp kpp q_K1 rfl (by omega) (by omega) (by decide) ex147 dX12_copiesRow_21 (fun rx147 lx147 ux147 => ?_)
        refine q_rast (n := 658) cx hB hqq kqq q_K3 rfl (by omega) (by omega) (by decide) ⟨by omega, by omega⟩ (by rw [q_rowE (n := 658) (p := Int.toNat (v3_1 + v3_4)) q_K3 rfl (by omega) (by omega)]; exact lx147) (by rw [q_rowE (n := 658) (p := Int.toNat (v3_1 + v3_4)) q_K3 rfl (by omega) (by omega)]; exact ux147) (q_inWi (lo := 0) (hi := 657) (by decide) (by omega) (by omega)) dX12_copiesRow_22 (fun H locs f149 ef149 z150 hB => ?_)
        refine q_iinc (lv' := [(4, .int (q_i (v3_4 + 1))), (0, .ref pp), (1, .int (q_i v3_1)), (2, .ref qq), (3, .int (q_i v3_3))]) cx dX12_copiesRow_23 hl (k := 4) rfl (by decide) rfl (fun ls hl => ?_)
        refine lv_goto (tgt := 3) cx.1 cx.2.1 dX12_copiesRow_26 (by decide) ?_
        exact ih3 f149 v3_1 (by omega) (by omega) v3_3 (by omega) (by omega) (v3_4 + 1) (by omega) (by omega) (by omega) H locs hB ls (lv_sub hl [1, 2, 3, 4, 0] rfl)
  obtain ⟨H, hH⟩ : ∃ H : Heap, H = s.heap := ⟨_, rfl⟩
  obtain ⟨locs, hlocs⟩ : ∃ z : List Loc, z = [] := ⟨_, rfl⟩
  rw [← hH, ← hlocs] at hB
  rw [← hH, ← hlocs]
  refine q_iconst cx dX12_copiesRow_0 ?_
  refine lv_istore (lv' := [(4, .int (q_i 0)), (0, .ref pp), (1, .int (q_i 0)), (2, .ref qq), (3, .int (q_i 0))]) cx.1 cx.2.1 dX12_copiesRow_1 hl (by decide) rfl (fun ls hl => ?_)
  exact J3 ((Int.toNat (2147483647 - 0)) + 1) f 0 (by decide) (by decide) 0 (by decide) (by decide) 0 (by decide) (by decide) (Nat.lt_succ_self _) H locs hB ls (lv_sub hl [1, 2, 3, 4, 0] rfl)
set_option maxHeartbeats 4000000 in
set_option maxRecDepth 100000 in
theorem r_copiesRow_as_pa (l : Launch) (g : q_G) {K : Nat → Nat} {L : List Nat} (hN : L.Nodup) {f : Nat → va_E} (hT : q_Ty g K L f) (pp : Nat) (hpp : pp ∈ L) (kpp : K pp = 153) (a0 : Int) (la0 : 0 ≤ a0) (ua0 : a0 ≤ 0) (qq : Nat) (hqq : qq ∈ L) (kqq : K qq = 155) (b0 : Int) (lb0 : 0 ≤ b0) (ub0 : b0 ≤ 0) : q_Ct l g K L yX12_copiesRow cX12_copiesRow 5 none 0 0 [.ref pp, .int (q_i a0), .ref qq, .int (q_i b0)] f [(155, 0, 657)] (q_Pv (fun (f1 : Nat → va_E) => True)) := by
  obtain rfl : a0 = 0 := by omega
  obtain rfl : b0 = 0 := by omega
  refine q_ofb (by decide +kernel) hN hT (Nat.le_of_ble_eq_true rfl) ?_
  intro p e s m below meth c ls cx hr hlk hB hl
  have hl : lv_has ls 5 [(0, .ref pp), (1, .int (q_i 0)), (2, .ref qq), (3, .int (q_i 0))] := hl
  have J3 : ∀ (n : Nat) (f3 : Nat → va_E) (v3_1 : Int) (lv3_1 : 0 ≤ v3_1) (uv3_1 : v3_1 ≤ 0) (v3_3 : Int) (lv3_3 : 0 ≤ v3_3) (uv3_3 : v3_3 ≤ 0) (v3_4 : Int) (lv3_4 : 0 ≤ v3_4) (uv3_4 : v3_4 ≤ 658) (hmu : (Int.toNat (2147483647 - v3_4)) < n) (H : Heap) (locs : List Loc) (hB : q_B g K L (fun q => q ∈ L) [(155, 0, 657)] f f3 s H locs) (ls : Array Slot) (hl : lv_has ls 5 [(0, .ref pp), (1, .int (q_i v3_1)), (2, .ref qq), (3, .int (q_i v3_3)), (4, .int (q_i v3_4))]), W p l e { frames := 0, cells := 0, slots := 0, locals := 0 } s m ([.ref pp, .int (q_i 0), .ref qq, .int (q_i 0)] : List Value).toArray below meth c H locs 0 0 (MQ below (q_Q g K L [(155, 0, 657)] f (q_Pv (fun (f1 : Nat → va_E) => True))) ([.ref pp, .int (q_i 0), .ref qq, .int (q_i 0)] : List Value).toArray s 0 0 (fun q => q ∈ L)) (F0 m 3 ls []) := by
    intro n
    induction n with
    | zero =>
      intro f3 v3_1 lv3_1 uv3_1 v3_3 lv3_3 uv3_3 v3_4 lv3_4 uv3_4 hmu
      exact absurd hmu (Nat.not_lt_zero _)
    | succ n ih3 =>
      intro f3 v3_1 lv3_1 uv3_1 v3_3 lv3_3 uv3_3 v3_4 lv3_4 uv3_4 hmu H locs hB ls hl
      refine lv_iload cx.1 cx.2.1 dX12_copiesRow_3 (lv_at hl 4 rfl) ?_
      refine q_sipush cx dX12_copiesRow_5 rfl ?_
      refine q_icge (tgt := 29) cx ⟨by omega, by omega⟩ ⟨by decide, by decide⟩ dX12_copiesRow_8 (by decide) (fun c146 => ?_) (fun c146 => ?_)
      · refine q_vret cx hr hlk hB dX12_copiesRow_29 ?_
        trivial
      · refine q_ald_n cx dX12_copiesRow_11 rfl (lv_at hl 2 rfl) ?_
        refine q_ild_n cx dX12_copiesRow_12 rfl (lv_at hl 3 rfl) ?_
        refine lv_iload cx.1 cx.2.1 dX12_copiesRow_13 (lv_at hl 4 rfl) ?_
        refine q_iadd cx dX12_copiesRow_15 ?_
        refine q_ald_n cx dX12_copiesRow_16 rfl (lv_at hl 0 rfl) ?_
        refine q_ild_n cx dX12_copiesRow_17 rfl (lv_at hl 1 rfl) ?_
        refine lv_iload cx.1 cx.2.1 dX12_copiesRow_18 (lv_at hl 4 rfl) ?_
        refine q_iadd cx dX12_copiesRow_20 ?_
        obtain ⟨x147, ex147⟩ : ∃ zz, q_z f3 pp (Int.toNat (v3_1 + v3_4)) = zz := ⟨_, rfl⟩
        refine q_rald (n := 658) cx hB hpp kpp q_K3 rfl (by omega) (by omega) (by decide) ex147 dX12_copiesRow_21 (fun rx147 lx147 ux147 => ?_)
        refine q_rast (n := 3948) cx hB hqq kqq q_K5 rfl (by omega) (by omega) (by decide) ⟨by omega, by omega⟩ (by rw [q_rowE (n := 3948) (p := Int.toNat (v3_1 + v3_4)) q_K5 rfl (by omega) (by omega)]; exact lx147) (by rw [q_rowE (n := 3948) (p := Int.toNat (v3_1 + v3_4)) q_K5 rfl (by omega) (by omega)]; exact ux147) (q_inWi (lo := 0) (hi := 657) (by decide) (by omega) (by omega)) dX12_copiesRow_22 (fun H locs f149 ef149 z150 hB => ?_)
        refine q_iinc (lv' := [(4, .int (q_i (v3_4 + 1))), (0, .ref pp), (1, .int (q_i v3_1)), (2, .ref qq), (3, .int (q_i v3_3))]) cx dX12_copiesRow_23 hl (k := 4) rfl (by decide) rfl (fun ls hl => ?_)
        refine lv_goto (tgt := 3) cx.1 cx.2.1 dX12_copiesRow_26 (by decide) ?_
        exact ih3 f149 v3_1 (by omega) (by omega) v3_3 (by omega) (by omega) (v3_4 + 1) (by omega) (by omega) (by omega) H locs hB ls (lv_sub hl [1, 2, 3, 4, 0] rfl)
  obtain ⟨H, hH⟩ : ∃ H : Heap, H = s.heap := ⟨_, rfl⟩
  obtain ⟨locs, hlocs⟩ : ∃ z : List Loc, z = [] := ⟨_, rfl⟩
  rw [← hH, ← hlocs] at hB
  rw [← hH, ← hlocs]
  refine q_iconst cx dX12_copiesRow_0 ?_
  refine lv_istore (lv' := [(4, .int (q_i 0)), (0, .ref pp), (1, .int (q_i 0)), (2, .ref qq), (3, .int (q_i 0))]) cx.1 cx.2.1 dX12_copiesRow_1 hl (by decide) rfl (fun ls hl => ?_)
  exact J3 ((Int.toNat (2147483647 - 0)) + 1) f 0 (by decide) (by decide) 0 (by decide) (by decide) 0 (by decide) (by decide) (Nat.lt_succ_self _) H locs hB ls (lv_sub hl [1, 2, 3, 4, 0] rfl)
set_option maxHeartbeats 4000000 in
set_option maxRecDepth 100000 in
theorem r_copiesRow_sr_sd (l : Launch) (g : q_G) {K : Nat → Nat} {L : List Nat} (hN : L.Nodup) {f : Nat → va_E} (hT : q_Ty g K L f) (pp : Nat) (hpp : pp ∈ L) (kpp : K pp = 151) (a0 : Int) (la0 : 0 ≤ a0) (ua0 : a0 ≤ 0) (qq : Nat) (hqq : qq ∈ L) (kqq : K qq = 152) (b0 : Int) (lb0 : 0 ≤ b0) (ub0 : b0 ≤ 0) : q_Ct l g K L yX12_copiesRow cX12_copiesRow 5 none 0 0 [.ref pp, .int (q_i a0), .ref qq, .int (q_i b0)] f [(152, 0, 657)] (q_Pv (fun (f1 : Nat → va_E) => True)) := by
  obtain rfl : a0 = 0 := by omega
  obtain rfl : b0 = 0 := by omega
  refine q_ofb (by decide +kernel) hN hT (Nat.le_of_ble_eq_true rfl) ?_
  intro p e s m below meth c ls cx hr hlk hB hl
  have hl : lv_has ls 5 [(0, .ref pp), (1, .int (q_i 0)), (2, .ref qq), (3, .int (q_i 0))] := hl
  have J3 : ∀ (n : Nat) (f3 : Nat → va_E) (v3_1 : Int) (lv3_1 : 0 ≤ v3_1) (uv3_1 : v3_1 ≤ 0) (v3_3 : Int) (lv3_3 : 0 ≤ v3_3) (uv3_3 : v3_3 ≤ 0) (v3_4 : Int) (lv3_4 : 0 ≤ v3_4) (uv3_4 : v3_4 ≤ 658) (hmu : (Int.toNat (2147483647 - v3_4)) < n) (H : Heap) (locs : List Loc) (hB : q_B g K L (fun q => q ∈ L) [(152, 0, 657)] f f3 s H locs) (ls : Array Slot) (hl : lv_has ls 5 [(0, .ref pp), (1, .int (q_i v3_1)), (2, .ref qq), (3, .int (q_i v3_3)), (4, .int (q_i v3_4))]), W p l e { frames := 0, cells := 0, slots := 0, locals := 0 } s m ([.ref pp, .int (q_i 0), .ref qq, .int (q_i 0)] : List Value).toArray below meth c H locs 0 0 (MQ below (q_Q g K L [(152, 0, 657)] f (q_Pv (fun (f1 : Nat → va_E) => True))) ([.ref pp, .int (q_i 0), .ref qq, .int (q_i 0)] : List Value).toArray s 0 0 (fun q => q ∈ L)) (F0 m 3 ls []) := by
    intro n
    induction n with
    | zero =>
      intro f3 v3_1 lv3_1 uv3_1 v3_3 lv3_3 uv3_3 v3_4 lv3_4 uv3_4 hmu
      exact absurd hmu (Nat.not_lt_zero _)
    | succ n ih3 =>
      intro f3 v3_1 lv3_1 uv3_1 v3_3 lv3_3 uv3_3 v3_4 lv3_4 uv3_4 hmu H locs hB ls hl
      refine lv_iload cx.1 cx.2.1 dX12_copiesRow_3 (lv_at hl 4 rfl) ?_
      refine q_sipush cx dX12_copiesRow_5 rfl ?_
      refine q_icge (tgt := 29) cx ⟨by omega, by omega⟩ ⟨by decide, by decide⟩ dX12_copiesRow_8 (by decide) (fun c146 => ?_) (fun c146 => ?_)
      · refine q_vret cx hr hlk hB dX12_copiesRow_29 ?_
        trivial
      · refine q_ald_n cx dX12_copiesRow_11 rfl (lv_at hl 2 rfl) ?_
        refine q_ild_n cx dX12_copiesRow_12 rfl (lv_at hl 3 rfl) ?_
        refine lv_iload cx.1 cx.2.1 dX12_copiesRow_13 (lv_at hl 4 rfl) ?_
        refine q_iadd cx dX12_copiesRow_15 ?_
        refine q_ald_n cx dX12_copiesRow_16 rfl (lv_at hl 0 rfl) ?_
        refine q_ild_n cx dX12_copiesRow_17 rfl (lv_at hl 1 rfl) ?_
        refine lv_iload cx.1 cx.2.1 dX12_copiesRow_18 (lv_at hl 4 rfl) ?_
        refine q_iadd cx dX12_copiesRow_20 ?_
        obtain ⟨x147, ex147⟩ : ∃ zz, q_z f3 pp (Int.toNat (v3_1 + v3_4)) = zz := ⟨_, rfl⟩
        refine q_rald (n := 658) cx hB hpp kpp q_K1 rfl (by omega) (by omega) (by decide) ex147 dX12_copiesRow_21 (fun rx147 lx147 ux147 => ?_)
        refine q_rast (n := 658) cx hB hqq kqq q_K2 rfl (by omega) (by omega) (by decide) ⟨by omega, by omega⟩ (by rw [q_rowE (n := 658) (p := Int.toNat (v3_1 + v3_4)) q_K2 rfl (by omega) (by omega)]; exact lx147) (by rw [q_rowE (n := 658) (p := Int.toNat (v3_1 + v3_4)) q_K2 rfl (by omega) (by omega)]; exact ux147) (q_inWi (lo := 0) (hi := 657) (by decide) (by omega) (by omega)) dX12_copiesRow_22 (fun H locs f149 ef149 z150 hB => ?_)
        refine q_iinc (lv' := [(4, .int (q_i (v3_4 + 1))), (0, .ref pp), (1, .int (q_i v3_1)), (2, .ref qq), (3, .int (q_i v3_3))]) cx dX12_copiesRow_23 hl (k := 4) rfl (by decide) rfl (fun ls hl => ?_)
        refine lv_goto (tgt := 3) cx.1 cx.2.1 dX12_copiesRow_26 (by decide) ?_
        exact ih3 f149 v3_1 (by omega) (by omega) v3_3 (by omega) (by omega) (v3_4 + 1) (by omega) (by omega) (by omega) H locs hB ls (lv_sub hl [1, 2, 3, 4, 0] rfl)
  obtain ⟨H, hH⟩ : ∃ H : Heap, H = s.heap := ⟨_, rfl⟩
  obtain ⟨locs, hlocs⟩ : ∃ z : List Loc, z = [] := ⟨_, rfl⟩
  rw [← hH, ← hlocs] at hB
  rw [← hH, ← hlocs]
  refine q_iconst cx dX12_copiesRow_0 ?_
  refine lv_istore (lv' := [(4, .int (q_i 0)), (0, .ref pp), (1, .int (q_i 0)), (2, .ref qq), (3, .int (q_i 0))]) cx.1 cx.2.1 dX12_copiesRow_1 hl (by decide) rfl (fun ls hl => ?_)
  exact J3 ((Int.toNat (2147483647 - 0)) + 1) f 0 (by decide) (by decide) 0 (by decide) (by decide) 0 (by decide) (by decide) (Nat.lt_succ_self _) H locs hB ls (lv_sub hl [1, 2, 3, 4, 0] rfl)
set_option maxHeartbeats 4000000 in
set_option maxRecDepth 100000 in
theorem r_copiesRow_sr_aw (l : Launch) (g : q_G) {K : Nat → Nat} {L : List Nat} (hN : L.Nodup) {f : Nat → va_E} (hT : q_Ty g K L f) (pp : Nat) (hpp : pp ∈ L) (kpp : K pp = 151) (a0 : Int) (la0 : 0 ≤ a0) (ua0 : a0 ≤ 0) (qq : Nat) (hqq : qq ∈ L) (kqq : K qq = 154) (b0 : Int) (lb0 : 0 ≤ b0) (ub0 : b0 ≤ 0) : q_Ct l g K L yX12_copiesRow cX12_copiesRow 5 none 0 0 [.ref pp, .int (q_i a0), .ref qq, .int (q_i b0)] f [(154, 0, 657)] (q_Pv (fun (f1 : Nat → va_E) => True)) := by
  obtain rfl : a0 = 0 := by omega
  obtain rfl : b0 = 0 := by omega
  refine q_ofb (by decide +kernel) hN hT (Nat.le_of_ble_eq_true rfl) ?_
  intro p e s m below meth c ls cx hr hlk hB hl
  have hl : lv_has ls 5 [(0, .ref pp), (1, .int (q_i 0)), (2, .ref qq), (3, .int (q_i 0))] := hl
  have J3 : ∀ (n : Nat) (f3 : Nat → va_E) (v3_1 : Int) (lv3_1 : 0 ≤ v3_1) (uv3_1 : v3_1 ≤ 0) (v3_3 : Int) (lv3_3 : 0 ≤ v3_3) (uv3_3 : v3_3 ≤ 0) (v3_4 : Int) (lv3_4 : 0 ≤ v3_4) (uv3_4 : v3_4 ≤ 658) (hmu : (Int.toNat (2147483647 - v3_4)) < n) (H : Heap) (locs : List Loc) (hB : q_B g K L (fun q => q ∈ L) [(154, 0, 657)] f f3 s H locs) (ls : Array Slot) (hl : lv_has ls 5 [(0, .ref pp), (1, .int (q_i v3_1)), (2, .ref qq), (3, .int (q_i v3_3)), (4, .int (q_i v3_4))]), W p l e { frames := 0, cells := 0, slots := 0, locals := 0 } s m ([.ref pp, .int (q_i 0), .ref qq, .int (q_i 0)] : List Value).toArray below meth c H locs 0 0 (MQ below (q_Q g K L [(154, 0, 657)] f (q_Pv (fun (f1 : Nat → va_E) => True))) ([.ref pp, .int (q_i 0), .ref qq, .int (q_i 0)] : List Value).toArray s 0 0 (fun q => q ∈ L)) (F0 m 3 ls []) := by
    intro n
    induction n with
    | zero =>
      intro f3 v3_1 lv3_1 uv3_1 v3_3 lv3_3 uv3_3 v3_4 lv3_4 uv3_4 hmu
      exact absurd hmu (Nat.not_lt_zero _)
    | succ n ih3 =>
      intro f3 v3_1 lv3_1 uv3_1 v3_3 lv3_3 uv3_3 v3_4 lv3_4 uv3_4 hmu H locs hB ls hl
      refine lv_iload cx.1 cx.2.1 dX12_copiesRow_3 (lv_at hl 4 rfl) ?_
      refine q_sipush cx dX12_copiesRow_5 rfl ?_
      refine q_icge (tgt := 29) cx ⟨by omega, by omega⟩ ⟨by decide, by decide⟩ dX12_copiesRow_8 (by decide) (fun c146 => ?_) (fun c146 => ?_)
      · refine q_vret cx hr hlk hB dX12_copiesRow_29 ?_
        trivial
      · refine q_ald_n cx dX12_copiesRow_11 rfl (lv_at hl 2 rfl) ?_
        refine q_ild_n cx dX12_copiesRow_12 rfl (lv_at hl 3 rfl) ?_
        refine lv_iload cx.1 cx.2.1 dX12_copiesRow_13 (lv_at hl 4 rfl) ?_
        refine q_iadd cx dX12_copiesRow_15 ?_
        refine q_ald_n cx dX12_copiesRow_16 rfl (lv_at hl 0 rfl) ?_
        refine q_ild_n cx dX12_copiesRow_17 rfl (lv_at hl 1 rfl) ?_
        refine lv_iload cx.1 cx.2.1 dX12_copiesRow_18 (lv_at hl 4 rfl) ?_
        refine q_iadd cx dX12_copiesRow_20 ?_
        obtain ⟨x147, ex147⟩ : ∃ zz, q_z f3 pp (Int.toNat (v3_1 + v3_4)) = zz := ⟨_, rfl⟩
        refine q_rald (n := 658) cx hB hpp kpp q_K1 rfl (by omega) (by omega) (by decide) ex147 dX12_copiesRow_21 (fun rx147 lx147 ux147 => ?_)
        refine q_rast (n := 658) cx hB hqq kqq q_K4 rfl (by omega) (by omega) (by decide) ⟨by omega, by omega⟩ (by rw [q_rowE (n := 658) (p := Int.toNat (v3_1 + v3_4)) q_K4 rfl (by omega) (by omega)]; exact lx147) (by rw [q_rowE (n := 658) (p := Int.toNat (v3_1 + v3_4)) q_K4 rfl (by omega) (by omega)]; exact ux147) (q_inWi (lo := 0) (hi := 657) (by decide) (by omega) (by omega)) dX12_copiesRow_22 (fun H locs f149 ef149 z150 hB => ?_)
        refine q_iinc (lv' := [(4, .int (q_i (v3_4 + 1))), (0, .ref pp), (1, .int (q_i v3_1)), (2, .ref qq), (3, .int (q_i v3_3))]) cx dX12_copiesRow_23 hl (k := 4) rfl (by decide) rfl (fun ls hl => ?_)
        refine lv_goto (tgt := 3) cx.1 cx.2.1 dX12_copiesRow_26 (by decide) ?_
        exact ih3 f149 v3_1 (by omega) (by omega) v3_3 (by omega) (by omega) (v3_4 + 1) (by omega) (by omega) (by omega) H locs hB ls (lv_sub hl [1, 2, 3, 4, 0] rfl)
  obtain ⟨H, hH⟩ : ∃ H : Heap, H = s.heap := ⟨_, rfl⟩
  obtain ⟨locs, hlocs⟩ : ∃ z : List Loc, z = [] := ⟨_, rfl⟩
  rw [← hH, ← hlocs] at hB
  rw [← hH, ← hlocs]
  refine q_iconst cx dX12_copiesRow_0 ?_
  refine lv_istore (lv' := [(4, .int (q_i 0)), (0, .ref pp), (1, .int (q_i 0)), (2, .ref qq), (3, .int (q_i 0))]) cx.1 cx.2.1 dX12_copiesRow_1 hl (by decide) rfl (fun ls hl => ?_)
  exact J3 ((Int.toNat (2147483647 - 0)) + 1) f 0 (by decide) (by decide) 0 (by decide) (by decide) 0 (by decide) (by decide) (Nat.lt_succ_self _) H locs hB ls (lv_sub hl [1, 2, 3, 4, 0] rfl)
set_option maxHeartbeats 4000000 in
set_option maxRecDepth 100000 in
theorem r_copiesRow_aw_sr (l : Launch) (g : q_G) {K : Nat → Nat} {L : List Nat} (hN : L.Nodup) {f : Nat → va_E} (hT : q_Ty g K L f) (pp : Nat) (hpp : pp ∈ L) (kpp : K pp = 154) (a0 : Int) (la0 : 0 ≤ a0) (ua0 : a0 ≤ 0) (qq : Nat) (hqq : qq ∈ L) (kqq : K qq = 151) (b0 : Int) (lb0 : 0 ≤ b0) (ub0 : b0 ≤ 0) : q_Ct l g K L yX12_copiesRow cX12_copiesRow 5 none 0 0 [.ref pp, .int (q_i a0), .ref qq, .int (q_i b0)] f [(151, 0, 657)] (q_Pv (fun (f1 : Nat → va_E) => True)) := by
  obtain rfl : a0 = 0 := by omega
  obtain rfl : b0 = 0 := by omega
  refine q_ofb (by decide +kernel) hN hT (Nat.le_of_ble_eq_true rfl) ?_
  intro p e s m below meth c ls cx hr hlk hB hl
  have hl : lv_has ls 5 [(0, .ref pp), (1, .int (q_i 0)), (2, .ref qq), (3, .int (q_i 0))] := hl
  have J3 : ∀ (n : Nat) (f3 : Nat → va_E) (v3_1 : Int) (lv3_1 : 0 ≤ v3_1) (uv3_1 : v3_1 ≤ 0) (v3_3 : Int) (lv3_3 : 0 ≤ v3_3) (uv3_3 : v3_3 ≤ 0) (v3_4 : Int) (lv3_4 : 0 ≤ v3_4) (uv3_4 : v3_4 ≤ 658) (hmu : (Int.toNat (2147483647 - v3_4)) < n) (H : Heap) (locs : List Loc) (hB : q_B g K L (fun q => q ∈ L) [(151, 0, 657)] f f3 s H locs) (ls : Array Slot) (hl : lv_has ls 5 [(0, .ref pp), (1, .int (q_i v3_1)), (2, .ref qq), (3, .int (q_i v3_3)), (4, .int (q_i v3_4))]), W p l e { frames := 0, cells := 0, slots := 0, locals := 0 } s m ([.ref pp, .int (q_i 0), .ref qq, .int (q_i 0)] : List Value).toArray below meth c H locs 0 0 (MQ below (q_Q g K L [(151, 0, 657)] f (q_Pv (fun (f1 : Nat → va_E) => True))) ([.ref pp, .int (q_i 0), .ref qq, .int (q_i 0)] : List Value).toArray s 0 0 (fun q => q ∈ L)) (F0 m 3 ls []) := by
    intro n
    induction n with
    | zero =>
      intro f3 v3_1 lv3_1 uv3_1 v3_3 lv3_3 uv3_3 v3_4 lv3_4 uv3_4 hmu
      exact absurd hmu (Nat.not_lt_zero _)
    | succ n ih3 =>
      intro f3 v3_1 lv3_1 uv3_1 v3_3 lv3_3 uv3_3 v3_4 lv3_4 uv3_4 hmu H locs hB ls hl
      refine lv_iload cx.1 cx.2.1 dX12_copiesRow_3 (lv_at hl 4 rfl) ?_
      refine q_sipush cx dX12_copiesRow_5 rfl ?_
      refine q_icge (tgt := 29) cx ⟨by omega, by omega⟩ ⟨by decide, by decide⟩ dX12_copiesRow_8 (by decide) (fun c146 => ?_) (fun c146 => ?_)
      · refine q_vret cx hr hlk hB dX12_copiesRow_29 ?_
        trivial
      · refine q_ald_n cx dX12_copiesRow_11 rfl (lv_at hl 2 rfl) ?_
        refine q_ild_n cx dX12_copiesRow_12 rfl (lv_at hl 3 rfl) ?_
        refine lv_iload cx.1 cx.2.1 dX12_copiesRow_13 (lv_at hl 4 rfl) ?_
        refine q_iadd cx dX12_copiesRow_15 ?_
        refine q_ald_n cx dX12_copiesRow_16 rfl (lv_at hl 0 rfl) ?_
        refine q_ild_n cx dX12_copiesRow_17 rfl (lv_at hl 1 rfl) ?_
        refine lv_iload cx.1 cx.2.1 dX12_copiesRow_18 (lv_at hl 4 rfl) ?_
        refine q_iadd cx dX12_copiesRow_20 ?_
        obtain ⟨x147, ex147⟩ : ∃ zz, q_z f3 pp (Int.toNat (v3_1 + v3_4)) = zz := ⟨_, rfl⟩
        refine q_rald (n := 658) cx hB hpp kpp q_K4 rfl (by omega) (by omega) (by decide) ex147 dX12_copiesRow_21 (fun rx147 lx147 ux147 => ?_)
        refine q_rast (n := 658) cx hB hqq kqq q_K1 rfl (by omega) (by omega) (by decide) ⟨by omega, by omega⟩ (by rw [q_rowE (n := 658) (p := Int.toNat (v3_1 + v3_4)) q_K1 rfl (by omega) (by omega)]; exact lx147) (by rw [q_rowE (n := 658) (p := Int.toNat (v3_1 + v3_4)) q_K1 rfl (by omega) (by omega)]; exact ux147) (q_inWi (lo := 0) (hi := 657) (by decide) (by omega) (by omega)) dX12_copiesRow_22 (fun H locs f149 ef149 z150 hB => ?_)
        refine q_iinc (lv' := [(4, .int (q_i (v3_4 + 1))), (0, .ref pp), (1, .int (q_i v3_1)), (2, .ref qq), (3, .int (q_i v3_3))]) cx dX12_copiesRow_23 hl (k := 4) rfl (by decide) rfl (fun ls hl => ?_)
        refine lv_goto (tgt := 3) cx.1 cx.2.1 dX12_copiesRow_26 (by decide) ?_
        exact ih3 f149 v3_1 (by omega) (by omega) v3_3 (by omega) (by omega) (v3_4 + 1) (by omega) (by omega) (by omega) H locs hB ls (lv_sub hl [1, 2, 3, 4, 0] rfl)
  obtain ⟨H, hH⟩ : ∃ H : Heap, H = s.heap := ⟨_, rfl⟩
  obtain ⟨locs, hlocs⟩ : ∃ z : List Loc, z = [] := ⟨_, rfl⟩
  rw [← hH, ← hlocs] at hB
  rw [← hH, ← hlocs]
  refine q_iconst cx dX12_copiesRow_0 ?_
  refine lv_istore (lv' := [(4, .int (q_i 0)), (0, .ref pp), (1, .int (q_i 0)), (2, .ref qq), (3, .int (q_i 0))]) cx.1 cx.2.1 dX12_copiesRow_1 hl (by decide) rfl (fun ls hl => ?_)
  exact J3 ((Int.toNat (2147483647 - 0)) + 1) f 0 (by decide) (by decide) 0 (by decide) (by decide) 0 (by decide) (by decide) (Nat.lt_succ_self _) H locs hB ls (lv_sub hl [1, 2, 3, 4, 0] rfl)
set_option maxHeartbeats 4000000 in
set_option maxRecDepth 100000 in
theorem r_copiesNames_158 (l : Launch) (g : q_G) {K : Nat → Nat} {L : List Nat} (hN : L.Nodup) {f : Nat → va_E} (hT : q_Ty g K L f) (pp : Nat) (hpp : pp ∈ L) (kpp : K pp = 156) (qq : Nat) (hqq : qq ∈ L) (kqq : K qq = 158) : q_Ct l g K L yX12_copiesNames cX12_copiesNames 3 none 0 0 [.ref pp, .ref qq] f [(158, 0, 9)] (q_Pv (fun (f1 : Nat → va_E) => True)) := by
  refine q_ofb (by decide +kernel) hN hT (Nat.le_of_ble_eq_true rfl) ?_
  intro p e s m below meth c ls cx hr hlk hB hl
  have hl : lv_has ls 3 [(0, .ref pp), (1, .ref qq)] := hl
  have J2 : ∀ (n : Nat) (f2 : Nat → va_E) (v2_2 : Int) (lv2_2 : 0 ≤ v2_2) (uv2_2 : v2_2 ≤ 10) (hmu : (Int.toNat (2147483647 - v2_2)) < n) (H : Heap) (locs : List Loc) (hB : q_B g K L (fun q => q ∈ L) [(158, 0, 9)] f f2 s H locs) (ls : Array Slot) (hl : lv_has ls 3 [(0, .ref pp), (1, .ref qq), (2, .int (q_i v2_2))]), W p l e { frames := 0, cells := 0, slots := 0, locals := 0 } s m ([.ref pp, .ref qq] : List Value).toArray below meth c H locs 0 0 (MQ below (q_Q g K L [(158, 0, 9)] f (q_Pv (fun (f1 : Nat → va_E) => True))) ([.ref pp, .ref qq] : List Value).toArray s 0 0 (fun q => q ∈ L)) (F0 m 2 ls []) := by
    intro n
    induction n with
    | zero =>
      intro f2 v2_2 lv2_2 uv2_2 hmu
      exact absurd hmu (Nat.not_lt_zero _)
    | succ n ih2 =>
      intro f2 v2_2 lv2_2 uv2_2 hmu H locs hB ls hl
      refine q_ild_n cx dX12_copiesNames_2 rfl (lv_at hl 2 rfl) ?_
      refine q_bipush cx dX12_copiesNames_3 rfl ?_
      refine q_icge (tgt := 20) cx ⟨by omega, by omega⟩ ⟨by decide, by decide⟩ dX12_copiesNames_5 (by decide) (fun c41 => ?_) (fun c41 => ?_)
      · refine q_vret cx hr hlk hB dX12_copiesNames_20 ?_
        trivial
      · refine q_ald_n cx dX12_copiesNames_8 rfl (lv_at hl 1 rfl) ?_
        refine q_ild_n cx dX12_copiesNames_9 rfl (lv_at hl 2 rfl) ?_
        refine q_ald_n cx dX12_copiesNames_10 rfl (lv_at hl 0 rfl) ?_
        refine q_ild_n cx dX12_copiesNames_11 rfl (lv_at hl 2 rfl) ?_
        obtain ⟨j42, ej42⟩ : ∃ zz, q_j f2 pp (Int.toNat v2_2) = zz := ⟨_, rfl⟩
        refine q_lald (n := 10) cx hB hpp kpp (by decide) rfl rfl (by omega) (by omega) (by decide) rfl ej42 dX12_copiesNames_12 ?_
        refine q_last (n := 10) cx hB hqq kqq (by decide) rfl rfl (by omega) (by omega) (by decide) rfl (q_inWi (lo := 0) (hi := 9) (by decide) (by omega) (by omega)) dX12_copiesNames_13 (fun H locs f43 ef43 z44 hB => ?_)
        refine q_iinc (lv' := [(2, .int (q_i (v2_2 + 1))), (0, .ref pp), (1, .ref qq)]) cx dX12_copiesNames_14 hl (k := 2) rfl (by decide) rfl (fun ls hl => ?_)
        refine lv_goto (tgt := 2) cx.1 cx.2.1 dX12_copiesNames_17 (by decide) ?_
        exact ih2 f43 (v2_2 + 1) (by omega) (by omega) (by omega) H locs hB ls (lv_sub hl [1, 2, 0] rfl)
  obtain ⟨H, hH⟩ : ∃ H : Heap, H = s.heap := ⟨_, rfl⟩
  obtain ⟨locs, hlocs⟩ : ∃ z : List Loc, z = [] := ⟨_, rfl⟩
  rw [← hH, ← hlocs] at hB
  rw [← hH, ← hlocs]
  refine q_iconst cx dX12_copiesNames_0 ?_
  refine lv_istore_n (lv' := [(2, .int (q_i 0)), (0, .ref pp), (1, .ref qq)]) cx.1 cx.2.1 dX12_copiesNames_1 rfl hl (by decide) rfl (fun ls hl => ?_)
  exact J2 ((Int.toNat (2147483647 - 0)) + 1) f 0 (by decide) (by decide) (Nat.lt_succ_self _) H locs hB ls (lv_sub hl [1, 2, 0] rfl)
set_option maxHeartbeats 4000000 in
set_option maxRecDepth 100000 in
theorem r_copiesNames_157 (l : Launch) (g : q_G) {K : Nat → Nat} {L : List Nat} (hN : L.Nodup) {f : Nat → va_E} (hT : q_Ty g K L f) (pp : Nat) (hpp : pp ∈ L) (kpp : K pp = 156) (qq : Nat) (hqq : qq ∈ L) (kqq : K qq = 157) : q_Ct l g K L yX12_copiesNames cX12_copiesNames 3 none 0 0 [.ref pp, .ref qq] f [(157, 0, 9)] (q_Pv (fun (f1 : Nat → va_E) => True)) := by
  refine q_ofb (by decide +kernel) hN hT (Nat.le_of_ble_eq_true rfl) ?_
  intro p e s m below meth c ls cx hr hlk hB hl
  have hl : lv_has ls 3 [(0, .ref pp), (1, .ref qq)] := hl
  have J2 : ∀ (n : Nat) (f2 : Nat → va_E) (v2_2 : Int) (lv2_2 : 0 ≤ v2_2) (uv2_2 : v2_2 ≤ 10) (hmu : (Int.toNat (2147483647 - v2_2)) < n) (H : Heap) (locs : List Loc) (hB : q_B g K L (fun q => q ∈ L) [(157, 0, 9)] f f2 s H locs) (ls : Array Slot) (hl : lv_has ls 3 [(0, .ref pp), (1, .ref qq), (2, .int (q_i v2_2))]), W p l e { frames := 0, cells := 0, slots := 0, locals := 0 } s m ([.ref pp, .ref qq] : List Value).toArray below meth c H locs 0 0 (MQ below (q_Q g K L [(157, 0, 9)] f (q_Pv (fun (f1 : Nat → va_E) => True))) ([.ref pp, .ref qq] : List Value).toArray s 0 0 (fun q => q ∈ L)) (F0 m 2 ls []) := by
    intro n
    induction n with
    | zero =>
      intro f2 v2_2 lv2_2 uv2_2 hmu
      exact absurd hmu (Nat.not_lt_zero _)
    | succ n ih2 =>
      intro f2 v2_2 lv2_2 uv2_2 hmu H locs hB ls hl
      refine q_ild_n cx dX12_copiesNames_2 rfl (lv_at hl 2 rfl) ?_
      refine q_bipush cx dX12_copiesNames_3 rfl ?_
      refine q_icge (tgt := 20) cx ⟨by omega, by omega⟩ ⟨by decide, by decide⟩ dX12_copiesNames_5 (by decide) (fun c41 => ?_) (fun c41 => ?_)
      · refine q_vret cx hr hlk hB dX12_copiesNames_20 ?_
        trivial
      · refine q_ald_n cx dX12_copiesNames_8 rfl (lv_at hl 1 rfl) ?_
        refine q_ild_n cx dX12_copiesNames_9 rfl (lv_at hl 2 rfl) ?_
        refine q_ald_n cx dX12_copiesNames_10 rfl (lv_at hl 0 rfl) ?_
        refine q_ild_n cx dX12_copiesNames_11 rfl (lv_at hl 2 rfl) ?_
        obtain ⟨j42, ej42⟩ : ∃ zz, q_j f2 pp (Int.toNat v2_2) = zz := ⟨_, rfl⟩
        refine q_lald (n := 10) cx hB hpp kpp (by decide) rfl rfl (by omega) (by omega) (by decide) rfl ej42 dX12_copiesNames_12 ?_
        refine q_last (n := 10) cx hB hqq kqq (by decide) rfl rfl (by omega) (by omega) (by decide) rfl (q_inWi (lo := 0) (hi := 9) (by decide) (by omega) (by omega)) dX12_copiesNames_13 (fun H locs f43 ef43 z44 hB => ?_)
        refine q_iinc (lv' := [(2, .int (q_i (v2_2 + 1))), (0, .ref pp), (1, .ref qq)]) cx dX12_copiesNames_14 hl (k := 2) rfl (by decide) rfl (fun ls hl => ?_)
        refine lv_goto (tgt := 2) cx.1 cx.2.1 dX12_copiesNames_17 (by decide) ?_
        exact ih2 f43 (v2_2 + 1) (by omega) (by omega) (by omega) H locs hB ls (lv_sub hl [1, 2, 0] rfl)
  obtain ⟨H, hH⟩ : ∃ H : Heap, H = s.heap := ⟨_, rfl⟩
  obtain ⟨locs, hlocs⟩ : ∃ z : List Loc, z = [] := ⟨_, rfl⟩
  rw [← hH, ← hlocs] at hB
  rw [← hH, ← hlocs]
  refine q_iconst cx dX12_copiesNames_0 ?_
  refine lv_istore_n (lv' := [(2, .int (q_i 0)), (0, .ref pp), (1, .ref qq)]) cx.1 cx.2.1 dX12_copiesNames_1 rfl hl (by decide) rfl (fun ls hl => ?_)
  exact J2 ((Int.toNat (2147483647 - 0)) + 1) f 0 (by decide) (by decide) (Nat.lt_succ_self _) H locs hB ls (lv_sub hl [1, 2, 0] rfl)
set_option maxHeartbeats 4000000 in
set_option maxRecDepth 100000 in
theorem r_laysAside (l : Launch) (g : q_G) {K : Nat → Nat} {L : List Nat} (hN : L.Nodup) {f : Nat → va_E} (hT : q_Ty g K L f) (mo : Nat) (hmo : mo ∈ L) (kmo : K mo = 12) (sr : Nat) (hsr : sr ∈ L) (ksr : K sr = 151) (as : Nat) (has : as ∈ L) (kas : K as = 153) (hr0 : q_r f mo 13 = sr) (hr1 : q_r f mo 15 = as) : q_Ct l g K L yX12_laysAside cX12_laysAside 1 none 1 24 [.ref mo] f [(153, 0, 657)] (q_Pv (fun (f1 : Nat → va_E) => True)) := by
  refine q_ofb (by decide +kernel) hN hT (Nat.le_of_ble_eq_true rfl) ?_
  intro p e s m below meth c ls cx hr hlk hB hl
  have hl : lv_has ls 1 [(0, .ref mo)] := hl
  obtain ⟨H, hH⟩ : ∃ H : Heap, H = s.heap := ⟨_, rfl⟩
  obtain ⟨locs, hlocs⟩ : ∃ z : List Loc, z = [] := ⟨_, rfl⟩
  rw [← hH, ← hlocs] at hB
  rw [← hH, ← hlocs]
  refine q_ald_n cx dX12_laysAside_0 rfl (lv_at hl 0 rfl) ?_
  refine q_gX12_20 cx hB hmo kmo hr0 dX12_laysAside_1 (fun hb8 kb8 => ?_)
  refine q_iconst cx dX12_laysAside_4 ?_
  refine q_ald_n cx dX12_laysAside_5 rfl (lv_at hl 0 rfl) ?_
  refine q_gX12_26 cx hB hmo kmo hr1 dX12_laysAside_6 (fun hb9 kb9 => ?_)
  refine q_iconst cx dX12_laysAside_9 ?_
  refine q_cSv (As := [.ref sr, .int (q_i 0), .ref as, .int (q_i 0)]) (rest := []) cx hB (fun _ h => h) hN (r_copiesRow_sr_as l g hN hB.2.1 sr hsr ksr 0 (by decide) (by decide) as has kas 0 (by decide) (by decide)) q_cX12_154 q_dX12_copiesRow (by decide) rfl rfl hl.1 rfl (Nat.le_of_ble_eq_true rfl) dX12_laysAside_10 (fun H locs f10 h12 hF hB => ?_)
  have z13 : q_r f10 mo 13 = sr := (hF.r hmo (by rw [kmo]; rfl)).trans hr0
  have z14 : q_r f10 mo 15 = as := (hF.r hmo (by rw [kmo]; rfl)).trans hr1
  refine q_vret cx hr hlk hB dX12_laysAside_13 ?_
  trivial
set_option maxHeartbeats 4000000 in
set_option maxRecDepth 100000 in
theorem r_keeps0 (l : Launch) (g : q_G) {K : Nat → Nat} {L : List Nat} (hN : L.Nodup) {f : Nat → va_E} (hT : q_Ty g K L f) (mo : Nat) (hmo : mo ∈ L) (kmo : K mo = 12) (as : Nat) (has : as ∈ L) (kas : K as = 153) (pa : Nat) (hpa : pa ∈ L) (kpa : K pa = 155) (hf0 : q_z f mo 21 = 0) (hr0 : q_r f mo 15 = as) (hr1 : q_r f mo 17 = pa) : q_Ct l g K L yX12_keeps cX12_keeps 2 none 1 24 [.ref mo] f [(155, 0, 657), (12, 21, 21)] (q_Pv (fun (f1 : Nat → va_E) => q_z f1 mo 21 = 1)) := by
  refine q_ofb (by decide +kernel) hN hT (Nat.le_of_ble_eq_true rfl) ?_
  intro p e s m below meth c ls cx hr hlk hB hl
  have hl : lv_has ls 2 [(0, .ref mo)] := hl
  obtain ⟨H, hH⟩ : ∃ H : Heap, H = s.heap := ⟨_, rfl⟩
  obtain ⟨locs, hlocs⟩ : ∃ z : List Loc, z = [] := ⟨_, rfl⟩
  rw [← hH, ← hlocs] at hB
  rw [← hH, ← hlocs]
  refine q_ald_n cx dX12_keeps_0 rfl (lv_at hl 0 rfl) ?_
  refine q_gX12_158 cx hB hmo kmo hf0 dX12_keeps_1 (fun lb17 ub17 => ?_)
  refine q_bipush cx dX12_keeps_4 rfl ?_
  refine q_icne (tgt := 55) cx ⟨by decide, by decide⟩ ⟨by decide, by decide⟩ dX12_keeps_6 (by decide) (fun c18 => ?_) (fun c18 => ?_)
  · refine q_ald_n cx dX12_keeps_55 rfl (lv_at hl 0 rfl) ?_
    refine q_gX12_26 cx hB hmo kmo hr0 dX12_keeps_56 (fun hb19 kb19 => ?_)
    refine q_iconst cx dX12_keeps_59 ?_
    refine q_ald_n cx dX12_keeps_60 rfl (lv_at hl 0 rfl) ?_
    refine q_gX12_32 cx hB hmo kmo hr1 dX12_keeps_61 (fun hb20 kb20 => ?_)
    refine q_sipush cx dX12_keeps_64 rfl ?_
    refine q_ald_n cx dX12_keeps_67 rfl (lv_at hl 0 rfl) ?_
    refine q_gX12_158 cx hB hmo kmo hf0 dX12_keeps_68 (fun lb21 ub21 => ?_)
    refine q_imul cx dX12_keeps_71 ?_
    refine q_cSv (As := [.ref as, .int (q_i 0), .ref pa, .int (q_i (658 * 0))]) (rest := []) cx hB (fun _ h => h) hN (r_copiesRow_as_pa l g hN hB.2.1 as has kas 0 (by decide) (by decide) pa hpa kpa (658 * 0) (by decide) (by decide)) q_cX12_154 q_dX12_copiesRow (by decide) rfl rfl hl.1 rfl (Nat.le_of_ble_eq_true rfl) dX12_keeps_72 (fun H locs f22 h24 hF hB => ?_)
    have z25 : q_z f22 mo 21 = 0 := (hF.z hmo (by rw [kmo]; rfl)).trans hf0
    have z26 : q_r f22 mo 15 = as := (hF.r hmo (by rw [kmo]; rfl)).trans hr0
    have z27 : q_r f22 mo 17 = pa := (hF.r hmo (by rw [kmo]; rfl)).trans hr1
    refine q_ald_n cx dX12_keeps_75 rfl (lv_at hl 0 rfl) ?_
    refine lv_dup cx.1 cx.2.1 dX12_keeps_76 rfl ?_
    refine q_gX12_158 cx hB hmo kmo z25 dX12_keeps_77 (fun lb28 ub28 => ?_)
    refine q_iconst cx dX12_keeps_80 ?_
    refine q_iadd cx dX12_keeps_81 ?_
    refine q_pX12_158 cx hB hmo kmo ⟨by decide, by decide⟩ (by decide) (by decide) rfl dX12_keeps_82 (fun H locs f29 ef29 z30 hB => ?_)
    have z31 : q_r f29 mo 15 = as := by rw [ef29, q_setr (Or.inr (by decide))]; exact z26
    have z32 : q_r f29 mo 17 = pa := by rw [ef29, q_setr (Or.inr (by decide))]; exact z27
    refine q_vret cx hr hlk hB dX12_keeps_85 ?_
    exact (by omega)
  · exact absurd c18 (by omega)
set_option maxHeartbeats 4000000 in
set_option maxRecDepth 100000 in
theorem r_kept0 (l : Launch) (g : q_G) {K : Nat → Nat} {L : List Nat} (hN : L.Nodup) {f : Nat → va_E} (hT : q_Ty g K L f) (mo : Nat) (hmo : mo ∈ L) (kmo : K mo = 12) (a0 : Int) (la0 : (-2147483648) ≤ a0) (ua0 : a0 ≤ 2147483647) (as : Nat) (has : as ∈ L) (kas : K as = 153) (pa : Nat) (hpa : pa ∈ L) (kpa : K pa = 155) (hf0 : q_z f mo 21 = 0) (hr0 : q_r f mo 15 = as) (hr1 : q_r f mo 17 = pa) : q_Ct l g K L yX12_kept cX12_kept 2 (some .int) 2 45 [.ref mo, .int (q_i a0)] f [(155, 0, 657), (12, 21, 21)] (q_Pi (fun (z : Int) (f1 : Nat → va_E) => z = a0)) := by
  refine q_ofb (by decide +kernel) hN hT (Nat.le_of_ble_eq_true rfl) ?_
  intro p e s m below meth c ls cx hr hlk hB hl
  have hl : lv_has ls 2 [(0, .ref mo), (1, .int (q_i a0))] := hl
  obtain ⟨H, hH⟩ : ∃ H : Heap, H = s.heap := ⟨_, rfl⟩
  obtain ⟨locs, hlocs⟩ : ∃ z : List Loc, z = [] := ⟨_, rfl⟩
  rw [← hH, ← hlocs] at hB
  rw [← hH, ← hlocs]
  refine q_ald_n cx dX12_kept_0 rfl (lv_at hl 0 rfl) ?_
  refine q_cVv (As := []) (rest := []) cx hB (fun _ h => h) hN hmo kmo (by decide) rfl (r_keeps0 l g hN hB.2.1 mo hmo kmo as has kas pa hpa kpa hf0 hr0 hr1) q_cX12_161 q_dX12_keeps (by decide) rfl rfl hl.1 rfl (Nat.le_of_ble_eq_true rfl) dX12_kept_1 (fun H locs f7 h9 hF hB => ?_)
  have z10 := h9
  have z11 : q_r f7 mo 15 = as := (hF.r hmo (by rw [kmo]; rfl)).trans hr0
  have z12 : q_r f7 mo 17 = pa := (hF.r hmo (by rw [kmo]; rfl)).trans hr1
  refine q_ild_n cx dX12_kept_4 rfl (lv_at hl 1 rfl) ?_
  refine q_iret cx hr hlk hB dX12_kept_5 ⟨by omega, by omega⟩ ?_
  exact rfl
set_option maxHeartbeats 4000000 in
set_option maxRecDepth 100000 in
theorem r_leaves (l : Launch) (g : q_G) {K : Nat → Nat} {L : List Nat} (hN : L.Nodup) {f : Nat → va_E} (hT : q_Ty g K L f) (mo : Nat) (hmo : mo ∈ L) (kmo : K mo = 12) (sr : Nat) (hsr : sr ∈ L) (ksr : K sr = 151) (aw : Nat) (haw : aw ∈ L) (kaw : K aw = 154) (hr0 : q_r f mo 13 = sr) (hr1 : q_r f mo 16 = aw) : q_Ct l g K L yX12_leaves cX12_leaves 1 none 1 24 [.ref mo] f [(154, 0, 657)] (q_Pv (fun (f1 : Nat → va_E) => True)) := by
  refine q_ofb (by decide +kernel) hN hT (Nat.le_of_ble_eq_true rfl) ?_
  intro p e s m below meth c ls cx hr hlk hB hl
  have hl : lv_has ls 1 [(0, .ref mo)] := hl
  obtain ⟨H, hH⟩ : ∃ H : Heap, H = s.heap := ⟨_, rfl⟩
  obtain ⟨locs, hlocs⟩ : ∃ z : List Loc, z = [] := ⟨_, rfl⟩
  rw [← hH, ← hlocs] at hB
  rw [← hH, ← hlocs]
  refine q_ald_n cx dX12_leaves_0 rfl (lv_at hl 0 rfl) ?_
  refine q_gX12_20 cx hB hmo kmo hr0 dX12_leaves_1 (fun hb8 kb8 => ?_)
  refine q_iconst cx dX12_leaves_4 ?_
  refine q_ald_n cx dX12_leaves_5 rfl (lv_at hl 0 rfl) ?_
  refine q_gX12_29 cx hB hmo kmo hr1 dX12_leaves_6 (fun hb9 kb9 => ?_)
  refine q_iconst cx dX12_leaves_9 ?_
  refine q_cSv (As := [.ref sr, .int (q_i 0), .ref aw, .int (q_i 0)]) (rest := []) cx hB (fun _ h => h) hN (r_copiesRow_sr_aw l g hN hB.2.1 sr hsr ksr 0 (by decide) (by decide) aw haw kaw 0 (by decide) (by decide)) q_cX12_154 q_dX12_copiesRow (by decide) rfl rfl hl.1 rfl (Nat.le_of_ble_eq_true rfl) dX12_leaves_10 (fun H locs f10 h12 hF hB => ?_)
  have z13 : q_r f10 mo 13 = sr := (hF.r hmo (by rw [kmo]; rfl)).trans hr0
  have z14 : q_r f10 mo 16 = aw := (hF.r hmo (by rw [kmo]; rfl)).trans hr1
  refine q_vret cx hr hlk hB dX12_leaves_13 ?_
  trivial
set_option maxHeartbeats 4000000 in
set_option maxRecDepth 100000 in
theorem r_comesBack (l : Launch) (g : q_G) {K : Nat → Nat} {L : List Nat} (hN : L.Nodup) {f : Nat → va_E} (hT : q_Ty g K L f) (mo : Nat) (hmo : mo ∈ L) (kmo : K mo = 12) (a0 : Int) (la0 : (-2147483648) ≤ a0) (ua0 : a0 ≤ 2147483647) (sr : Nat) (hsr : sr ∈ L) (ksr : K sr = 151) (aw : Nat) (haw : aw ∈ L) (kaw : K aw = 154) (hr0 : q_r f mo 13 = sr) (hr1 : q_r f mo 16 = aw) : q_Ct l g K L yX12_comesBack cX12_comesBack 2 (some .int) 1 24 [.ref mo, .int (q_i a0)] f [(151, 0, 657)] (q_Pi (fun (z : Int) (f1 : Nat → va_E) => z = a0)) := by
  refine q_ofb (by decide +kernel) hN hT (Nat.le_of_ble_eq_true rfl) ?_
  intro p e s m below meth c ls cx hr hlk hB hl
  have hl : lv_has ls 2 [(0, .ref mo), (1, .int (q_i a0))] := hl
  obtain ⟨H, hH⟩ : ∃ H : Heap, H = s.heap := ⟨_, rfl⟩
  obtain ⟨locs, hlocs⟩ : ∃ z : List Loc, z = [] := ⟨_, rfl⟩
  rw [← hH, ← hlocs] at hB
  rw [← hH, ← hlocs]
  refine q_ald_n cx dX12_comesBack_0 rfl (lv_at hl 0 rfl) ?_
  refine q_gX12_29 cx hB hmo kmo hr1 dX12_comesBack_1 (fun hb8 kb8 => ?_)
  refine q_iconst cx dX12_comesBack_4 ?_
  refine q_ald_n cx dX12_comesBack_5 rfl (lv_at hl 0 rfl) ?_
  refine q_gX12_20 cx hB hmo kmo hr0 dX12_comesBack_6 (fun hb9 kb9 => ?_)
  refine q_iconst cx dX12_comesBack_9 ?_
  refine q_cSv (As := [.ref aw, .int (q_i 0), .ref sr, .int (q_i 0)]) (rest := []) cx hB (fun _ h => h) hN (r_copiesRow_aw_sr l g hN hB.2.1 aw haw kaw 0 (by decide) (by decide) sr hsr ksr 0 (by decide) (by decide)) q_cX12_154 q_dX12_copiesRow (by decide) rfl rfl hl.1 rfl (Nat.le_of_ble_eq_true rfl) dX12_comesBack_10 (fun H locs f10 h12 hF hB => ?_)
  have z13 : q_r f10 mo 13 = sr := (hF.r hmo (by rw [kmo]; rfl)).trans hr0
  have z14 : q_r f10 mo 16 = aw := (hF.r hmo (by rw [kmo]; rfl)).trans hr1
  refine q_ild_n cx dX12_comesBack_13 rfl (lv_at hl 1 rfl) ?_
  refine q_iret cx hr hlk hB dX12_comesBack_14 ⟨by omega, by omega⟩ ?_
  exact rfl
set_option maxHeartbeats 4000000 in
set_option maxRecDepth 100000 in
theorem r_clears (l : Launch) (g : q_G) {K : Nat → Nat} {L : List Nat} (hN : L.Nodup) {f : Nat → va_E} (hT : q_Ty g K L f) (mo : Nat) (hmo : mo ∈ L) (kmo : K mo = 12) (sr : Nat) (hsr : sr ∈ L) (ksr : K sr = 151) (nm : Nat) (hnm : nm ∈ L) (knm : K nm = 156) (hr0 : q_r f mo 13 = sr) (hr1 : q_r f mo 18 = nm) : q_Ct l g K L yX12_clears cX12_clears 2 none 0 0 [.ref mo] f [(151, 0, 657), (156, 0, 9)] (q_Pv (fun (f1 : Nat → va_E) => q_z f1 sr 0 = 0 ∧ q_z f1 sr 1 = 0 ∧ q_z f1 sr 2 = 12 ∧ q_z f1 sr 3 = 0 ∧ q_z f1 sr 4 = 0 ∧ q_z f1 sr 8 = 3 ∧ q_z f1 sr 9 = 0 ∧ q_z f1 sr 5 = 1 ∧ q_z f1 sr 6 = 2 ∧ q_z f1 sr 7 = 5)) := by
  refine q_ofb (by decide +kernel) hN hT (Nat.le_of_ble_eq_true rfl) ?_
  intro p e s m below meth c ls cx hr hlk hB hl
  have hl : lv_has ls 2 [(0, .ref mo)] := hl
  have J24 : ∀ (n : Nat) (f24 : Nat → va_E) (v24_1 : Int) (lv24_1 : 0 ≤ v24_1) (uv24_1 : v24_1 ≤ 10) (w24_sr_0 : Int) (lw24_sr_0 : 0 ≤ w24_sr_0) (uw24_sr_0 : w24_sr_0 ≤ 0) (w24_sr_1 : Int) (lw24_sr_1 : 0 ≤ w24_sr_1) (uw24_sr_1 : w24_sr_1 ≤ 0) (w24_sr_3 : Int) (lw24_sr_3 : 0 ≤ w24_sr_3) (uw24_sr_3 : w24_sr_3 ≤ 0) (w24_sr_4 : Int) (lw24_sr_4 : 0 ≤ w24_sr_4) (uw24_sr_4 : w24_sr_4 ≤ 0) (w24_sr_9 : Int) (lw24_sr_9 : 0 ≤ w24_sr_9) (uw24_sr_9 : w24_sr_9 ≤ 0) (hj_sr_0 : q_z f24 sr 0 = w24_sr_0) (hj_sr_1 : q_z f24 sr 1 = w24_sr_1) (hj_sr_3 : q_z f24 sr 3 = w24_sr_3) (hj_sr_4 : q_z f24 sr 4 = w24_sr_4) (hj_sr_9 : q_z f24 sr 9 = w24_sr_9) (hq_mo_13 : q_r f24 mo 13 = sr) (hq_mo_18 : q_r f24 mo 18 = nm) (hmu : (Int.toNat (2147483647 - v24_1)) < n) (H : Heap) (locs : List Loc) (hB : q_B g K L (fun q => q ∈ L) [(151, 0, 657), (156, 0, 9)] f f24 s H locs) (ls : Array Slot) (hl : lv_has ls 2 [(0, .ref mo), (1, .int (q_i v24_1))]), W p l e { frames := 0, cells := 0, slots := 0, locals := 0 } s m ([.ref mo] : List Value).toArray below meth c H locs 0 0 (MQ below (q_Q g K L [(151, 0, 657), (156, 0, 9)] f (q_Pv (fun (f1 : Nat → va_E) => q_z f1 sr 0 = 0 ∧ q_z f1 sr 1 = 0 ∧ q_z f1 sr 2 = 12 ∧ q_z f1 sr 3 = 0 ∧ q_z f1 sr 4 = 0 ∧ q_z f1 sr 8 = 3 ∧ q_z f1 sr 9 = 0 ∧ q_z f1 sr 5 = 1 ∧ q_z f1 sr 6 = 2 ∧ q_z f1 sr 7 = 5))) ([.ref mo] : List Value).toArray s 0 0 (fun q => q ∈ L)) (F0 m 24 ls []) := by
    intro n
    induction n with
    | zero =>
      intro f24 v24_1 lv24_1 uv24_1 w24_sr_0 lw24_sr_0 uw24_sr_0 w24_sr_1 lw24_sr_1 uw24_sr_1 w24_sr_3 lw24_sr_3 uw24_sr_3 w24_sr_4 lw24_sr_4 uw24_sr_4 w24_sr_9 lw24_sr_9 uw24_sr_9 hj_sr_0 hj_sr_1 hj_sr_3 hj_sr_4 hj_sr_9 hq_mo_13 hq_mo_18 hmu
      exact absurd hmu (Nat.not_lt_zero _)
    | succ n ih24 =>
      intro f24 v24_1 lv24_1 uv24_1 w24_sr_0 lw24_sr_0 uw24_sr_0 w24_sr_1 lw24_sr_1 uw24_sr_1 w24_sr_3 lw24_sr_3 uw24_sr_3 w24_sr_4 lw24_sr_4 uw24_sr_4 w24_sr_9 lw24_sr_9 uw24_sr_9 hj_sr_0 hj_sr_1 hj_sr_3 hj_sr_4 hj_sr_9 hq_mo_13 hq_mo_18 hmu H locs hB ls hl
      refine q_ild_n cx dX12_clears_24 rfl (lv_at hl 1 rfl) ?_
      refine q_bipush cx dX12_clears_25 rfl ?_
      refine q_icge (tgt := 43) cx ⟨by omega, by omega⟩ ⟨by decide, by decide⟩ dX12_clears_27 (by decide) (fun c350 => ?_) (fun c350 => ?_)
      · refine q_ald_n cx dX12_clears_43 rfl (lv_at hl 0 rfl) ?_
        refine q_gX12_20 cx hB hmo kmo hq_mo_13 dX12_clears_44 (fun hb351 kb351 => ?_)
        refine q_iconst cx dX12_clears_47 ?_
        refine q_bipush cx dX12_clears_48 rfl ?_
        refine q_iast (lo := 0) (hi := 60) (n := 658) cx hB hsr ksr (by decide) rfl rfl (by decide) (by decide) (by decide) rfl ⟨by decide, by decide⟩ (by decide) (by decide) rfl dX12_clears_50 (fun H locs f352 ef352 z353 hB => ?_)
        have z354 : q_z f352 sr 0 = w24_sr_0 := by rw [ef352, q_setz (Or.inr (by decide))]; exact hj_sr_0
        have z355 : q_z f352 sr 1 = w24_sr_1 := by rw [ef352, q_setz (Or.inr (by decide))]; exact hj_sr_1
        have z356 : q_z f352 sr 3 = w24_sr_3 := by rw [ef352, q_setz (Or.inr (by decide))]; exact hj_sr_3
        have z357 : q_z f352 sr 4 = w24_sr_4 := by rw [ef352, q_setz (Or.inr (by decide))]; exact hj_sr_4
        have z358 : q_z f352 sr 9 = w24_sr_9 := by rw [ef352, q_setz (Or.inr (by decide))]; exact hj_sr_9
        have z359 : q_r f352 mo 13 = sr := by rw [ef352, q_setr (Or.inr (by decide))]; exact hq_mo_13
        have z360 : q_r f352 mo 18 = nm := by rw [ef352, q_setr (Or.inr (by decide))]; exact hq_mo_18
        refine q_ald_n cx dX12_clears_51 rfl (lv_at hl 0 rfl) ?_
        refine q_gX12_20 cx hB hmo kmo z359 dX12_clears_52 (fun hb361 kb361 => ?_)
        refine q_iconst cx dX12_clears_55 ?_
        refine q_iconst cx dX12_clears_56 ?_
        refine q_iast (lo := 0) (hi := 99) (n := 658) cx hB hsr ksr (by decide) rfl rfl (by decide) (by decide) (by decide) rfl ⟨by decide, by decide⟩ (by decide) (by decide) rfl dX12_clears_57 (fun H locs f362 ef362 z363 hB => ?_)
        have z364 : q_z f362 sr 0 = w24_sr_0 := by rw [ef362, q_setz (Or.inr (by decide))]; exact z354
        have z365 : q_z f362 sr 1 = w24_sr_1 := by rw [ef362, q_setz (Or.inr (by decide))]; exact z355
        have z366 : q_z f362 sr 3 = w24_sr_3 := by rw [ef362, q_setz (Or.inr (by decide))]; exact z356
        have z367 : q_z f362 sr 4 = w24_sr_4 := by rw [ef362, q_setz (Or.inr (by decide))]; exact z357
        have z368 : q_z f362 sr 9 = w24_sr_9 := by rw [ef362, q_setz (Or.inr (by decide))]; exact z358
        have z369 : q_z f362 sr 2 = 12 := by rw [ef362, q_setz (Or.inr (by decide))]; exact z353
        have z370 : q_r f362 mo 13 = sr := by rw [ef362, q_setr (Or.inr (by decide))]; exact z359
        have z371 : q_r f362 mo 18 = nm := by rw [ef362, q_setr (Or.inr (by decide))]; exact z360
        refine q_ald_n cx dX12_clears_58 rfl (lv_at hl 0 rfl) ?_
        refine q_gX12_20 cx hB hmo kmo z370 dX12_clears_59 (fun hb372 kb372 => ?_)
        refine q_bipush cx dX12_clears_62 rfl ?_
        refine q_iconst cx dX12_clears_64 ?_
        refine q_iast (lo := 0) (hi := 99) (n := 658) cx hB hsr ksr (by decide) rfl rfl (by decide) (by decide) (by decide) rfl ⟨by decide, by decide⟩ (by decide) (by decide) rfl dX12_clears_65 (fun H locs f373 ef373 z374 hB => ?_)
        have z375 : q_z f373 sr 0 = w24_sr_0 := by rw [ef373, q_setz (Or.inr (by decide))]; exact z364
        have z376 : q_z f373 sr 1 = w24_sr_1 := by rw [ef373, q_setz (Or.inr (by decide))]; exact z365
        have z377 : q_z f373 sr 3 = w24_sr_3 := by rw [ef373, q_setz (Or.inr (by decide))]; exact z366
        have z378 : q_z f373 sr 4 = w24_sr_4 := by rw [ef373, q_setz (Or.inr (by decide))]; exact z367
        have z379 : q_z f373 sr 9 = w24_sr_9 := by rw [ef373, q_setz (Or.inr (by decide))]; exact z368
        have z380 : q_z f373 sr 2 = 12 := by rw [ef373, q_setz (Or.inr (by decide))]; exact z369
        have z381 : q_z f373 sr 5 = 1 := by rw [ef373, q_setz (Or.inr (by decide))]; exact z363
        have z382 : q_r f373 mo 13 = sr := by rw [ef373, q_setr (Or.inr (by decide))]; exact z370
        have z383 : q_r f373 mo 18 = nm := by rw [ef373, q_setr (Or.inr (by decide))]; exact z371
        refine q_ald_n cx dX12_clears_66 rfl (lv_at hl 0 rfl) ?_
        refine q_gX12_20 cx hB hmo kmo z382 dX12_clears_67 (fun hb384 kb384 => ?_)
        refine q_bipush cx dX12_clears_70 rfl ?_
        refine q_iconst cx dX12_clears_72 ?_
        refine q_iast (lo := 0) (hi := 99) (n := 658) cx hB hsr ksr (by decide) rfl rfl (by decide) (by decide) (by decide) rfl ⟨by decide, by decide⟩ (by decide) (by decide) rfl dX12_clears_73 (fun H locs f385 ef385 z386 hB => ?_)
        have z387 : q_z f385 sr 0 = w24_sr_0 := by rw [ef385, q_setz (Or.inr (by decide))]; exact z375
        have z388 : q_z f385 sr 1 = w24_sr_1 := by rw [ef385, q_setz (Or.inr (by decide))]; exact z376
        have z389 : q_z f385 sr 3 = w24_sr_3 := by rw [ef385, q_setz (Or.inr (by decide))]; exact z377
        have z390 : q_z f385 sr 4 = w24_sr_4 := by rw [ef385, q_setz (Or.inr (by decide))]; exact z378
        have z391 : q_z f385 sr 9 = w24_sr_9 := by rw [ef385, q_setz (Or.inr (by decide))]; exact z379
        have z392 : q_z f385 sr 2 = 12 := by rw [ef385, q_setz (Or.inr (by decide))]; exact z380
        have z393 : q_z f385 sr 5 = 1 := by rw [ef385, q_setz (Or.inr (by decide))]; exact z381
        have z394 : q_z f385 sr 6 = 2 := by rw [ef385, q_setz (Or.inr (by decide))]; exact z374
        have z395 : q_r f385 mo 13 = sr := by rw [ef385, q_setr (Or.inr (by decide))]; exact z382
        have z396 : q_r f385 mo 18 = nm := by rw [ef385, q_setr (Or.inr (by decide))]; exact z383
        refine q_ald_n cx dX12_clears_74 rfl (lv_at hl 0 rfl) ?_
        refine q_gX12_20 cx hB hmo kmo z395 dX12_clears_75 (fun hb397 kb397 => ?_)
        refine q_bipush cx dX12_clears_78 rfl ?_
        refine q_iconst cx dX12_clears_80 ?_
        refine q_iast (lo := 0) (hi := 9) (n := 658) cx hB hsr ksr (by decide) rfl rfl (by decide) (by decide) (by decide) rfl ⟨by decide, by decide⟩ (by decide) (by decide) rfl dX12_clears_81 (fun H locs f398 ef398 z399 hB => ?_)
        have z400 : q_z f398 sr 0 = w24_sr_0 := by rw [ef398, q_setz (Or.inr (by decide))]; exact z387
        have z401 : q_z f398 sr 1 = w24_sr_1 := by rw [ef398, q_setz (Or.inr (by decide))]; exact z388
        have z402 : q_z f398 sr 3 = w24_sr_3 := by rw [ef398, q_setz (Or.inr (by decide))]; exact z389
        have z403 : q_z f398 sr 4 = w24_sr_4 := by rw [ef398, q_setz (Or.inr (by decide))]; exact z390
        have z404 : q_z f398 sr 9 = w24_sr_9 := by rw [ef398, q_setz (Or.inr (by decide))]; exact z391
        have z405 : q_z f398 sr 2 = 12 := by rw [ef398, q_setz (Or.inr (by decide))]; exact z392
        have z406 : q_z f398 sr 5 = 1 := by rw [ef398, q_setz (Or.inr (by decide))]; exact z393
        have z407 : q_z f398 sr 6 = 2 := by rw [ef398, q_setz (Or.inr (by decide))]; exact z394
        have z408 : q_z f398 sr 7 = 5 := by rw [ef398, q_setz (Or.inr (by decide))]; exact z386
        have z409 : q_r f398 mo 13 = sr := by rw [ef398, q_setr (Or.inr (by decide))]; exact z395
        have z410 : q_r f398 mo 18 = nm := by rw [ef398, q_setr (Or.inr (by decide))]; exact z396
        refine q_vret cx hr hlk hB dX12_clears_82 ?_
        exact ⟨(by omega), (by omega), z405, (by omega), (by omega), z399, (by omega), z406, z407, z408⟩
      · refine q_ald_n cx dX12_clears_30 rfl (lv_at hl 0 rfl) ?_
        refine q_gX12_35 cx hB hmo kmo hq_mo_18 dX12_clears_31 (fun hb411 kb411 => ?_)
        refine q_ild_n cx dX12_clears_34 rfl (lv_at hl 1 rfl) ?_
        refine q_lconst (z := 0) cx (by decide) dX12_clears_35 ?_
        refine q_last (n := 10) cx hB hnm knm (by decide) rfl rfl (by omega) (by omega) (by decide) rfl (q_inWi (lo := 0) (hi := 9) (by decide) (by omega) (by omega)) dX12_clears_36 (fun H locs f412 ef412 z413 hB => ?_)
        have z414 : q_z f412 sr 0 = w24_sr_0 := by rw [ef412, q_setz (Or.inl (fun q => by rw [q, knm] at ksr; exact absurd ksr (by decide)))]; exact hj_sr_0
        have z415 : q_z f412 sr 1 = w24_sr_1 := by rw [ef412, q_setz (Or.inl (fun q => by rw [q, knm] at ksr; exact absurd ksr (by decide)))]; exact hj_sr_1
        have z416 : q_z f412 sr 3 = w24_sr_3 := by rw [ef412, q_setz (Or.inl (fun q => by rw [q, knm] at ksr; exact absurd ksr (by decide)))]; exact hj_sr_3
        have z417 : q_z f412 sr 4 = w24_sr_4 := by rw [ef412, q_setz (Or.inl (fun q => by rw [q, knm] at ksr; exact absurd ksr (by decide)))]; exact hj_sr_4
        have z418 : q_z f412 sr 9 = w24_sr_9 := by rw [ef412, q_setz (Or.inl (fun q => by rw [q, knm] at ksr; exact absurd ksr (by decide)))]; exact hj_sr_9
        have z419 : q_r f412 mo 13 = sr := by rw [ef412, q_setr (Or.inl (fun q => by rw [q, knm] at kmo; exact absurd kmo (by decide)))]; exact hq_mo_13
        have z420 : q_r f412 mo 18 = nm := by rw [ef412, q_setr (Or.inl (fun q => by rw [q, knm] at kmo; exact absurd kmo (by decide)))]; exact hq_mo_18
        refine q_iinc (lv' := [(1, .int (q_i (v24_1 + 1))), (0, .ref mo)]) cx dX12_clears_37 hl (k := 1) rfl (by decide) rfl (fun ls hl => ?_)
        refine lv_goto (tgt := 24) cx.1 cx.2.1 dX12_clears_40 (by decide) ?_
        exact ih24 f412 (v24_1 + 1) (by omega) (by omega) w24_sr_0 (by omega) (by omega) w24_sr_1 (by omega) (by omega) w24_sr_3 (by omega) (by omega) w24_sr_4 (by omega) (by omega) w24_sr_9 (by omega) (by omega) z414 z415 z416 z417 z418 z419 z420 (by omega) H locs hB ls (lv_sub hl [1, 0] rfl)
  have J2 : ∀ (n : Nat) (f2 : Nat → va_E) (v2_1 : Int) (lv2_1 : 0 ≤ v2_1) (uv2_1 : v2_1 ≤ 658) (hq_mo_13 : q_r f2 mo 13 = sr) (hq_mo_18 : q_r f2 mo 18 = nm) (hcl : ∀ j : Nat, (j : Int) < v2_1 → q_z f2 sr j = 0) (hmu : (Int.toNat (2147483647 - v2_1)) < n) (H : Heap) (locs : List Loc) (hB : q_B g K L (fun q => q ∈ L) [(151, 0, 657), (156, 0, 9)] f f2 s H locs) (ls : Array Slot) (hl : lv_has ls 2 [(0, .ref mo), (1, .int (q_i v2_1))]), W p l e { frames := 0, cells := 0, slots := 0, locals := 0 } s m ([.ref mo] : List Value).toArray below meth c H locs 0 0 (MQ below (q_Q g K L [(151, 0, 657), (156, 0, 9)] f (q_Pv (fun (f1 : Nat → va_E) => q_z f1 sr 0 = 0 ∧ q_z f1 sr 1 = 0 ∧ q_z f1 sr 2 = 12 ∧ q_z f1 sr 3 = 0 ∧ q_z f1 sr 4 = 0 ∧ q_z f1 sr 8 = 3 ∧ q_z f1 sr 9 = 0 ∧ q_z f1 sr 5 = 1 ∧ q_z f1 sr 6 = 2 ∧ q_z f1 sr 7 = 5))) ([.ref mo] : List Value).toArray s 0 0 (fun q => q ∈ L)) (F0 m 2 ls []) := by
    intro n
    induction n with
    | zero =>
      intro f2 v2_1 lv2_1 uv2_1 hq_mo_13 hq_mo_18 hcl hmu
      exact absurd hmu (Nat.not_lt_zero _)
    | succ n ih2 =>
      intro f2 v2_1 lv2_1 uv2_1 hq_mo_13 hq_mo_18 hcl hmu H locs hB ls hl
      refine q_ild_n cx dX12_clears_2 rfl (lv_at hl 1 rfl) ?_
      refine q_sipush cx dX12_clears_3 rfl ?_
      refine q_icge (tgt := 22) cx ⟨by omega, by omega⟩ ⟨by decide, by decide⟩ dX12_clears_6 (by decide) (fun c421 => ?_) (fun c421 => ?_)
      · have z422 : q_z f2 sr 0 = 0 := hcl 0 (by omega)
        have z423 : q_z f2 sr 1 = 0 := hcl 1 (by omega)
        have z424 : q_z f2 sr 3 = 0 := hcl 3 (by omega)
        have z425 : q_z f2 sr 4 = 0 := hcl 4 (by omega)
        have z426 : q_z f2 sr 9 = 0 := hcl 9 (by omega)
        refine q_iconst cx dX12_clears_22 ?_
        refine lv_istore_n (lv' := [(1, .int (q_i 0)), (0, .ref mo)]) cx.1 cx.2.1 dX12_clears_23 rfl hl (by decide) rfl (fun ls hl => ?_)
        exact J24 ((Int.toNat (2147483647 - 0)) + 1) f2 0 (by decide) (by decide) 0 (by decide) (by decide) 0 (by decide) (by decide) 0 (by decide) (by decide) 0 (by decide) (by decide) 0 (by decide) (by decide) z422 z423 z424 z425 z426 hq_mo_13 hq_mo_18 (Nat.lt_succ_self _) H locs hB ls (lv_sub hl [1, 0] rfl)
      · refine q_ald_n cx dX12_clears_9 rfl (lv_at hl 0 rfl) ?_
        refine q_gX12_20 cx hB hmo kmo hq_mo_13 dX12_clears_10 (fun hb427 kb427 => ?_)
        refine q_ild_n cx dX12_clears_13 rfl (lv_at hl 1 rfl) ?_
        refine q_iconst cx dX12_clears_14 ?_
        refine q_rast (n := 658) cx hB hsr ksr q_K1 rfl (by omega) (by omega) (by decide) ⟨by decide, by decide⟩ (q_rowz0 q_K1) (q_rowz1 q_K1) (q_inWi (lo := 0) (hi := 657) (by decide) (by omega) (by omega)) dX12_clears_15 (fun H locs f428 ef428 z429 hB => ?_)
        have z430 : q_r f428 mo 13 = sr := by rw [ef428, q_setr (Or.inl (fun q => by rw [q, ksr] at kmo; exact absurd kmo (by decide)))]; exact hq_mo_13
        have z431 : q_r f428 mo 18 = nm := by rw [ef428, q_setr (Or.inl (fun q => by rw [q, ksr] at kmo; exact absurd kmo (by decide)))]; exact hq_mo_18
        refine q_iinc (lv' := [(1, .int (q_i (v2_1 + 1))), (0, .ref mo)]) cx dX12_clears_16 hl (k := 1) rfl (by decide) rfl (fun ls hl => ?_)
        refine lv_goto (tgt := 2) cx.1 cx.2.1 dX12_clears_19 (by decide) ?_
        exact ih2 f428 (v2_1 + 1) (by omega) (by omega) z430 z431 (q_clb hcl ef428 z429 (by omega)) (by omega) H locs hB ls (lv_sub hl [1, 0] rfl)
  obtain ⟨H, hH⟩ : ∃ H : Heap, H = s.heap := ⟨_, rfl⟩
  obtain ⟨locs, hlocs⟩ : ∃ z : List Loc, z = [] := ⟨_, rfl⟩
  rw [← hH, ← hlocs] at hB
  rw [← hH, ← hlocs]
  refine q_iconst cx dX12_clears_0 ?_
  refine lv_istore_n (lv' := [(1, .int (q_i 0)), (0, .ref mo)]) cx.1 cx.2.1 dX12_clears_1 rfl hl (by decide) rfl (fun ls hl => ?_)
  exact J2 ((Int.toNat (2147483647 - 0)) + 1) f 0 (by decide) (by decide) hr0 hr1 (fun j hj => absurd hj (by omega)) (Nat.lt_succ_self _) H locs hB ls (lv_sub hl [1, 0] rfl)
set_option maxHeartbeats 4000000 in
set_option maxRecDepth 100000 in
theorem r_isNode0 (l : Launch) (g : q_G) {K : Nat → Nat} {L : List Nat} (hN : L.Nodup) {f : Nat → va_E} (hT : q_Ty g K L f) (mo : Nat) (hmo : mo ∈ L) (kmo : K mo = 12) (a0 : Int) (la0 : (-2147483648) ≤ a0) (ua0 : a0 ≤ 2147483647) (sr : Nat) (hsr : sr ∈ L) (ksr : K sr = 151) (hf0 : q_z f sr 0 = 0) (hr0 : q_r f mo 13 = sr) : q_Ct l g K L yX12_isNode cX12_isNode 2 (some .boolean) 1 25 [.ref mo, .int (q_i a0)] f [] (q_Pi (fun (z : Int) (f1 : Nat → va_E) => f = f1 ∧ z = 0)) := by
  refine q_ofb (by decide +kernel) hN hT (Nat.le_of_ble_eq_true rfl) ?_
  intro p e s m below meth c ls cx hr hlk hB hl
  have hl : lv_has ls 2 [(0, .ref mo), (1, .int (q_i a0))] := hl
  obtain ⟨H, hH⟩ : ∃ H : Heap, H = s.heap := ⟨_, rfl⟩
  obtain ⟨locs, hlocs⟩ : ∃ z : List Loc, z = [] := ⟨_, rfl⟩
  rw [← hH, ← hlocs] at hB
  rw [← hH, ← hlocs]
  refine q_ild_n cx dX12_isNode_0 rfl (lv_at hl 1 rfl) ?_
  refine q_i2l cx ⟨by omega, by omega⟩ dX12_isNode_1 ?_
  refine q_lconst (z := 0) cx (by decide) dX12_isNode_2 ?_
  refine q_ald_n cx dX12_isNode_3 rfl (lv_at hl 0 rfl) ?_
  refine q_gX12_20 cx hB hmo kmo hr0 dX12_isNode_4 (fun hb13 kb13 => ?_)
  refine q_iconst cx dX12_isNode_7 ?_
  refine q_iald (lo := 0) (hi := 10) (n := 658) cx hB hsr ksr (by decide) rfl rfl (by decide) (by decide) (by decide) rfl hf0 dX12_isNode_8 (fun lb15 ub15 => ?_)
  refine q_iconst cx dX12_isNode_9 ?_
  refine q_isub cx dX12_isNode_10 ?_
  refine q_i2l cx ⟨by decide, by decide⟩ dX12_isNode_11 ?_
  by_cases c16 : a0 ≤ (-1)
  · refine q_cSi (As := [.long (q_l a0), .long (q_l 0), .long (q_l (0 - 1))]) (rest := []) cx hB (fun _ h => h) hN (r_isIn l g hN hB.2.1 a0 (by omega) (by omega) 0 (by decide) (by decide) (0 - 1) (by decide) (by decide)) q_cX12_93 q_dX12_isIn (by decide) rfl rfl hl.1 rfl (Nat.le_of_ble_eq_true rfl) dX12_isNode_12 (fun y18 H locs f17 ry18 h19 hF hB => ?_)
    obtain ⟨rfl, ly18, uy18, t20⟩ := h19
    obtain rfl : y18 = 0 := by omega
    refine q_zret cx hr hlk hB dX12_isNode_15 (by decide) (by decide) ?_
    exact ⟨rfl, rfl⟩
  · refine q_cSi (As := [.long (q_l a0), .long (q_l 0), .long (q_l (0 - 1))]) (rest := []) cx hB (fun _ h => h) hN (r_isIn l g hN hB.2.1 a0 (by omega) (by omega) 0 (by decide) (by decide) (0 - 1) (by decide) (by decide)) q_cX12_93 q_dX12_isIn (by decide) rfl rfl hl.1 rfl (Nat.le_of_ble_eq_true rfl) dX12_isNode_12 (fun y22 H locs f21 ry22 h23 hF hB => ?_)
    obtain ⟨rfl, ly22, uy22, t24⟩ := h23
    obtain rfl : y22 = 0 := by omega
    refine q_zret cx hr hlk hB dX12_isNode_15 (by decide) (by decide) ?_
    exact ⟨rfl, rfl⟩
set_option maxHeartbeats 4000000 in
set_option maxRecDepth 100000 in
theorem r_isMessage0 (l : Launch) (g : q_G) {K : Nat → Nat} {L : List Nat} (hN : L.Nodup) {f : Nat → va_E} (hT : q_Ty g K L f) (mo : Nat) (hmo : mo ∈ L) (kmo : K mo = 12) (a0 : Int) (la0 : (-2147483648) ≤ a0) (ua0 : a0 ≤ 2147483647) (sr : Nat) (hsr : sr ∈ L) (ksr : K sr = 151) (hf0 : q_z f sr 4 = 0) (hr0 : q_r f mo 13 = sr) : q_Ct l g K L yX12_isMessage cX12_isMessage 2 (some .boolean) 1 25 [.ref mo, .int (q_i a0)] f [] (q_Pi (fun (z : Int) (f1 : Nat → va_E) => f = f1 ∧ z = 0)) := by
  refine q_ofb (by decide +kernel) hN hT (Nat.le_of_ble_eq_true rfl) ?_
  intro p e s m below meth c ls cx hr hlk hB hl
  have hl : lv_has ls 2 [(0, .ref mo), (1, .int (q_i a0))] := hl
  obtain ⟨H, hH⟩ : ∃ H : Heap, H = s.heap := ⟨_, rfl⟩
  obtain ⟨locs, hlocs⟩ : ∃ z : List Loc, z = [] := ⟨_, rfl⟩
  rw [← hH, ← hlocs] at hB
  rw [← hH, ← hlocs]
  refine q_ild_n cx dX12_isMessage_0 rfl (lv_at hl 1 rfl) ?_
  refine q_i2l cx ⟨by omega, by omega⟩ dX12_isMessage_1 ?_
  refine q_lconst (z := 0) cx (by decide) dX12_isMessage_2 ?_
  refine q_ald_n cx dX12_isMessage_3 rfl (lv_at hl 0 rfl) ?_
  refine q_gX12_20 cx hB hmo kmo hr0 dX12_isMessage_4 (fun hb13 kb13 => ?_)
  refine q_iconst cx dX12_isMessage_7 ?_
  refine q_iald (lo := 0) (hi := 61) (n := 658) cx hB hsr ksr (by decide) rfl rfl (by decide) (by decide) (by decide) rfl hf0 dX12_isMessage_8 (fun lb15 ub15 => ?_)
  refine q_iconst cx dX12_isMessage_9 ?_
  refine q_isub cx dX12_isMessage_10 ?_
  refine q_i2l cx ⟨by decide, by decide⟩ dX12_isMessage_11 ?_
  by_cases c16 : a0 ≤ (-1)
  · refine q_cSi (As := [.long (q_l a0), .long (q_l 0), .long (q_l (0 - 1))]) (rest := []) cx hB (fun _ h => h) hN (r_isIn l g hN hB.2.1 a0 (by omega) (by omega) 0 (by decide) (by decide) (0 - 1) (by decide) (by decide)) q_cX12_93 q_dX12_isIn (by decide) rfl rfl hl.1 rfl (Nat.le_of_ble_eq_true rfl) dX12_isMessage_12 (fun y18 H locs f17 ry18 h19 hF hB => ?_)
    obtain ⟨rfl, ly18, uy18, t20⟩ := h19
    obtain rfl : y18 = 0 := by omega
    refine q_zret cx hr hlk hB dX12_isMessage_15 (by decide) (by decide) ?_
    exact ⟨rfl, rfl⟩
  · refine q_cSi (As := [.long (q_l a0), .long (q_l 0), .long (q_l (0 - 1))]) (rest := []) cx hB (fun _ h => h) hN (r_isIn l g hN hB.2.1 a0 (by omega) (by omega) 0 (by decide) (by decide) (0 - 1) (by decide) (by decide)) q_cX12_93 q_dX12_isIn (by decide) rfl rfl hl.1 rfl (Nat.le_of_ble_eq_true rfl) dX12_isMessage_12 (fun y22 H locs f21 ry22 h23 hF hB => ?_)
    obtain ⟨rfl, ly22, uy22, t24⟩ := h23
    obtain rfl : y22 = 0 := by omega
    refine q_zret cx hr hlk hB dX12_isMessage_15 (by decide) (by decide) ?_
    exact ⟨rfl, rfl⟩
set_option maxHeartbeats 4000000 in
set_option maxRecDepth 100000 in
theorem r_isDay0 (l : Launch) (g : q_G) {K : Nat → Nat} {L : List Nat} (hN : L.Nodup) {f : Nat → va_E} (hT : q_Ty g K L f) (mo : Nat) (hmo : mo ∈ L) (kmo : K mo = 12) (a0 : Int) (la0 : (-2147483648) ≤ a0) (ua0 : a0 ≤ 2147483647) (sr : Nat) (hsr : sr ∈ L) (ksr : K sr = 151) (hf0 : q_z f sr 2 = 12) (hr0 : q_r f mo 13 = sr) : q_Ct l g K L yX12_isDay cX12_isDay 2 (some .boolean) 1 25 [.ref mo, .int (q_i a0)] f [] (q_Pi (fun (z : Int) (f1 : Nat → va_E) => f = f1 ∧ 0 ≤ z ∧ z ≤ 1)) := by
  refine q_ofb (by decide +kernel) hN hT (Nat.le_of_ble_eq_true rfl) ?_
  intro p e s m below meth c ls cx hr hlk hB hl
  have hl : lv_has ls 2 [(0, .ref mo), (1, .int (q_i a0))] := hl
  obtain ⟨H, hH⟩ : ∃ H : Heap, H = s.heap := ⟨_, rfl⟩
  obtain ⟨locs, hlocs⟩ : ∃ z : List Loc, z = [] := ⟨_, rfl⟩
  rw [← hH, ← hlocs] at hB
  rw [← hH, ← hlocs]
  refine q_ild_n cx dX12_isDay_0 rfl (lv_at hl 1 rfl) ?_
  refine q_i2l cx ⟨by omega, by omega⟩ dX12_isDay_1 ?_
  refine q_lconst (z := 0) cx (by decide) dX12_isDay_2 ?_
  refine q_ald_n cx dX12_isDay_3 rfl (lv_at hl 0 rfl) ?_
  refine q_gX12_20 cx hB hmo kmo hr0 dX12_isDay_4 (fun hb18 kb18 => ?_)
  refine q_iconst cx dX12_isDay_7 ?_
  refine q_iald (lo := 0) (hi := 60) (n := 658) cx hB hsr ksr (by decide) rfl rfl (by decide) (by decide) (by decide) rfl hf0 dX12_isDay_8 (fun lb20 ub20 => ?_)
  refine q_iconst cx dX12_isDay_9 ?_
  refine q_isub cx dX12_isDay_10 ?_
  refine q_i2l cx ⟨by decide, by decide⟩ dX12_isDay_11 ?_
  by_cases c21 : a0 ≤ (-1)
  · refine q_cSi (As := [.long (q_l a0), .long (q_l 0), .long (q_l (12 - 1))]) (rest := []) cx hB (fun _ h => h) hN (r_isIn l g hN hB.2.1 a0 (by omega) (by omega) 0 (by decide) (by decide) (12 - 1) (by decide) (by decide)) q_cX12_93 q_dX12_isIn (by decide) rfl rfl hl.1 rfl (Nat.le_of_ble_eq_true rfl) dX12_isDay_12 (fun y23 H locs f22 ry23 h24 hF hB => ?_)
    obtain ⟨rfl, ly23, uy23, t25⟩ := h24
    obtain rfl : y23 = 0 := by omega
    refine q_zret cx hr hlk hB dX12_isDay_15 (by decide) (by decide) ?_
    exact ⟨rfl, (by decide), (by decide)⟩
  · by_cases c26 : a0 ≤ 11
    · refine q_cSi (As := [.long (q_l a0), .long (q_l 0), .long (q_l (12 - 1))]) (rest := []) cx hB (fun _ h => h) hN (r_isIn l g hN hB.2.1 a0 (by omega) (by omega) 0 (by decide) (by decide) (12 - 1) (by decide) (by decide)) q_cX12_93 q_dX12_isIn (by decide) rfl rfl hl.1 rfl (Nat.le_of_ble_eq_true rfl) dX12_isDay_12 (fun y28 H locs f27 ry28 h29 hF hB => ?_)
      obtain ⟨rfl, ly28, uy28, t30⟩ := h29
      obtain rfl : y28 = 1 := by omega
      refine q_zret cx hr hlk hB dX12_isDay_15 (by decide) (by decide) ?_
      exact ⟨rfl, (by decide), (by decide)⟩
    · refine q_cSi (As := [.long (q_l a0), .long (q_l 0), .long (q_l (12 - 1))]) (rest := []) cx hB (fun _ h => h) hN (r_isIn l g hN hB.2.1 a0 (by omega) (by omega) 0 (by decide) (by decide) (12 - 1) (by decide) (by decide)) q_cX12_93 q_dX12_isIn (by decide) rfl rfl hl.1 rfl (Nat.le_of_ble_eq_true rfl) dX12_isDay_12 (fun y32 H locs f31 ry32 h33 hF hB => ?_)
      obtain ⟨rfl, ly32, uy32, t34⟩ := h33
      obtain rfl : y32 = 0 := by omega
      refine q_zret cx hr hlk hB dX12_isDay_15 (by decide) (by decide) ?_
      exact ⟨rfl, (by decide), (by decide)⟩
set_option maxHeartbeats 4000000 in
set_option maxRecDepth 100000 in
theorem r_isMany (l : Launch) (g : q_G) {K : Nat → Nat} {L : List Nat} (hN : L.Nodup) {f : Nat → va_E} (hT : q_Ty g K L f) (a0 : Int) (la0 : (-2147483648) ≤ a0) (ua0 : a0 ≤ 2147483647) : q_Ct l g K L yX12_isMany cX12_isMany 1 (some .boolean) 1 25 [.int (q_i a0)] f [] (q_Pi (fun (z : Int) (f1 : Nat → va_E) => f = f1 ∧ 0 ≤ z ∧ z ≤ 1)) := by
  refine q_ofb (by decide +kernel) hN hT (Nat.le_of_ble_eq_true rfl) ?_
  intro p e s m below meth c ls cx hr hlk hB hl
  have hl : lv_has ls 1 [(0, .int (q_i a0))] := hl
  obtain ⟨H, hH⟩ : ∃ H : Heap, H = s.heap := ⟨_, rfl⟩
  obtain ⟨locs, hlocs⟩ : ∃ z : List Loc, z = [] := ⟨_, rfl⟩
  rw [← hH, ← hlocs] at hB
  rw [← hH, ← hlocs]
  refine q_ild_n cx dX12_isMany_0 rfl (lv_at hl 0 rfl) ?_
  refine q_i2l cx ⟨by omega, by omega⟩ dX12_isMany_1 ?_
  refine q_lconst (z := 1) cx (by decide) dX12_isMany_2 ?_
  refine lv_ldc2 (v := q_l 999) cx.1 cx.2.1 cx.2.2.2.1 (cx.2.2.2.2 _ q_h2174) dX12_isMany_3 ?_
  by_cases c15 : a0 ≤ 0
  · refine q_cSi (As := [.long (q_l a0), .long (q_l 1), .long (q_l 999)]) (rest := []) cx hB (fun _ h => h) hN (r_isIn l g hN hB.2.1 a0 (by omega) (by omega) 1 (by decide) (by decide) 999 (by decide) (by decide)) q_cX12_93 q_dX12_isIn (by decide) rfl rfl hl.1 rfl (Nat.le_of_ble_eq_true rfl) dX12_isMany_6 (fun y17 H locs f16 ry17 h18 hF hB => ?_)
    obtain ⟨rfl, ly17, uy17, t19⟩ := h18
    obtain rfl : y17 = 0 := by omega
    refine q_zret cx hr hlk hB dX12_isMany_9 (by decide) (by decide) ?_
    exact ⟨rfl, (by decide), (by decide)⟩
  · by_cases c20 : a0 ≤ 999
    · refine q_cSi (As := [.long (q_l a0), .long (q_l 1), .long (q_l 999)]) (rest := []) cx hB (fun _ h => h) hN (r_isIn l g hN hB.2.1 a0 (by omega) (by omega) 1 (by decide) (by decide) 999 (by decide) (by decide)) q_cX12_93 q_dX12_isIn (by decide) rfl rfl hl.1 rfl (Nat.le_of_ble_eq_true rfl) dX12_isMany_6 (fun y22 H locs f21 ry22 h23 hF hB => ?_)
      obtain ⟨rfl, ly22, uy22, t24⟩ := h23
      obtain rfl : y22 = 1 := by omega
      refine q_zret cx hr hlk hB dX12_isMany_9 (by decide) (by decide) ?_
      exact ⟨rfl, (by decide), (by decide)⟩
    · refine q_cSi (As := [.long (q_l a0), .long (q_l 1), .long (q_l 999)]) (rest := []) cx hB (fun _ h => h) hN (r_isIn l g hN hB.2.1 a0 (by omega) (by omega) 1 (by decide) (by decide) 999 (by decide) (by decide)) q_cX12_93 q_dX12_isIn (by decide) rfl rfl hl.1 rfl (Nat.le_of_ble_eq_true rfl) dX12_isMany_6 (fun y26 H locs f25 ry26 h27 hF hB => ?_)
      obtain ⟨rfl, ly26, uy26, t28⟩ := h27
      obtain rfl : y26 = 0 := by omega
      refine q_zret cx hr hlk hB dX12_isMany_9 (by decide) (by decide) ?_
      exact ⟨rfl, (by decide), (by decide)⟩
set_option maxHeartbeats 4000000 in
set_option maxRecDepth 100000 in
theorem r_areTicksa (l : Launch) (g : q_G) {K : Nat → Nat} {L : List Nat} (hN : L.Nodup) {f : Nat → va_E} (hT : q_Ty g K L f) (a0 : Int) (la0 : (-2147483648) ≤ a0) (ua0 : a0 ≤ 0) : q_Ct l g K L yX12_areTicks cX12_areTicks 1 (some .boolean) 1 25 [.int (q_i a0)] f [] (q_Pi (fun (z : Int) (f1 : Nat → va_E) => f = f1 ∧ z = 0)) := by
  refine q_ofb (by decide +kernel) hN hT (Nat.le_of_ble_eq_true rfl) ?_
  intro p e s m below meth c ls cx hr hlk hB hl
  have hl : lv_has ls 1 [(0, .int (q_i a0))] := hl
  obtain ⟨H, hH⟩ : ∃ H : Heap, H = s.heap := ⟨_, rfl⟩
  obtain ⟨locs, hlocs⟩ : ∃ z : List Loc, z = [] := ⟨_, rfl⟩
  rw [← hH, ← hlocs] at hB
  rw [← hH, ← hlocs]
  refine q_ild_n cx dX12_areTicks_0 rfl (lv_at hl 0 rfl) ?_
  refine q_i2l cx ⟨by omega, by omega⟩ dX12_areTicks_1 ?_
  refine q_lconst (z := 1) cx (by decide) dX12_areTicks_2 ?_
  refine lv_ldc2 (v := q_l 99) cx.1 cx.2.1 cx.2.2.2.1 (cx.2.2.2.2 _ q_h1977) dX12_areTicks_3 ?_
  refine q_cSi (As := [.long (q_l a0), .long (q_l 1), .long (q_l 99)]) (rest := []) cx hB (fun _ h => h) hN (r_isIn l g hN hB.2.1 a0 (by omega) (by omega) 1 (by decide) (by decide) 99 (by decide) (by decide)) q_cX12_93 q_dX12_isIn (by decide) rfl rfl hl.1 rfl (Nat.le_of_ble_eq_true rfl) dX12_areTicks_6 (fun y6 H locs f5 ry6 h7 hF hB => ?_)
  obtain ⟨rfl, ly6, uy6, t8⟩ := h7
  obtain rfl : y6 = 0 := by omega
  refine q_zret cx hr hlk hB dX12_areTicks_9 (by decide) (by decide) ?_
  exact ⟨rfl, rfl⟩
set_option maxHeartbeats 4000000 in
set_option maxRecDepth 100000 in
theorem r_areTicksb (l : Launch) (g : q_G) {K : Nat → Nat} {L : List Nat} (hN : L.Nodup) {f : Nat → va_E} (hT : q_Ty g K L f) (a0 : Int) (la0 : 1 ≤ a0) (ua0 : a0 ≤ 99) : q_Ct l g K L yX12_areTicks cX12_areTicks 1 (some .boolean) 1 25 [.int (q_i a0)] f [] (q_Pi (fun (z : Int) (f1 : Nat → va_E) => f = f1 ∧ z = 1)) := by
  refine q_ofb (by decide +kernel) hN hT (Nat.le_of_ble_eq_true rfl) ?_
  intro p e s m below meth c ls cx hr hlk hB hl
  have hl : lv_has ls 1 [(0, .int (q_i a0))] := hl
  obtain ⟨H, hH⟩ : ∃ H : Heap, H = s.heap := ⟨_, rfl⟩
  obtain ⟨locs, hlocs⟩ : ∃ z : List Loc, z = [] := ⟨_, rfl⟩
  rw [← hH, ← hlocs] at hB
  rw [← hH, ← hlocs]
  refine q_ild_n cx dX12_areTicks_0 rfl (lv_at hl 0 rfl) ?_
  refine q_i2l cx ⟨by omega, by omega⟩ dX12_areTicks_1 ?_
  refine q_lconst (z := 1) cx (by decide) dX12_areTicks_2 ?_
  refine lv_ldc2 (v := q_l 99) cx.1 cx.2.1 cx.2.2.2.1 (cx.2.2.2.2 _ q_h1977) dX12_areTicks_3 ?_
  refine q_cSi (As := [.long (q_l a0), .long (q_l 1), .long (q_l 99)]) (rest := []) cx hB (fun _ h => h) hN (r_isIn l g hN hB.2.1 a0 (by omega) (by omega) 1 (by decide) (by decide) 99 (by decide) (by decide)) q_cX12_93 q_dX12_isIn (by decide) rfl rfl hl.1 rfl (Nat.le_of_ble_eq_true rfl) dX12_areTicks_6 (fun y6 H locs f5 ry6 h7 hF hB => ?_)
  obtain ⟨rfl, ly6, uy6, t8⟩ := h7
  obtain rfl : y6 = 1 := by omega
  refine q_zret cx hr hlk hB dX12_areTicks_9 (by decide) (by decide) ?_
  exact ⟨rfl, rfl⟩
set_option maxHeartbeats 4000000 in
set_option maxRecDepth 100000 in
theorem r_areTicksc (l : Launch) (g : q_G) {K : Nat → Nat} {L : List Nat} (hN : L.Nodup) {f : Nat → va_E} (hT : q_Ty g K L f) (a0 : Int) (la0 : 100 ≤ a0) (ua0 : a0 ≤ 2147483647) : q_Ct l g K L yX12_areTicks cX12_areTicks 1 (some .boolean) 1 25 [.int (q_i a0)] f [] (q_Pi (fun (z : Int) (f1 : Nat → va_E) => f = f1 ∧ z = 0)) := by
  refine q_ofb (by decide +kernel) hN hT (Nat.le_of_ble_eq_true rfl) ?_
  intro p e s m below meth c ls cx hr hlk hB hl
  have hl : lv_has ls 1 [(0, .int (q_i a0))] := hl
  obtain ⟨H, hH⟩ : ∃ H : Heap, H = s.heap := ⟨_, rfl⟩
  obtain ⟨locs, hlocs⟩ : ∃ z : List Loc, z = [] := ⟨_, rfl⟩
  rw [← hH, ← hlocs] at hB
  rw [← hH, ← hlocs]
  refine q_ild_n cx dX12_areTicks_0 rfl (lv_at hl 0 rfl) ?_
  refine q_i2l cx ⟨by omega, by omega⟩ dX12_areTicks_1 ?_
  refine q_lconst (z := 1) cx (by decide) dX12_areTicks_2 ?_
  refine lv_ldc2 (v := q_l 99) cx.1 cx.2.1 cx.2.2.2.1 (cx.2.2.2.2 _ q_h1977) dX12_areTicks_3 ?_
  refine q_cSi (As := [.long (q_l a0), .long (q_l 1), .long (q_l 99)]) (rest := []) cx hB (fun _ h => h) hN (r_isIn l g hN hB.2.1 a0 (by omega) (by omega) 1 (by decide) (by decide) 99 (by decide) (by decide)) q_cX12_93 q_dX12_isIn (by decide) rfl rfl hl.1 rfl (Nat.le_of_ble_eq_true rfl) dX12_areTicks_6 (fun y6 H locs f5 ry6 h7 hF hB => ?_)
  obtain ⟨rfl, ly6, uy6, t8⟩ := h7
  obtain rfl : y6 = 0 := by omega
  refine q_zret cx hr hlk hB dX12_areTicks_9 (by decide) (by decide) ?_
  exact ⟨rfl, rfl⟩
set_option maxHeartbeats 4000000 in
set_option maxRecDepth 100000 in
theorem r_inState0 (l : Launch) (g : q_G) {K : Nat → Nat} {L : List Nat} (hN : L.Nodup) {f : Nat → va_E} (hT : q_Ty g K L f) (mo : Nat) (hmo : mo ∈ L) (kmo : K mo = 12) (a0 : Int) (la0 : (-2147483648) ≤ a0) (ua0 : a0 ≤ 2147483647) (sr : Nat) (hsr : sr ∈ L) (ksr : K sr = 151) (hf0 : q_z f sr 4 = 0) (hr0 : q_r f mo 13 = sr) : q_Ct l g K L yX12_inState cX12_inState 4 (some .int) 0 0 [.ref mo, .int (q_i a0)] f [] (q_Pi (fun (z : Int) (f1 : Nat → va_E) => f = f1 ∧ z = 0)) := by
  refine q_ofb (by decide +kernel) hN hT (Nat.le_of_ble_eq_true rfl) ?_
  intro p e s m below meth c ls cx hr hlk hB hl
  have hl : lv_has ls 4 [(0, .ref mo), (1, .int (q_i a0))] := hl
  obtain ⟨H, hH⟩ : ∃ H : Heap, H = s.heap := ⟨_, rfl⟩
  obtain ⟨locs, hlocs⟩ : ∃ z : List Loc, z = [] := ⟨_, rfl⟩
  rw [← hH, ← hlocs] at hB
  rw [← hH, ← hlocs]
  refine q_iconst cx dX12_inState_0 ?_
  refine lv_istore_n (lv' := [(2, .int (q_i 0)), (0, .ref mo), (1, .int (q_i a0))]) cx.1 cx.2.1 dX12_inState_1 rfl hl (by decide) rfl (fun ls hl => ?_)
  refine q_iconst cx dX12_inState_2 ?_
  refine lv_istore_n (lv' := [(3, .int (q_i 0)), (2, .int (q_i 0)), (0, .ref mo), (1, .int (q_i a0))]) cx.1 cx.2.1 dX12_inState_3 rfl hl (by decide) rfl (fun ls hl => ?_)
  refine q_ild_n cx dX12_inState_4 rfl (lv_at hl 0 rfl) ?_
  refine q_ald_n cx dX12_inState_5 rfl (lv_at hl 2 rfl) ?_
  refine q_gX12_20 cx hB hmo kmo hr0 dX12_inState_6 (fun hb5 kb5 => ?_)
  refine q_iconst cx dX12_inState_9 ?_
  refine q_iald (lo := 0) (hi := 61) (n := 658) cx hB hsr ksr (by decide) rfl rfl (by decide) (by decide) (by decide) rfl hf0 dX12_inState_10 (fun lb7 ub7 => ?_)
  refine q_icge (tgt := 41) cx ⟨by decide, by decide⟩ ⟨by decide, by decide⟩ dX12_inState_11 (by decide) (fun c8 => ?_) (fun c8 => ?_)
  · refine q_ild_n cx dX12_inState_41 rfl (lv_at hl 1 rfl) ?_
    refine q_iret cx hr hlk hB dX12_inState_42 ⟨by decide, by decide⟩ ?_
    exact ⟨rfl, rfl⟩
  · exact absurd c8 (by omega)
set_option maxHeartbeats 4000000 in
set_option maxRecDepth 100000 in
theorem r_inTime0 (l : Launch) (g : q_G) {K : Nat → Nat} {L : List Nat} (hN : L.Nodup) {f : Nat → va_E} (hT : q_Ty g K L f) (mo : Nat) (hmo : mo ∈ L) (kmo : K mo = 12) (sr : Nat) (hsr : sr ∈ L) (ksr : K sr = 151) (hf0 : q_z f sr 4 = 0) (hr0 : q_r f mo 13 = sr) : q_Ct l g K L yX12_inTime cX12_inTime 3 (some .int) 0 0 [.ref mo] f [] (q_Pi (fun (z : Int) (f1 : Nat → va_E) => f = f1 ∧ z = 0)) := by
  refine q_ofb (by decide +kernel) hN hT (Nat.le_of_ble_eq_true rfl) ?_
  intro p e s m below meth c ls cx hr hlk hB hl
  have hl : lv_has ls 3 [(0, .ref mo)] := hl
  obtain ⟨H, hH⟩ : ∃ H : Heap, H = s.heap := ⟨_, rfl⟩
  obtain ⟨locs, hlocs⟩ : ∃ z : List Loc, z = [] := ⟨_, rfl⟩
  rw [← hH, ← hlocs] at hB
  rw [← hH, ← hlocs]
  refine q_iconst cx dX12_inTime_0 ?_
  refine lv_istore_n (lv' := [(1, .int (q_i 0)), (0, .ref mo)]) cx.1 cx.2.1 dX12_inTime_1 rfl hl (by decide) rfl (fun ls hl => ?_)
  refine q_iconst cx dX12_inTime_2 ?_
  refine lv_istore_n (lv' := [(2, .int (q_i 0)), (1, .int (q_i 0)), (0, .ref mo)]) cx.1 cx.2.1 dX12_inTime_3 rfl hl (by decide) rfl (fun ls hl => ?_)
  refine q_ild_n cx dX12_inTime_4 rfl (lv_at hl 0 rfl) ?_
  refine q_ald_n cx dX12_inTime_5 rfl (lv_at hl 2 rfl) ?_
  refine q_gX12_20 cx hB hmo kmo hr0 dX12_inTime_6 (fun hb5 kb5 => ?_)
  refine q_iconst cx dX12_inTime_9 ?_
  refine q_iald (lo := 0) (hi := 61) (n := 658) cx hB hsr ksr (by decide) rfl rfl (by decide) (by decide) (by decide) rfl hf0 dX12_inTime_10 (fun lb7 ub7 => ?_)
  refine q_icge (tgt := 57) cx ⟨by decide, by decide⟩ ⟨by decide, by decide⟩ dX12_inTime_11 (by decide) (fun c8 => ?_) (fun c8 => ?_)
  · refine q_ild_n cx dX12_inTime_57 rfl (lv_at hl 1 rfl) ?_
    refine q_iret cx hr hlk hB dX12_inTime_58 ⟨by decide, by decide⟩ ?_
    exact ⟨rfl, rfl⟩
  · exact absurd c8 (by omega)
set_option maxHeartbeats 4000000 in
set_option maxRecDepth 100000 in
theorem r_notOut0 (l : Launch) (g : q_G) {K : Nat → Nat} {L : List Nat} (hN : L.Nodup) {f : Nat → va_E} (hT : q_Ty g K L f) (mo : Nat) (hmo : mo ∈ L) (kmo : K mo = 12) (sr : Nat) (hsr : sr ∈ L) (ksr : K sr = 151) (hf0 : q_z f sr 0 = 0) (hr0 : q_r f mo 13 = sr) : q_Ct l g K L yX12_notOut cX12_notOut 3 (some .int) 0 0 [.ref mo] f [] (q_Pi (fun (z : Int) (f1 : Nat → va_E) => f = f1 ∧ z = 0)) := by
  refine q_ofb (by decide +kernel) hN hT (Nat.le_of_ble_eq_true rfl) ?_
  intro p e s m below meth c ls cx hr hlk hB hl
  have hl : lv_has ls 3 [(0, .ref mo)] := hl
  obtain ⟨H, hH⟩ : ∃ H : Heap, H = s.heap := ⟨_, rfl⟩
  obtain ⟨locs, hlocs⟩ : ∃ z : List Loc, z = [] := ⟨_, rfl⟩
  rw [← hH, ← hlocs] at hB
  rw [← hH, ← hlocs]
  refine q_iconst cx dX12_notOut_0 ?_
  refine lv_istore_n (lv' := [(1, .int (q_i 0)), (0, .ref mo)]) cx.1 cx.2.1 dX12_notOut_1 rfl hl (by decide) rfl (fun ls hl => ?_)
  refine q_iconst cx dX12_notOut_2 ?_
  refine lv_istore_n (lv' := [(2, .int (q_i 0)), (1, .int (q_i 0)), (0, .ref mo)]) cx.1 cx.2.1 dX12_notOut_3 rfl hl (by decide) rfl (fun ls hl => ?_)
  refine q_ild_n cx dX12_notOut_4 rfl (lv_at hl 0 rfl) ?_
  refine q_ald_n cx dX12_notOut_5 rfl (lv_at hl 2 rfl) ?_
  refine q_gX12_20 cx hB hmo kmo hr0 dX12_notOut_6 (fun hb5 kb5 => ?_)
  refine q_iconst cx dX12_notOut_9 ?_
  refine q_iald (lo := 0) (hi := 10) (n := 658) cx hB hsr ksr (by decide) rfl rfl (by decide) (by decide) (by decide) rfl hf0 dX12_notOut_10 (fun lb7 ub7 => ?_)
  refine q_icge (tgt := 39) cx ⟨by decide, by decide⟩ ⟨by decide, by decide⟩ dX12_notOut_11 (by decide) (fun c8 => ?_) (fun c8 => ?_)
  · refine q_ild_n cx dX12_notOut_39 rfl (lv_at hl 1 rfl) ?_
    refine q_iret cx hr hlk hB dX12_notOut_40 ⟨by decide, by decide⟩ ?_
    exact ⟨rfl, rfl⟩
  · exact absurd c8 (by omega)
set_option maxHeartbeats 4000000 in
set_option maxRecDepth 100000 in
theorem r_awakeSet0 (l : Launch) (g : q_G) {K : Nat → Nat} {L : List Nat} (hN : L.Nodup) {f : Nat → va_E} (hT : q_Ty g K L f) (mo : Nat) (hmo : mo ∈ L) (kmo : K mo = 12) (a0 : Int) (la0 : 0 ≤ a0) (ua0 : a0 ≤ 99) (sr : Nat) (hsr : sr ∈ L) (ksr : K sr = 151) (hf0 : q_z f sr 0 = 0) (hr0 : q_r f mo 13 = sr) : q_Ct l g K L yX12_awakeSet cX12_awakeSet 4 (some .int) 0 0 [.ref mo, .int (q_i a0)] f [] (q_Pi (fun (z : Int) (f1 : Nat → va_E) => f = f1 ∧ z = 0)) := by
  refine q_ofb (by decide +kernel) hN hT (Nat.le_of_ble_eq_true rfl) ?_
  intro p e s m below meth c ls cx hr hlk hB hl
  have hl : lv_has ls 4 [(0, .ref mo), (1, .int (q_i a0))] := hl
  obtain ⟨H, hH⟩ : ∃ H : Heap, H = s.heap := ⟨_, rfl⟩
  obtain ⟨locs, hlocs⟩ : ∃ z : List Loc, z = [] := ⟨_, rfl⟩
  rw [← hH, ← hlocs] at hB
  rw [← hH, ← hlocs]
  refine q_iconst cx dX12_awakeSet_0 ?_
  refine lv_istore_n (lv' := [(2, .int (q_i 0)), (0, .ref mo), (1, .int (q_i a0))]) cx.1 cx.2.1 dX12_awakeSet_1 rfl hl (by decide) rfl (fun ls hl => ?_)
  refine q_iconst cx dX12_awakeSet_2 ?_
  refine lv_istore_n (lv' := [(3, .int (q_i 0)), (2, .int (q_i 0)), (0, .ref mo), (1, .int (q_i a0))]) cx.1 cx.2.1 dX12_awakeSet_3 rfl hl (by decide) rfl (fun ls hl => ?_)
  refine q_ild_n cx dX12_awakeSet_4 rfl (lv_at hl 0 rfl) ?_
  refine q_ald_n cx dX12_awakeSet_5 rfl (lv_at hl 2 rfl) ?_
  refine q_gX12_20 cx hB hmo kmo hr0 dX12_awakeSet_6 (fun hb5 kb5 => ?_)
  refine q_iconst cx dX12_awakeSet_9 ?_
  refine q_iald (lo := 0) (hi := 10) (n := 658) cx hB hsr ksr (by decide) rfl rfl (by decide) (by decide) (by decide) rfl hf0 dX12_awakeSet_10 (fun lb7 ub7 => ?_)
  refine q_icge (tgt := 39) cx ⟨by decide, by decide⟩ ⟨by decide, by decide⟩ dX12_awakeSet_11 (by decide) (fun c8 => ?_) (fun c8 => ?_)
  · refine q_ild_n cx dX12_awakeSet_39 rfl (lv_at hl 1 rfl) ?_
    refine q_iret cx hr hlk hB dX12_awakeSet_40 ⟨by decide, by decide⟩ ?_
    exact ⟨rfl, rfl⟩
  · exact absurd c8 (by omega)
set_option maxHeartbeats 4000000 in
set_option maxRecDepth 100000 in
theorem r_bits0 (l : Launch) (g : q_G) {K : Nat → Nat} {L : List Nat} (hN : L.Nodup) {f : Nat → va_E} (hT : q_Ty g K L f) (a0 : Int) (la0 : 0 ≤ a0) (ua0 : a0 ≤ 0) : q_Ct l g K L yX12_bits cX12_bits 3 (some .int) 0 0 [.int (q_i a0)] f [] (q_Pi (fun (z : Int) (f1 : Nat → va_E) => f = f1 ∧ z = 0)) := by
  obtain rfl : a0 = 0 := by omega
  refine q_ofb (by decide +kernel) hN hT (Nat.le_of_ble_eq_true rfl) ?_
  intro p e s m below meth c ls cx hr hlk hB hl
  have hl : lv_has ls 3 [(0, .int (q_i 0))] := hl
  obtain ⟨H, hH⟩ : ∃ H : Heap, H = s.heap := ⟨_, rfl⟩
  obtain ⟨locs, hlocs⟩ : ∃ z : List Loc, z = [] := ⟨_, rfl⟩
  rw [← hH, ← hlocs] at hB
  rw [← hH, ← hlocs]
  refine q_iconst cx dX12_bits_0 ?_
  refine lv_istore_n (lv' := [(1, .int (q_i 0)), (0, .int (q_i 0))]) cx.1 cx.2.1 dX12_bits_1 rfl hl (by decide) rfl (fun ls hl => ?_)
  refine q_iconst cx dX12_bits_2 ?_
  refine lv_istore_n (lv' := [(2, .int (q_i 0)), (1, .int (q_i 0)), (0, .int (q_i 0))]) cx.1 cx.2.1 dX12_bits_3 rfl hl (by decide) rfl (fun ls hl => ?_)
  refine q_ild_n cx dX12_bits_4 rfl (lv_at hl 0 rfl) ?_
  refine q_bipush cx dX12_bits_5 rfl ?_
  refine q_icge (tgt := 24) cx ⟨by decide, by decide⟩ ⟨by decide, by decide⟩ dX12_bits_7 (by decide) (fun c32 => ?_) (fun c32 => ?_)
  · exact absurd c32 (by omega)
  · refine q_ild_n cx dX12_bits_10 rfl (lv_at hl 1 rfl) ?_
    refine q_ild_n cx dX12_bits_11 rfl (lv_at hl 2 rfl) ?_
    refine q_ild_n cx dX12_bits_12 rfl (lv_at hl 0 rfl) ?_
    refine lv_ishr cx.1 cx.2.1 dX12_bits_13 ?_
    rw [show q_i 0 >>> (q_i 0 &&& 31) = q_i 0 from by decide]
    refine q_iconst cx dX12_bits_14 ?_
    refine lv_iand cx.1 cx.2.1 dX12_bits_15 ?_
    rw [show q_i 0 &&& q_i 1 = q_i 0 from by decide]
    refine q_iadd cx dX12_bits_16 ?_
    refine lv_istore_n (lv' := [(1, .int (q_i (0 + 0))), (2, .int (q_i 0)), (0, .int (q_i 0))]) cx.1 cx.2.1 dX12_bits_17 rfl hl (by decide) rfl (fun ls hl => ?_)
    refine q_iinc (lv' := [(2, .int (q_i (0 + 1))), (1, .int (q_i (0 + 0))), (0, .int (q_i 0))]) cx dX12_bits_18 hl (k := 1) rfl (by decide) rfl (fun ls hl => ?_)
    refine lv_goto (tgt := 4) cx.1 cx.2.1 dX12_bits_21 (by decide) ?_
    refine q_ild_n cx dX12_bits_4 rfl (lv_at hl 0 rfl) ?_
    refine q_bipush cx dX12_bits_5 rfl ?_
    refine q_icge (tgt := 24) cx ⟨by decide, by decide⟩ ⟨by decide, by decide⟩ dX12_bits_7 (by decide) (fun c35 => ?_) (fun c35 => ?_)
    · exact absurd c35 (by omega)
    · refine q_ild_n cx dX12_bits_10 rfl (lv_at hl 1 rfl) ?_
      refine q_ild_n cx dX12_bits_11 rfl (lv_at hl 2 rfl) ?_
      refine q_ild_n cx dX12_bits_12 rfl (lv_at hl 0 rfl) ?_
      refine lv_ishr cx.1 cx.2.1 dX12_bits_13 ?_
      rw [show q_i 0 >>> (q_i (0 + 1) &&& 31) = q_i 0 from by decide]
      refine q_iconst cx dX12_bits_14 ?_
      refine lv_iand cx.1 cx.2.1 dX12_bits_15 ?_
      rw [show q_i 0 &&& q_i 1 = q_i 0 from by decide]
      refine q_iadd cx dX12_bits_16 ?_
      refine lv_istore_n (lv' := [(1, .int (q_i ((0 + 0) + 0))), (2, .int (q_i (0 + 1))), (0, .int (q_i 0))]) cx.1 cx.2.1 dX12_bits_17 rfl hl (by decide) rfl (fun ls hl => ?_)
      refine q_iinc (lv' := [(2, .int (q_i ((0 + 1) + 1))), (1, .int (q_i ((0 + 0) + 0))), (0, .int (q_i 0))]) cx dX12_bits_18 hl (k := 1) rfl (by decide) rfl (fun ls hl => ?_)
      refine lv_goto (tgt := 4) cx.1 cx.2.1 dX12_bits_21 (by decide) ?_
      refine q_ild_n cx dX12_bits_4 rfl (lv_at hl 0 rfl) ?_
      refine q_bipush cx dX12_bits_5 rfl ?_
      refine q_icge (tgt := 24) cx ⟨by decide, by decide⟩ ⟨by decide, by decide⟩ dX12_bits_7 (by decide) (fun c38 => ?_) (fun c38 => ?_)
      · exact absurd c38 (by omega)
      · refine q_ild_n cx dX12_bits_10 rfl (lv_at hl 1 rfl) ?_
        refine q_ild_n cx dX12_bits_11 rfl (lv_at hl 2 rfl) ?_
        refine q_ild_n cx dX12_bits_12 rfl (lv_at hl 0 rfl) ?_
        refine lv_ishr cx.1 cx.2.1 dX12_bits_13 ?_
        rw [show q_i 0 >>> (q_i ((0 + 1) + 1) &&& 31) = q_i 0 from by decide]
        refine q_iconst cx dX12_bits_14 ?_
        refine lv_iand cx.1 cx.2.1 dX12_bits_15 ?_
        rw [show q_i 0 &&& q_i 1 = q_i 0 from by decide]
        refine q_iadd cx dX12_bits_16 ?_
        refine lv_istore_n (lv' := [(1, .int (q_i (((0 + 0) + 0) + 0))), (2, .int (q_i ((0 + 1) + 1))), (0, .int (q_i 0))]) cx.1 cx.2.1 dX12_bits_17 rfl hl (by decide) rfl (fun ls hl => ?_)
        refine q_iinc (lv' := [(2, .int (q_i (((0 + 1) + 1) + 1))), (1, .int (q_i (((0 + 0) + 0) + 0))), (0, .int (q_i 0))]) cx dX12_bits_18 hl (k := 1) rfl (by decide) rfl (fun ls hl => ?_)
        refine lv_goto (tgt := 4) cx.1 cx.2.1 dX12_bits_21 (by decide) ?_
        refine q_ild_n cx dX12_bits_4 rfl (lv_at hl 0 rfl) ?_
        refine q_bipush cx dX12_bits_5 rfl ?_
        refine q_icge (tgt := 24) cx ⟨by decide, by decide⟩ ⟨by decide, by decide⟩ dX12_bits_7 (by decide) (fun c41 => ?_) (fun c41 => ?_)
        · exact absurd c41 (by omega)
        · refine q_ild_n cx dX12_bits_10 rfl (lv_at hl 1 rfl) ?_
          refine q_ild_n cx dX12_bits_11 rfl (lv_at hl 2 rfl) ?_
          refine q_ild_n cx dX12_bits_12 rfl (lv_at hl 0 rfl) ?_
          refine lv_ishr cx.1 cx.2.1 dX12_bits_13 ?_
          rw [show q_i 0 >>> (q_i (((0 + 1) + 1) + 1) &&& 31) = q_i 0 from by decide]
          refine q_iconst cx dX12_bits_14 ?_
          refine lv_iand cx.1 cx.2.1 dX12_bits_15 ?_
          rw [show q_i 0 &&& q_i 1 = q_i 0 from by decide]
          refine q_iadd cx dX12_bits_16 ?_
          refine lv_istore_n (lv' := [(1, .int (q_i ((((0 + 0) + 0) + 0) + 0))), (2, .int (q_i (((0 + 1) + 1) + 1))), (0, .int (q_i 0))]) cx.1 cx.2.1 dX12_bits_17 rfl hl (by decide) rfl (fun ls hl => ?_)
          refine q_iinc (lv' := [(2, .int (q_i ((((0 + 1) + 1) + 1) + 1))), (1, .int (q_i ((((0 + 0) + 0) + 0) + 0))), (0, .int (q_i 0))]) cx dX12_bits_18 hl (k := 1) rfl (by decide) rfl (fun ls hl => ?_)
          refine lv_goto (tgt := 4) cx.1 cx.2.1 dX12_bits_21 (by decide) ?_
          refine q_ild_n cx dX12_bits_4 rfl (lv_at hl 0 rfl) ?_
          refine q_bipush cx dX12_bits_5 rfl ?_
          refine q_icge (tgt := 24) cx ⟨by decide, by decide⟩ ⟨by decide, by decide⟩ dX12_bits_7 (by decide) (fun c44 => ?_) (fun c44 => ?_)
          · exact absurd c44 (by omega)
          · refine q_ild_n cx dX12_bits_10 rfl (lv_at hl 1 rfl) ?_
            refine q_ild_n cx dX12_bits_11 rfl (lv_at hl 2 rfl) ?_
            refine q_ild_n cx dX12_bits_12 rfl (lv_at hl 0 rfl) ?_
            refine lv_ishr cx.1 cx.2.1 dX12_bits_13 ?_
            rw [show q_i 0 >>> (q_i ((((0 + 1) + 1) + 1) + 1) &&& 31) = q_i 0 from by decide]
            refine q_iconst cx dX12_bits_14 ?_
            refine lv_iand cx.1 cx.2.1 dX12_bits_15 ?_
            rw [show q_i 0 &&& q_i 1 = q_i 0 from by decide]
            refine q_iadd cx dX12_bits_16 ?_
            refine lv_istore_n (lv' := [(1, .int (q_i (((((0 + 0) + 0) + 0) + 0) + 0))), (2, .int (q_i ((((0 + 1) + 1) + 1) + 1))), (0, .int (q_i 0))]) cx.1 cx.2.1 dX12_bits_17 rfl hl (by decide) rfl (fun ls hl => ?_)
            refine q_iinc (lv' := [(2, .int (q_i (((((0 + 1) + 1) + 1) + 1) + 1))), (1, .int (q_i (((((0 + 0) + 0) + 0) + 0) + 0))), (0, .int (q_i 0))]) cx dX12_bits_18 hl (k := 1) rfl (by decide) rfl (fun ls hl => ?_)
            refine lv_goto (tgt := 4) cx.1 cx.2.1 dX12_bits_21 (by decide) ?_
            refine q_ild_n cx dX12_bits_4 rfl (lv_at hl 0 rfl) ?_
            refine q_bipush cx dX12_bits_5 rfl ?_
            refine q_icge (tgt := 24) cx ⟨by decide, by decide⟩ ⟨by decide, by decide⟩ dX12_bits_7 (by decide) (fun c47 => ?_) (fun c47 => ?_)
            · exact absurd c47 (by omega)
            · refine q_ild_n cx dX12_bits_10 rfl (lv_at hl 1 rfl) ?_
              refine q_ild_n cx dX12_bits_11 rfl (lv_at hl 2 rfl) ?_
              refine q_ild_n cx dX12_bits_12 rfl (lv_at hl 0 rfl) ?_
              refine lv_ishr cx.1 cx.2.1 dX12_bits_13 ?_
              rw [show q_i 0 >>> (q_i (((((0 + 1) + 1) + 1) + 1) + 1) &&& 31) = q_i 0 from by decide]
              refine q_iconst cx dX12_bits_14 ?_
              refine lv_iand cx.1 cx.2.1 dX12_bits_15 ?_
              rw [show q_i 0 &&& q_i 1 = q_i 0 from by decide]
              refine q_iadd cx dX12_bits_16 ?_
              refine lv_istore_n (lv' := [(1, .int (q_i ((((((0 + 0) + 0) + 0) + 0) + 0) + 0))), (2, .int (q_i (((((0 + 1) + 1) + 1) + 1) + 1))), (0, .int (q_i 0))]) cx.1 cx.2.1 dX12_bits_17 rfl hl (by decide) rfl (fun ls hl => ?_)
              refine q_iinc (lv' := [(2, .int (q_i ((((((0 + 1) + 1) + 1) + 1) + 1) + 1))), (1, .int (q_i ((((((0 + 0) + 0) + 0) + 0) + 0) + 0))), (0, .int (q_i 0))]) cx dX12_bits_18 hl (k := 1) rfl (by decide) rfl (fun ls hl => ?_)
              refine lv_goto (tgt := 4) cx.1 cx.2.1 dX12_bits_21 (by decide) ?_
              refine q_ild_n cx dX12_bits_4 rfl (lv_at hl 0 rfl) ?_
              refine q_bipush cx dX12_bits_5 rfl ?_
              refine q_icge (tgt := 24) cx ⟨by decide, by decide⟩ ⟨by decide, by decide⟩ dX12_bits_7 (by decide) (fun c50 => ?_) (fun c50 => ?_)
              · exact absurd c50 (by omega)
              · refine q_ild_n cx dX12_bits_10 rfl (lv_at hl 1 rfl) ?_
                refine q_ild_n cx dX12_bits_11 rfl (lv_at hl 2 rfl) ?_
                refine q_ild_n cx dX12_bits_12 rfl (lv_at hl 0 rfl) ?_
                refine lv_ishr cx.1 cx.2.1 dX12_bits_13 ?_
                rw [show q_i 0 >>> (q_i ((((((0 + 1) + 1) + 1) + 1) + 1) + 1) &&& 31) = q_i 0 from by decide]
                refine q_iconst cx dX12_bits_14 ?_
                refine lv_iand cx.1 cx.2.1 dX12_bits_15 ?_
                rw [show q_i 0 &&& q_i 1 = q_i 0 from by decide]
                refine q_iadd cx dX12_bits_16 ?_
                refine lv_istore_n (lv' := [(1, .int (q_i (((((((0 + 0) + 0) + 0) + 0) + 0) + 0) + 0))), (2, .int (q_i ((((((0 + 1) + 1) + 1) + 1) + 1) + 1))), (0, .int (q_i 0))]) cx.1 cx.2.1 dX12_bits_17 rfl hl (by decide) rfl (fun ls hl => ?_)
                refine q_iinc (lv' := [(2, .int (q_i (((((((0 + 1) + 1) + 1) + 1) + 1) + 1) + 1))), (1, .int (q_i (((((((0 + 0) + 0) + 0) + 0) + 0) + 0) + 0))), (0, .int (q_i 0))]) cx dX12_bits_18 hl (k := 1) rfl (by decide) rfl (fun ls hl => ?_)
                refine lv_goto (tgt := 4) cx.1 cx.2.1 dX12_bits_21 (by decide) ?_
                refine q_ild_n cx dX12_bits_4 rfl (lv_at hl 0 rfl) ?_
                refine q_bipush cx dX12_bits_5 rfl ?_
                refine q_icge (tgt := 24) cx ⟨by decide, by decide⟩ ⟨by decide, by decide⟩ dX12_bits_7 (by decide) (fun c53 => ?_) (fun c53 => ?_)
                · exact absurd c53 (by omega)
                · refine q_ild_n cx dX12_bits_10 rfl (lv_at hl 1 rfl) ?_
                  refine q_ild_n cx dX12_bits_11 rfl (lv_at hl 2 rfl) ?_
                  refine q_ild_n cx dX12_bits_12 rfl (lv_at hl 0 rfl) ?_
                  refine lv_ishr cx.1 cx.2.1 dX12_bits_13 ?_
                  rw [show q_i 0 >>> (q_i (((((((0 + 1) + 1) + 1) + 1) + 1) + 1) + 1) &&& 31) = q_i 0 from by decide]
                  refine q_iconst cx dX12_bits_14 ?_
                  refine lv_iand cx.1 cx.2.1 dX12_bits_15 ?_
                  rw [show q_i 0 &&& q_i 1 = q_i 0 from by decide]
                  refine q_iadd cx dX12_bits_16 ?_
                  refine lv_istore_n (lv' := [(1, .int (q_i ((((((((0 + 0) + 0) + 0) + 0) + 0) + 0) + 0) + 0))), (2, .int (q_i (((((((0 + 1) + 1) + 1) + 1) + 1) + 1) + 1))), (0, .int (q_i 0))]) cx.1 cx.2.1 dX12_bits_17 rfl hl (by decide) rfl (fun ls hl => ?_)
                  refine q_iinc (lv' := [(2, .int (q_i ((((((((0 + 1) + 1) + 1) + 1) + 1) + 1) + 1) + 1))), (1, .int (q_i ((((((((0 + 0) + 0) + 0) + 0) + 0) + 0) + 0) + 0))), (0, .int (q_i 0))]) cx dX12_bits_18 hl (k := 1) rfl (by decide) rfl (fun ls hl => ?_)
                  refine lv_goto (tgt := 4) cx.1 cx.2.1 dX12_bits_21 (by decide) ?_
                  refine q_ild_n cx dX12_bits_4 rfl (lv_at hl 0 rfl) ?_
                  refine q_bipush cx dX12_bits_5 rfl ?_
                  refine q_icge (tgt := 24) cx ⟨by decide, by decide⟩ ⟨by decide, by decide⟩ dX12_bits_7 (by decide) (fun c56 => ?_) (fun c56 => ?_)
                  · exact absurd c56 (by omega)
                  · refine q_ild_n cx dX12_bits_10 rfl (lv_at hl 1 rfl) ?_
                    refine q_ild_n cx dX12_bits_11 rfl (lv_at hl 2 rfl) ?_
                    refine q_ild_n cx dX12_bits_12 rfl (lv_at hl 0 rfl) ?_
                    refine lv_ishr cx.1 cx.2.1 dX12_bits_13 ?_
                    rw [show q_i 0 >>> (q_i ((((((((0 + 1) + 1) + 1) + 1) + 1) + 1) + 1) + 1) &&& 31) = q_i 0 from by decide]
                    refine q_iconst cx dX12_bits_14 ?_
                    refine lv_iand cx.1 cx.2.1 dX12_bits_15 ?_
                    rw [show q_i 0 &&& q_i 1 = q_i 0 from by decide]
                    refine q_iadd cx dX12_bits_16 ?_
                    refine lv_istore_n (lv' := [(1, .int (q_i (((((((((0 + 0) + 0) + 0) + 0) + 0) + 0) + 0) + 0) + 0))), (2, .int (q_i ((((((((0 + 1) + 1) + 1) + 1) + 1) + 1) + 1) + 1))), (0, .int (q_i 0))]) cx.1 cx.2.1 dX12_bits_17 rfl hl (by decide) rfl (fun ls hl => ?_)
                    refine q_iinc (lv' := [(2, .int (q_i (((((((((0 + 1) + 1) + 1) + 1) + 1) + 1) + 1) + 1) + 1))), (1, .int (q_i (((((((((0 + 0) + 0) + 0) + 0) + 0) + 0) + 0) + 0) + 0))), (0, .int (q_i 0))]) cx dX12_bits_18 hl (k := 1) rfl (by decide) rfl (fun ls hl => ?_)
                    refine lv_goto (tgt := 4) cx.1 cx.2.1 dX12_bits_21 (by decide) ?_
                    refine q_ild_n cx dX12_bits_4 rfl (lv_at hl 0 rfl) ?_
                    refine q_bipush cx dX12_bits_5 rfl ?_
                    refine q_icge (tgt := 24) cx ⟨by decide, by decide⟩ ⟨by decide, by decide⟩ dX12_bits_7 (by decide) (fun c59 => ?_) (fun c59 => ?_)
                    · exact absurd c59 (by omega)
                    · refine q_ild_n cx dX12_bits_10 rfl (lv_at hl 1 rfl) ?_
                      refine q_ild_n cx dX12_bits_11 rfl (lv_at hl 2 rfl) ?_
                      refine q_ild_n cx dX12_bits_12 rfl (lv_at hl 0 rfl) ?_
                      refine lv_ishr cx.1 cx.2.1 dX12_bits_13 ?_
                      rw [show q_i 0 >>> (q_i (((((((((0 + 1) + 1) + 1) + 1) + 1) + 1) + 1) + 1) + 1) &&& 31) = q_i 0 from by decide]
                      refine q_iconst cx dX12_bits_14 ?_
                      refine lv_iand cx.1 cx.2.1 dX12_bits_15 ?_
                      rw [show q_i 0 &&& q_i 1 = q_i 0 from by decide]
                      refine q_iadd cx dX12_bits_16 ?_
                      refine lv_istore_n (lv' := [(1, .int (q_i ((((((((((0 + 0) + 0) + 0) + 0) + 0) + 0) + 0) + 0) + 0) + 0))), (2, .int (q_i (((((((((0 + 1) + 1) + 1) + 1) + 1) + 1) + 1) + 1) + 1))), (0, .int (q_i 0))]) cx.1 cx.2.1 dX12_bits_17 rfl hl (by decide) rfl (fun ls hl => ?_)
                      refine q_iinc (lv' := [(2, .int (q_i ((((((((((0 + 1) + 1) + 1) + 1) + 1) + 1) + 1) + 1) + 1) + 1))), (1, .int (q_i ((((((((((0 + 0) + 0) + 0) + 0) + 0) + 0) + 0) + 0) + 0) + 0))), (0, .int (q_i 0))]) cx dX12_bits_18 hl (k := 1) rfl (by decide) rfl (fun ls hl => ?_)
                      refine lv_goto (tgt := 4) cx.1 cx.2.1 dX12_bits_21 (by decide) ?_
                      refine q_ild_n cx dX12_bits_4 rfl (lv_at hl 0 rfl) ?_
                      refine q_bipush cx dX12_bits_5 rfl ?_
                      refine q_icge (tgt := 24) cx ⟨by decide, by decide⟩ ⟨by decide, by decide⟩ dX12_bits_7 (by decide) (fun c62 => ?_) (fun c62 => ?_)
                      · refine q_ild_n cx dX12_bits_24 rfl (lv_at hl 1 rfl) ?_
                        refine q_iret cx hr hlk hB dX12_bits_25 ⟨by decide, by decide⟩ ?_
                        exact ⟨rfl, (by omega)⟩
                      · exact absurd c62 (by omega)
set_option maxHeartbeats 4000000 in
set_option maxRecDepth 100000 in
theorem r_wakes0 (l : Launch) (g : q_G) {K : Nat → Nat} {L : List Nat} (hN : L.Nodup) {f : Nat → va_E} (hT : q_Ty g K L f) (mo : Nat) (hmo : mo ∈ L) (kmo : K mo = 12) (sr : Nat) (hsr : sr ∈ L) (ksr : K sr = 151) (hf0 : q_z f sr 0 = 0) (hr0 : q_r f mo 13 = sr) : q_Ct l g K L yX12_wakes cX12_wakes 3 none 1 23 [.ref mo] f [(12, 26, 26)] (q_Pv (fun (f1 : Nat → va_E) => True)) := by
  refine q_ofb (by decide +kernel) hN hT (Nat.le_of_ble_eq_true rfl) ?_
  intro p e s m below meth c ls cx hr hlk hB hl
  have hl : lv_has ls 3 [(0, .ref mo)] := hl
  obtain ⟨H, hH⟩ : ∃ H : Heap, H = s.heap := ⟨_, rfl⟩
  obtain ⟨locs, hlocs⟩ : ∃ z : List Loc, z = [] := ⟨_, rfl⟩
  rw [← hH, ← hlocs] at hB
  rw [← hH, ← hlocs]
  refine q_ald_n cx dX12_wakes_0 rfl (lv_at hl 0 rfl) ?_
  refine q_iconst cx dX12_wakes_1 ?_
  refine q_pX12_283 cx hB hmo kmo ⟨by decide, by decide⟩ (by decide) (by decide) rfl dX12_wakes_2 (fun H locs f12 ef12 z13 hB => ?_)
  have z14 : q_z f12 sr 0 = 0 := by rw [ef12, q_setz (Or.inr (by decide))]; exact hf0
  have z15 : q_r f12 mo 13 = sr := by rw [ef12, q_setr (Or.inr (by decide))]; exact hr0
  refine q_ald_n cx dX12_wakes_5 rfl (lv_at hl 0 rfl) ?_
  refine q_iconst cx dX12_wakes_6 ?_
  refine q_cVi (As := [.int (q_i 0)]) (rest := []) cx hB (fun _ h => h) hN hmo kmo (by decide) rfl (r_awakeSet0 l g hN hB.2.1 mo hmo kmo 0 (by decide) (by decide) sr hsr ksr z14 z15) q_cX12_286 q_dX12_awakeSet (by decide) rfl rfl hl.1 rfl (Nat.le_of_ble_eq_true rfl) dX12_wakes_7 (fun y17 H locs f16 ry17 h18 hF hB => ?_)
  obtain ⟨rfl, qy17⟩ := h18
  subst qy17
  refine lv_istore_n (lv' := [(1, .int (q_i 0)), (0, .ref mo)]) cx.1 cx.2.1 dX12_wakes_10 rfl hl (by decide) rfl (fun ls hl => ?_)
  refine q_iconst cx dX12_wakes_11 ?_
  refine lv_istore_n (lv' := [(2, .int (q_i 0)), (1, .int (q_i 0)), (0, .ref mo)]) cx.1 cx.2.1 dX12_wakes_12 rfl hl (by decide) rfl (fun ls hl => ?_)
  refine q_ild_n cx dX12_wakes_13 rfl (lv_at hl 0 rfl) ?_
  refine q_ald_n cx dX12_wakes_14 rfl (lv_at hl 2 rfl) ?_
  refine q_gX12_20 cx hB hmo kmo z15 dX12_wakes_15 (fun hb19 kb19 => ?_)
  refine q_iconst cx dX12_wakes_18 ?_
  refine q_iald (lo := 0) (hi := 10) (n := 658) cx hB hsr ksr (by decide) rfl rfl (by decide) (by decide) (by decide) rfl z14 dX12_wakes_19 (fun lb21 ub21 => ?_)
  refine q_icge (tgt := 108) cx ⟨by decide, by decide⟩ ⟨by decide, by decide⟩ dX12_wakes_20 (by decide) (fun c22 => ?_) (fun c22 => ?_)
  · refine q_vret cx hr hlk hB dX12_wakes_108 ?_
    trivial
  · exact absurd c22 (by omega)
set_option maxHeartbeats 4000000 in
set_option maxRecDepth 100000 in
theorem r_passesAll0 (l : Launch) (g : q_G) {K : Nat → Nat} {L : List Nat} (hN : L.Nodup) {f : Nat → va_E} (hT : q_Ty g K L f) (mo : Nat) (hmo : mo ∈ L) (kmo : K mo = 12) (a0 : Int) (la0 : 0 ≤ a0) (ua0 : a0 ≤ 1) (sr : Nat) (hsr : sr ∈ L) (ksr : K sr = 151) (hf0 : q_z f sr 4 = 0) (hr0 : q_r f mo 13 = sr) : q_Ct l g K L yX12_passesAll cX12_passesAll 4 (some .int) 0 0 [.ref mo, .int (q_i a0)] f [] (q_Pi (fun (z : Int) (f1 : Nat → va_E) => f = f1 ∧ z = 0)) := by
  refine q_ofb (by decide +kernel) hN hT (Nat.le_of_ble_eq_true rfl) ?_
  intro p e s m below meth c ls cx hr hlk hB hl
  have hl : lv_has ls 4 [(0, .ref mo), (1, .int (q_i a0))] := hl
  obtain ⟨H, hH⟩ : ∃ H : Heap, H = s.heap := ⟨_, rfl⟩
  obtain ⟨locs, hlocs⟩ : ∃ z : List Loc, z = [] := ⟨_, rfl⟩
  rw [← hH, ← hlocs] at hB
  rw [← hH, ← hlocs]
  refine q_iconst cx dX12_passesAll_0 ?_
  refine lv_istore_n (lv' := [(2, .int (q_i 0)), (0, .ref mo), (1, .int (q_i a0))]) cx.1 cx.2.1 dX12_passesAll_1 rfl hl (by decide) rfl (fun ls hl => ?_)
  refine q_iconst cx dX12_passesAll_2 ?_
  refine lv_istore_n (lv' := [(3, .int (q_i 0)), (2, .int (q_i 0)), (0, .ref mo), (1, .int (q_i a0))]) cx.1 cx.2.1 dX12_passesAll_3 rfl hl (by decide) rfl (fun ls hl => ?_)
  refine q_ild_n cx dX12_passesAll_4 rfl (lv_at hl 0 rfl) ?_
  refine q_ald_n cx dX12_passesAll_5 rfl (lv_at hl 2 rfl) ?_
  refine q_gX12_20 cx hB hmo kmo hr0 dX12_passesAll_6 (fun hb5 kb5 => ?_)
  refine q_iconst cx dX12_passesAll_9 ?_
  refine q_iald (lo := 0) (hi := 61) (n := 658) cx hB hsr ksr (by decide) rfl rfl (by decide) (by decide) (by decide) rfl hf0 dX12_passesAll_10 (fun lb7 ub7 => ?_)
  refine q_icge (tgt := 50) cx ⟨by decide, by decide⟩ ⟨by decide, by decide⟩ dX12_passesAll_11 (by decide) (fun c8 => ?_) (fun c8 => ?_)
  · refine q_ild_n cx dX12_passesAll_50 rfl (lv_at hl 1 rfl) ?_
    refine q_iret cx hr hlk hB dX12_passesAll_51 ⟨by decide, by decide⟩ ?_
    exact ⟨rfl, rfl⟩
  · exact absurd c8 (by omega)
set_option maxHeartbeats 4000000 in
set_option maxRecDepth 100000 in
theorem r_loses0 (l : Launch) (g : q_G) {K : Nat → Nat} {L : List Nat} (hN : L.Nodup) {f : Nat → va_E} (hT : q_Ty g K L f) (mo : Nat) (hmo : mo ∈ L) (kmo : K mo = 12) (sr : Nat) (hsr : sr ∈ L) (ksr : K sr = 151) (hf0 : q_z f sr 4 = 0) (hr0 : q_r f mo 13 = sr) : q_Ct l g K L yX12_loses cX12_loses 2 none 0 0 [.ref mo] f [] (q_Pv (fun (f1 : Nat → va_E) => f = f1)) := by
  refine q_ofb (by decide +kernel) hN hT (Nat.le_of_ble_eq_true rfl) ?_
  intro p e s m below meth c ls cx hr hlk hB hl
  have hl : lv_has ls 2 [(0, .ref mo)] := hl
  obtain ⟨H, hH⟩ : ∃ H : Heap, H = s.heap := ⟨_, rfl⟩
  obtain ⟨locs, hlocs⟩ : ∃ z : List Loc, z = [] := ⟨_, rfl⟩
  rw [← hH, ← hlocs] at hB
  rw [← hH, ← hlocs]
  refine q_iconst cx dX12_loses_0 ?_
  refine lv_istore_n (lv' := [(1, .int (q_i 0)), (0, .ref mo)]) cx.1 cx.2.1 dX12_loses_1 rfl hl (by decide) rfl (fun ls hl => ?_)
  refine q_ild_n cx dX12_loses_2 rfl (lv_at hl 0 rfl) ?_
  refine q_ald_n cx dX12_loses_3 rfl (lv_at hl 1 rfl) ?_
  refine q_gX12_20 cx hB hmo kmo hr0 dX12_loses_4 (fun hb5 kb5 => ?_)
  refine q_iconst cx dX12_loses_7 ?_
  refine q_iald (lo := 0) (hi := 61) (n := 658) cx hB hsr ksr (by decide) rfl rfl (by decide) (by decide) (by decide) rfl hf0 dX12_loses_8 (fun lb7 ub7 => ?_)
  refine q_icge (tgt := 47) cx ⟨by decide, by decide⟩ ⟨by decide, by decide⟩ dX12_loses_9 (by decide) (fun c8 => ?_) (fun c8 => ?_)
  · refine q_vret cx hr hlk hB dX12_loses_47 ?_
    exact rfl
  · exact absurd c8 (by omega)
set_option maxHeartbeats 4000000 in
set_option maxRecDepth 100000 in
theorem r_ticksOnce0 (l : Launch) (g : q_G) {K : Nat → Nat} {L : List Nat} (hN : L.Nodup) {f : Nat → va_E} (hT : q_Ty g K L f) (mo : Nat) (hmo : mo ∈ L) (kmo : K mo = 12) (sr : Nat) (hsr : sr ∈ L) (ksr : K sr = 151) (t : Int) (lt : 0 ≤ t) (ut : t ≤ 19999) (hf0 : q_z f sr 0 = 0) (hf1 : q_z f sr 1 = 0) (hf2 : q_z f sr 4 = 0) (hf3 : q_z f sr 3 = t) (hr0 : q_r f mo 13 = sr) : q_Ct l g K L yX12_ticksOnce cX12_ticksOnce 2 (some .int) 2 45 [.ref mo] f [(12, 26, 28), (151, 3, 3)] (q_Pi (fun (z : Int) (f1 : Nat → va_E) => z = 0 ∧ q_z f1 sr 3 = (t + 1))) := by
  refine q_ofb (by decide +kernel) hN hT (Nat.le_of_ble_eq_true rfl) ?_
  intro p e s m below meth c ls cx hr hlk hB hl
  have hl : lv_has ls 2 [(0, .ref mo)] := hl
  obtain ⟨H, hH⟩ : ∃ H : Heap, H = s.heap := ⟨_, rfl⟩
  obtain ⟨locs, hlocs⟩ : ∃ z : List Loc, z = [] := ⟨_, rfl⟩
  rw [← hH, ← hlocs] at hB
  rw [← hH, ← hlocs]
  refine q_ald_n cx dX12_ticksOnce_0 rfl (lv_at hl 0 rfl) ?_
  refine q_gX12_20 cx hB hmo kmo hr0 dX12_ticksOnce_1 (fun hb46 kb46 => ?_)
  refine q_iconst cx dX12_ticksOnce_4 ?_
  refine lv_dup2_11 cx.1 cx.2.1 dX12_ticksOnce_5 rfl rfl ?_
  refine q_iald (lo := 0) (hi := 20000) (n := 658) cx hB hsr ksr (by decide) rfl rfl (by decide) (by decide) (by decide) rfl hf3 dX12_ticksOnce_6 (fun lb48 ub48 => ?_)
  refine q_iconst cx dX12_ticksOnce_7 ?_
  refine q_iadd cx dX12_ticksOnce_8 ?_
  refine q_iast (lo := 0) (hi := 20000) (n := 658) cx hB hsr ksr (by decide) rfl rfl (by decide) (by decide) (by decide) rfl ⟨by omega, by omega⟩ (by omega) (by omega) rfl dX12_ticksOnce_9 (fun H locs f49 ef49 z50 hB => ?_)
  have z51 : q_z f49 sr 0 = 0 := by rw [ef49, q_setz (Or.inr (by decide))]; exact hf0
  have z52 : q_z f49 sr 1 = 0 := by rw [ef49, q_setz (Or.inr (by decide))]; exact hf1
  have z53 : q_z f49 sr 4 = 0 := by rw [ef49, q_setz (Or.inr (by decide))]; exact hf2
  have z54 : q_r f49 mo 13 = sr := by rw [ef49, q_setr (Or.inr (by decide))]; exact hr0
  refine q_ald_n cx dX12_ticksOnce_10 rfl (lv_at hl 0 rfl) ?_
  refine q_cVv (As := []) (rest := []) cx hB (fun _ h => h) hN hmo kmo (by decide) rfl (r_wakes0 l g hN hB.2.1 mo hmo kmo sr hsr ksr z51 z54) q_cX12_326 q_dX12_wakes (by decide) rfl rfl hl.1 rfl (Nat.le_of_ble_eq_true rfl) dX12_ticksOnce_11 (fun H locs f55 h57 hF hB => ?_)
  have z58 : q_z f55 sr 0 = 0 := (hF.z hsr (by rw [ksr]; rfl)).trans z51
  have z59 : q_z f55 sr 1 = 0 := (hF.z hsr (by rw [ksr]; rfl)).trans z52
  have z60 : q_z f55 sr 4 = 0 := (hF.z hsr (by rw [ksr]; rfl)).trans z53
  have z61 : q_z f55 sr 3 = (t + 1) := (hF.z hsr (by rw [ksr]; rfl)).trans z50
  have z62 : q_r f55 mo 13 = sr := (hF.r hmo (by rw [kmo]; rfl)).trans z54
  refine q_iconst cx dX12_ticksOnce_14 ?_
  refine lv_istore_n (lv' := [(1, .int (q_i 0)), (0, .ref mo)]) cx.1 cx.2.1 dX12_ticksOnce_15 rfl hl (by decide) rfl (fun ls hl => ?_)
  refine q_ild_n cx dX12_ticksOnce_16 rfl (lv_at hl 0 rfl) ?_
  refine q_ald_n cx dX12_ticksOnce_17 rfl (lv_at hl 1 rfl) ?_
  refine q_gX12_20 cx hB hmo kmo z62 dX12_ticksOnce_18 (fun hb63 kb63 => ?_)
  refine q_iconst cx dX12_ticksOnce_21 ?_
  refine q_iald (lo := 0) (hi := 16) (n := 658) cx hB hsr ksr (by decide) rfl rfl (by decide) (by decide) (by decide) rfl z59 dX12_ticksOnce_22 (fun lb65 ub65 => ?_)
  refine q_icge (tgt := 37) cx ⟨by decide, by decide⟩ ⟨by decide, by decide⟩ dX12_ticksOnce_23 (by decide) (fun c66 => ?_) (fun c66 => ?_)
  · refine q_ald_n cx dX12_ticksOnce_37 rfl (lv_at hl 1 rfl) ?_
    refine q_iconst cx dX12_ticksOnce_38 ?_
    refine q_pX12_314 cx hB hmo kmo ⟨by decide, by decide⟩ (by decide) (by decide) rfl dX12_ticksOnce_39 (fun H locs f67 ef67 z68 hB => ?_)
    have z69 : q_z f67 sr 0 = 0 := by rw [ef67, q_setz (Or.inr (by decide))]; exact z58
    have z70 : q_z f67 sr 1 = 0 := by rw [ef67, q_setz (Or.inr (by decide))]; exact z59
    have z71 : q_z f67 sr 4 = 0 := by rw [ef67, q_setz (Or.inr (by decide))]; exact z60
    have z72 : q_z f67 sr 3 = (t + 1) := by rw [ef67, q_setz (Or.inr (by decide))]; exact z61
    have z73 : q_r f67 mo 13 = sr := by rw [ef67, q_setr (Or.inr (by decide))]; exact z62
    refine q_ald_n cx dX12_ticksOnce_42 rfl (lv_at hl 1 rfl) ?_
    refine q_iconst cx dX12_ticksOnce_43 ?_
    refine q_pX12_317 cx hB hmo kmo ⟨by decide, by decide⟩ (by decide) (by decide) rfl dX12_ticksOnce_44 (fun H locs f74 ef74 z75 hB => ?_)
    have z76 : q_z f74 sr 0 = 0 := by rw [ef74, q_setz (Or.inr (by decide))]; exact z69
    have z77 : q_z f74 sr 1 = 0 := by rw [ef74, q_setz (Or.inr (by decide))]; exact z70
    have z78 : q_z f74 sr 4 = 0 := by rw [ef74, q_setz (Or.inr (by decide))]; exact z71
    have z79 : q_z f74 sr 3 = (t + 1) := by rw [ef74, q_setz (Or.inr (by decide))]; exact z72
    have z80 : q_z f74 mo 27 = 0 := by rw [ef74, q_setz (Or.inr (by decide))]; exact z68
    have z81 : q_r f74 mo 13 = sr := by rw [ef74, q_setr (Or.inr (by decide))]; exact z73
    refine q_ald_n cx dX12_ticksOnce_47 rfl (lv_at hl 1 rfl) ?_
    refine q_iconst cx dX12_ticksOnce_48 ?_
    refine q_cVi (As := [.int (q_i 1)]) (rest := []) cx hB (fun _ h => h) hN hmo kmo (by decide) rfl (r_passesAll0 l g hN hB.2.1 mo hmo kmo 1 (by decide) (by decide) sr hsr ksr z78 z81) q_cX12_332 q_dX12_passesAll (by decide) rfl rfl hl.1 rfl (Nat.le_of_ble_eq_true rfl) dX12_ticksOnce_49 (fun y83 H locs f82 ry83 h84 hF hB => ?_)
    obtain ⟨rfl, qy83⟩ := h84
    subst qy83
    refine lv_istore_n (lv' := [(1, .int (q_i 0)), (0, .ref mo)]) cx.1 cx.2.1 dX12_ticksOnce_52 rfl hl (by decide) rfl (fun ls hl => ?_)
    refine q_ild_n cx dX12_ticksOnce_53 rfl (lv_at hl 0 rfl) ?_
    refine q_ald_n cx dX12_ticksOnce_54 rfl (lv_at hl 1 rfl) ?_
    refine q_iconst cx dX12_ticksOnce_55 ?_
    refine q_cVi (As := [.int (q_i 0)]) (rest := [.int (q_i 0)]) cx hB (fun _ h => h) hN hmo kmo (by decide) rfl (r_passesAll0 l g hN hB.2.1 mo hmo kmo 0 (by decide) (by decide) sr hsr ksr z78 z81) q_cX12_332 q_dX12_passesAll (by decide) rfl rfl hl.1 rfl (Nat.le_of_ble_eq_true rfl) dX12_ticksOnce_56 (fun y86 H locs f85 ry86 h87 hF hB => ?_)
    obtain ⟨rfl, qy86⟩ := h87
    subst qy86
    refine q_iadd cx dX12_ticksOnce_59 ?_
    refine lv_istore_n (lv' := [(1, .int (q_i (0 + 0))), (0, .ref mo)]) cx.1 cx.2.1 dX12_ticksOnce_60 rfl hl (by decide) rfl (fun ls hl => ?_)
    refine q_ald_n cx dX12_ticksOnce_61 rfl (lv_at hl 1 rfl) ?_
    refine q_cVv (As := []) (rest := []) cx hB (fun _ h => h) hN hmo kmo (by decide) rfl (r_loses0 l g hN hB.2.1 mo hmo kmo sr hsr ksr z78 z81) q_cX12_335 q_dX12_loses (by decide) rfl rfl hl.1 rfl (Nat.le_of_ble_eq_true rfl) dX12_ticksOnce_62 (fun H locs f88 h90 hF hB => ?_)
    obtain rfl := h90
    refine q_ild_n cx dX12_ticksOnce_65 rfl (lv_at hl 0 rfl) ?_
    refine q_iret cx hr hlk hB dX12_ticksOnce_66 ⟨by decide, by decide⟩ ?_
    exact ⟨(by omega), z79⟩
  · exact absurd c66 (by omega)
set_option maxHeartbeats 4000000 in
set_option maxRecDepth 100000 in
theorem r_ticksOn0 (l : Launch) (g : q_G) {K : Nat → Nat} {L : List Nat} (hN : L.Nodup) {f : Nat → va_E} (hT : q_Ty g K L f) (mo : Nat) (hmo : mo ∈ L) (kmo : K mo = 12) (a0 : Int) (la0 : 0 ≤ a0) (ua0 : a0 ≤ 99) (sr : Nat) (hsr : sr ∈ L) (ksr : K sr = 151) (hf0 : q_z f sr 0 = 0) (hf1 : q_z f sr 1 = 0) (hf2 : q_z f sr 3 = 0) (hf3 : q_z f sr 4 = 0) (hr0 : q_r f mo 13 = sr) : q_Ct l g K L yX12_ticksOn cX12_ticksOn 4 (some .int) 3 66 [.ref mo, .int (q_i a0)] f [(12, 26, 28), (151, 3, 3)] (q_Pi (fun (z : Int) (f1 : Nat → va_E) => z = 0)) := by
  refine q_ofb (by decide +kernel) hN hT (Nat.le_of_ble_eq_true rfl) ?_
  intro p e s m below meth c ls cx hr hlk hB hl
  have hl : lv_has ls 4 [(0, .ref mo), (1, .int (q_i a0))] := hl
  have J4 : ∀ (n : Nat) (f4 : Nat → va_E) (v4_1 : Int) (lv4_1 : 0 ≤ v4_1) (uv4_1 : v4_1 ≤ 99) (v4_2 : Int) (lv4_2 : 0 ≤ v4_2) (uv4_2 : v4_2 ≤ 0) (v4_3 : Int) (lv4_3 : 0 ≤ v4_3) (uv4_3 : v4_3 ≤ 99) (w4_sr_0 : Int) (lw4_sr_0 : 0 ≤ w4_sr_0) (uw4_sr_0 : w4_sr_0 ≤ 0) (w4_sr_1 : Int) (lw4_sr_1 : 0 ≤ w4_sr_1) (uw4_sr_1 : w4_sr_1 ≤ 0) (w4_sr_4 : Int) (lw4_sr_4 : 0 ≤ w4_sr_4) (uw4_sr_4 : w4_sr_4 ≤ 0) (w4_sr_3 : Int) (lw4_sr_3 : 0 ≤ w4_sr_3) (uw4_sr_3 : w4_sr_3 ≤ 99) (hj_sr_0 : q_z f4 sr 0 = w4_sr_0) (hj_sr_1 : q_z f4 sr 1 = w4_sr_1) (hj_sr_4 : q_z f4 sr 4 = w4_sr_4) (hj_sr_3 : q_z f4 sr 3 = w4_sr_3) (hq_mo_13 : q_r f4 mo 13 = sr) (hti : w4_sr_3 = v4_3) (hmu : (Int.toNat (2147483647 - v4_3)) < n) (H : Heap) (locs : List Loc) (hB : q_B g K L (fun q => q ∈ L) [(12, 26, 28), (151, 3, 3)] f f4 s H locs) (ls : Array Slot) (hl : lv_has ls 4 [(0, .ref mo), (1, .int (q_i v4_1)), (2, .int (q_i v4_2)), (3, .int (q_i v4_3))]), W p l e { frames := 3, cells := 0, slots := 0, locals := 66 } s m ([.ref mo, .int (q_i a0)] : List Value).toArray below meth c H locs 0 0 (MQ below (q_Q g K L [(12, 26, 28), (151, 3, 3)] f (q_Pi (fun (z : Int) (f1 : Nat → va_E) => z = 0))) ([.ref mo, .int (q_i a0)] : List Value).toArray s 0 0 (fun q => q ∈ L)) (F0 m 4 ls []) := by
    intro n
    induction n with
    | zero =>
      intro f4 v4_1 lv4_1 uv4_1 v4_2 lv4_2 uv4_2 v4_3 lv4_3 uv4_3 w4_sr_0 lw4_sr_0 uw4_sr_0 w4_sr_1 lw4_sr_1 uw4_sr_1 w4_sr_4 lw4_sr_4 uw4_sr_4 w4_sr_3 lw4_sr_3 uw4_sr_3 hj_sr_0 hj_sr_1 hj_sr_4 hj_sr_3 hq_mo_13 hti hmu
      exact absurd hmu (Nat.not_lt_zero _)
    | succ n ih4 =>
      intro f4 v4_1 lv4_1 uv4_1 v4_2 lv4_2 uv4_2 v4_3 lv4_3 uv4_3 w4_sr_0 lw4_sr_0 uw4_sr_0 w4_sr_1 lw4_sr_1 uw4_sr_1 w4_sr_4 lw4_sr_4 uw4_sr_4 w4_sr_3 lw4_sr_3 uw4_sr_3 hj_sr_0 hj_sr_1 hj_sr_4 hj_sr_3 hq_mo_13 hti hmu H locs hB ls hl
      refine q_ild_n cx dX12_ticksOn_4 rfl (lv_at hl 3 rfl) ?_
      refine q_ild_n cx dX12_ticksOn_5 rfl (lv_at hl 1 rfl) ?_
      refine q_icge (tgt := 22) cx ⟨by omega, by omega⟩ ⟨by omega, by omega⟩ dX12_ticksOn_6 (by decide) (fun c199 => ?_) (fun c199 => ?_)
      · refine q_ild_n cx dX12_ticksOn_22 rfl (lv_at hl 2 rfl) ?_
        refine q_iret cx hr hlk hB dX12_ticksOn_23 ⟨by omega, by omega⟩ ?_
        exact (by omega)
      · refine q_ild_n cx dX12_ticksOn_9 rfl (lv_at hl 2 rfl) ?_
        refine q_ald_n cx dX12_ticksOn_10 rfl (lv_at hl 0 rfl) ?_
        refine q_cVi (As := []) (rest := [.int (q_i v4_2)]) cx hB (fun _ h => h) hN hmo kmo (by decide) rfl (r_ticksOnce0 l g hN hB.2.1 mo hmo kmo sr hsr ksr w4_sr_3 (by omega) (by omega) (by omega) (by omega) (by omega) hj_sr_3 hq_mo_13) q_cX12_338 q_dX12_ticksOnce (by decide) rfl rfl hl.1 rfl (Nat.le_of_ble_eq_true rfl) dX12_ticksOn_11 (fun y201 H locs f200 ry201 h202 hF hB => ?_)
        obtain ⟨qy201, z203⟩ := h202
        have z204 : q_z f200 sr 0 = w4_sr_0 := (hF.z hsr (by rw [ksr]; rfl)).trans hj_sr_0
        have z205 : q_z f200 sr 1 = w4_sr_1 := (hF.z hsr (by rw [ksr]; rfl)).trans hj_sr_1
        have z206 : q_z f200 sr 4 = w4_sr_4 := (hF.z hsr (by rw [ksr]; rfl)).trans hj_sr_4
        have z207 : q_r f200 mo 13 = sr := (hF.r hmo (by rw [kmo]; rfl)).trans hq_mo_13
        subst qy201
        refine q_iadd cx dX12_ticksOn_14 ?_
        refine lv_istore_n (lv' := [(2, .int (q_i (v4_2 + 0))), (0, .ref mo), (1, .int (q_i v4_1)), (3, .int (q_i v4_3))]) cx.1 cx.2.1 dX12_ticksOn_15 rfl hl (by decide) rfl (fun ls hl => ?_)
        refine q_iinc (lv' := [(3, .int (q_i (v4_3 + 1))), (2, .int (q_i (v4_2 + 0))), (0, .ref mo), (1, .int (q_i v4_1))]) cx dX12_ticksOn_16 hl (k := 3) rfl (by decide) rfl (fun ls hl => ?_)
        refine lv_goto (tgt := 4) cx.1 cx.2.1 dX12_ticksOn_19 (by decide) ?_
        exact ih4 f200 v4_1 (by omega) (by omega) (v4_2 + 0) (by omega) (by omega) (v4_3 + 1) (by omega) (by omega) w4_sr_0 (by omega) (by omega) w4_sr_1 (by omega) (by omega) w4_sr_4 (by omega) (by omega) (w4_sr_3 + 1) (by omega) (by omega) z204 z205 z206 z203 z207 (by omega) (by omega) H locs hB ls (lv_sub hl [2, 3, 1, 0] rfl)
  obtain ⟨H, hH⟩ : ∃ H : Heap, H = s.heap := ⟨_, rfl⟩
  obtain ⟨locs, hlocs⟩ : ∃ z : List Loc, z = [] := ⟨_, rfl⟩
  rw [← hH, ← hlocs] at hB
  rw [← hH, ← hlocs]
  refine q_iconst cx dX12_ticksOn_0 ?_
  refine lv_istore_n (lv' := [(2, .int (q_i 0)), (0, .ref mo), (1, .int (q_i a0))]) cx.1 cx.2.1 dX12_ticksOn_1 rfl hl (by decide) rfl (fun ls hl => ?_)
  refine q_iconst cx dX12_ticksOn_2 ?_
  refine lv_istore_n (lv' := [(3, .int (q_i 0)), (2, .int (q_i 0)), (0, .ref mo), (1, .int (q_i a0))]) cx.1 cx.2.1 dX12_ticksOn_3 rfl hl (by decide) rfl (fun ls hl => ?_)
  exact J4 ((Int.toNat (2147483647 - 0)) + 1) f a0 (by omega) (by omega) 0 (by decide) (by decide) 0 (by decide) (by decide) 0 (by decide) (by decide) 0 (by decide) (by decide) 0 (by decide) (by decide) 0 (by decide) (by decide) hf0 hf1 hf3 hf2 hr0 (by omega) (Nat.lt_succ_self _) H locs hB ls (lv_sub hl [2, 3, 1, 0] rfl)
set_option maxHeartbeats 4000000 in
set_option maxRecDepth 100000 in
theorem r_swapsCell8 (l : Launch) (g : q_G) {K : Nat → Nat} {L : List Nat} (hN : L.Nodup) {f : Nat → va_E} (hT : q_Ty g K L f) (mo : Nat) (hmo : mo ∈ L) (kmo : K mo = 12) (a0 : Int) (la0 : 8 ≤ a0) (ua0 : a0 ≤ 8) (b0 : Int) (lb0 : 1 ≤ b0) (ub0 : b0 ≤ 9) (sr : Nat) (hsr : sr ∈ L) (ksr : K sr = 151) (hf0 : q_z f sr 8 = 3) (hr0 : q_r f mo 13 = sr) : q_Ct l g K L yX12_swapsCell cX12_swapsCell 4 (some .int) 0 0 [.ref mo, .int (q_i a0), .int (q_i b0)] f [(151, 8, 8)] (q_Pi (fun (z : Int) (f1 : Nat → va_E) => z = 3)) := by
  obtain rfl : a0 = 8 := by omega
  refine q_ofb (by decide +kernel) hN hT (Nat.le_of_ble_eq_true rfl) ?_
  intro p e s m below meth c ls cx hr hlk hB hl
  have hl : lv_has ls 4 [(0, .ref mo), (1, .int (q_i 8)), (2, .int (q_i b0))] := hl
  obtain ⟨H, hH⟩ : ∃ H : Heap, H = s.heap := ⟨_, rfl⟩
  obtain ⟨locs, hlocs⟩ : ∃ z : List Loc, z = [] := ⟨_, rfl⟩
  rw [← hH, ← hlocs] at hB
  rw [← hH, ← hlocs]
  refine q_ald_n cx dX12_swapsCell_0 rfl (lv_at hl 0 rfl) ?_
  refine q_gX12_20 cx hB hmo kmo hr0 dX12_swapsCell_1 (fun hb8 kb8 => ?_)
  refine q_ild_n cx dX12_swapsCell_4 rfl (lv_at hl 1 rfl) ?_
  refine q_iald (lo := 0) (hi := 9) (n := 658) cx hB hsr ksr (by decide) rfl rfl (by decide) (by decide) (by decide) rfl hf0 dX12_swapsCell_5 (fun lb10 ub10 => ?_)
  refine lv_istore_n (lv' := [(3, .int (q_i 3)), (0, .ref mo), (1, .int (q_i 8)), (2, .int (q_i b0))]) cx.1 cx.2.1 dX12_swapsCell_6 rfl hl (by decide) rfl (fun ls hl => ?_)
  refine q_ald_n cx dX12_swapsCell_7 rfl (lv_at hl 1 rfl) ?_
  refine q_gX12_20 cx hB hmo kmo hr0 dX12_swapsCell_8 (fun hb11 kb11 => ?_)
  refine q_ild_n cx dX12_swapsCell_11 rfl (lv_at hl 2 rfl) ?_
  refine q_ild_n cx dX12_swapsCell_12 rfl (lv_at hl 3 rfl) ?_
  refine q_iast (lo := 0) (hi := 9) (n := 658) cx hB hsr ksr (by decide) rfl rfl (by decide) (by decide) (by decide) rfl ⟨by omega, by omega⟩ (by omega) (by omega) rfl dX12_swapsCell_13 (fun H locs f12 ef12 z13 hB => ?_)
  have z14 : q_r f12 mo 13 = sr := by rw [ef12, q_setr (Or.inr (by decide))]; exact hr0
  refine q_ild_n cx dX12_swapsCell_14 rfl (lv_at hl 0 rfl) ?_
  refine q_iret cx hr hlk hB dX12_swapsCell_15 ⟨by decide, by decide⟩ ?_
  exact rfl
set_option maxHeartbeats 4000000 in
set_option maxRecDepth 100000 in
theorem r_runs0 (l : Launch) (g : q_G) {K : Nat → Nat} {L : List Nat} (hN : L.Nodup) {f : Nat → va_E} (hT : q_Ty g K L f) (mo : Nat) (hmo : mo ∈ L) (kmo : K mo = 12) (hf0 : q_z f mo 35 = 0) : q_Ct l g K L yX12_runs cX12_runs 6 (some .int) 0 0 [.ref mo] f [] (q_Pi (fun (z : Int) (f1 : Nat → va_E) => f = f1 ∧ z = 0)) := by
  refine q_ofb (by decide +kernel) hN hT (Nat.le_of_ble_eq_true rfl) ?_
  intro p e s m below meth c ls cx hr hlk hB hl
  have hl : lv_has ls 6 [(0, .ref mo)] := hl
  obtain ⟨H, hH⟩ : ∃ H : Heap, H = s.heap := ⟨_, rfl⟩
  obtain ⟨locs, hlocs⟩ : ∃ z : List Loc, z = [] := ⟨_, rfl⟩
  rw [← hH, ← hlocs] at hB
  rw [← hH, ← hlocs]
  refine q_iconst cx dX12_runs_0 ?_
  refine lv_istore_n (lv' := [(1, .int (q_i 0)), (0, .ref mo)]) cx.1 cx.2.1 dX12_runs_1 rfl hl (by decide) rfl (fun ls hl => ?_)
  refine q_iconst cx dX12_runs_2 ?_
  refine lv_istore_n (lv' := [(2, .int (q_i 0)), (1, .int (q_i 0)), (0, .ref mo)]) cx.1 cx.2.1 dX12_runs_3 rfl hl (by decide) rfl (fun ls hl => ?_)
  refine q_iconst cx dX12_runs_4 ?_
  refine lv_istore_n (lv' := [(3, .int (q_i 0)), (2, .int (q_i 0)), (1, .int (q_i 0)), (0, .ref mo)]) cx.1 cx.2.1 dX12_runs_5 rfl hl (by decide) rfl (fun ls hl => ?_)
  refine q_iconst cx dX12_runs_6 ?_
  refine lv_istore (lv' := [(4, .int (q_i 1)), (3, .int (q_i 0)), (2, .int (q_i 0)), (1, .int (q_i 0)), (0, .ref mo)]) cx.1 cx.2.1 dX12_runs_7 hl (by decide) rfl (fun ls hl => ?_)
  refine lv_iload cx.1 cx.2.1 dX12_runs_9 (lv_at hl 0 rfl) ?_
  refine q_ifeq (tgt := 186) cx ⟨by decide, by decide⟩ dX12_runs_11 (by decide) (fun c4 => ?_) (fun c4 => ?_)
  · exact absurd c4 (by omega)
  · refine q_ild_n cx dX12_runs_14 rfl (lv_at hl 1 rfl) ?_
    refine q_ald_n cx dX12_runs_15 rfl (lv_at hl 4 rfl) ?_
    refine q_gX12_494 cx hB hmo kmo hf0 dX12_runs_16 (fun lb5 ub5 => ?_)
    refine q_icge (tgt := 186) cx ⟨by decide, by decide⟩ ⟨by decide, by decide⟩ dX12_runs_19 (by decide) (fun c6 => ?_) (fun c6 => ?_)
    · refine q_ild_n cx dX12_runs_186 rfl (lv_at hl 3 rfl) ?_
      refine q_iret cx hr hlk hB dX12_runs_187 ⟨by decide, by decide⟩ ?_
      exact ⟨rfl, rfl⟩
    · exact absurd c6 (by omega)
