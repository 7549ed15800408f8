set_option maxHeartbeats 4000000 in
set_option maxRecDepth 100000 in
theorem r_isIn (l : Launch) (g : q_G) {K : Nat → Nat} {L : List Nat} (hN : L.Nodup) {f : Nat → va_E} (hT : q_Ty g K L f) (a1 : Int) (la1 : (-2147483648) ≤ a1) (ua1 : a1 ≤ 2147483647) (b1 : Int) (lb1 : (-2147483648) ≤ b1) (ub1 : b1 ≤ 2147483647) (c1 : Int) (lc1 : (-2147483648) ≤ c1) (uc1 : c1 ≤ 2147483647) : q_Ct l g K L yX12_isIn cX12_isIn 6 (some .boolean) 0 0 [.long (q_l a1), .long (q_l b1), .long (q_l c1)] f [] (q_Pi (fun (z : Int) (f1 : Nat → va_E) => (f = f1 ∧ z = 1 ∧ (b1 ≤ a1) ∧ (a1 ≤ c1)) ∨ (f = f1 ∧ z = 0 ∧ (k_nin b1 c1 a1)))) := by
  refine q_ofb (by decide +kernel) hN hT (Nat.le_of_ble_eq_true rfl) ?_
  intro p e s m below meth c ls cx hr hlk hB hl
  have hl : lv_has ls 6 [(0, .long (q_l a1)), (2, .long (q_l b1)), (4, .long (q_l c1))] := hl
  obtain ⟨H, hH⟩ : ∃ H : Heap, H = s.heap := ⟨_, rfl⟩
  obtain ⟨locs, hlocs⟩ : ∃ z : List Loc, z = [] := ⟨_, rfl⟩
  rw [← hH, ← hlocs] at hB
  rw [← hH, ← hlocs]
  refine q_lld_n cx dX12_isIn_0 rfl (lv_at hl 0 rfl) ?_
  refine q_lld_n cx dX12_isIn_1 rfl (lv_at hl 1 rfl) ?_
  refine q_lcmp cx dX12_isIn_2 (fun y5 ly5 uy5 ey5 gy5 hy5 => ?_)
  rw [q_lInt ⟨by omega, by omega⟩, q_lInt ⟨by omega, by omega⟩] at ey5 hy5
  refine q_iflt (tgt := 17) cx ⟨by omega, by omega⟩ dX12_isIn_3 (by decide) (fun c6 => ?_) (fun c6 => ?_)
  · refine q_iconst cx dX12_isIn_17 ?_
    refine q_zret cx hr hlk hB dX12_isIn_18 (by decide) (by decide) ?_
    exact (Or.inr ⟨rfl, rfl, (show _ ∨ _ by omega)⟩)
  · refine q_lld_n cx dX12_isIn_6 rfl (lv_at hl 0 rfl) ?_
    refine lv_lload cx.1 cx.2.1 dX12_isIn_7 (lv_at hl 2 rfl) ?_
    refine q_lcmp cx dX12_isIn_9 (fun y7 ly7 uy7 ey7 gy7 hy7 => ?_)
    rw [q_lInt ⟨by omega, by omega⟩, q_lInt ⟨by omega, by omega⟩] at ey7 hy7
    refine q_ifgt (tgt := 17) cx ⟨by omega, by omega⟩ dX12_isIn_10 (by decide) (fun c8 => ?_) (fun c8 => ?_)
    · refine q_iconst cx dX12_isIn_17 ?_
      refine q_zret cx hr hlk hB dX12_isIn_18 (by decide) (by decide) ?_
      exact (Or.inr ⟨rfl, rfl, (show _ ∨ _ by omega)⟩)
    · refine q_iconst cx dX12_isIn_13 ?_
      refine lv_goto (tgt := 18) cx.1 cx.2.1 dX12_isIn_14 (by decide) ?_
      refine q_zret cx hr hlk hB dX12_isIn_18 (by decide) (by decide) ?_
      exact (Or.inl ⟨rfl, rfl, (by omega), (by omega)⟩)
set_option maxHeartbeats 4000000 in
set_option maxRecDepth 100000 in
theorem r_truth0 (l : Launch) (g : q_G) {K : Nat → Nat} {L : List Nat} (hN : L.Nodup) {f : Nat → va_E} (hT : q_Ty g K L f) (a0 : Int) (la0 : 0 ≤ a0) (ua0 : a0 ≤ 0) : q_Ct l g K L yX12_truth cX12_truth 1 (some .int) 0 0 [.int (q_i a0)] f [] (q_Pi (fun (z : Int) (f1 : Nat → va_E) => f = f1 ∧ z = 0)) := by
  obtain rfl : a0 = 0 := by omega
  refine q_ofb (by decide +kernel) hN hT (Nat.le_of_ble_eq_true rfl) ?_
  intro p e s m below meth c ls cx hr hlk hB hl
  have hl : lv_has ls 1 [(0, .int (q_i 0))] := hl
  obtain ⟨H, hH⟩ : ∃ H : Heap, H = s.heap := ⟨_, rfl⟩
  obtain ⟨locs, hlocs⟩ : ∃ z : List Loc, z = [] := ⟨_, rfl⟩
  rw [← hH, ← hlocs] at hB
  rw [← hH, ← hlocs]
  refine q_ild_n cx dX12_truth_0 rfl (lv_at hl 0 rfl) ?_
  refine q_ifeq (tgt := 8) cx ⟨by decide, by decide⟩ dX12_truth_1 (by decide) (fun c2 => ?_) (fun c2 => ?_)
  · refine q_iconst cx dX12_truth_8 ?_
    refine q_iret cx hr hlk hB dX12_truth_9 ⟨by decide, by decide⟩ ?_
    exact ⟨rfl, rfl⟩
  · exact absurd c2 (by omega)
set_option maxHeartbeats 4000000 in
set_option maxRecDepth 100000 in
theorem r_truth1 (l : Launch) (g : q_G) {K : Nat → Nat} {L : List Nat} (hN : L.Nodup) {f : Nat → va_E} (hT : q_Ty g K L f) (a0 : Int) (la0 : 1 ≤ a0) (ua0 : a0 ≤ 1) : q_Ct l g K L yX12_truth cX12_truth 1 (some .int) 0 0 [.int (q_i a0)] f [] (q_Pi (fun (z : Int) (f1 : Nat → va_E) => f = f1 ∧ z = 1)) := by
  obtain rfl : a0 = 1 := by omega
  refine q_ofb (by decide +kernel) hN hT (Nat.le_of_ble_eq_true rfl) ?_
  intro p e s m below meth c ls cx hr hlk hB hl
  have hl : lv_has ls 1 [(0, .int (q_i 1))] := hl
  obtain ⟨H, hH⟩ : ∃ H : Heap, H = s.heap := ⟨_, rfl⟩
  obtain ⟨locs, hlocs⟩ : ∃ z : List Loc, z = [] := ⟨_, rfl⟩
  rw [← hH, ← hlocs] at hB
  rw [← hH, ← hlocs]
  refine q_ild_n cx dX12_truth_0 rfl (lv_at hl 0 rfl) ?_
  refine q_ifeq (tgt := 8) cx ⟨by decide, by decide⟩ dX12_truth_1 (by decide) (fun c2 => ?_) (fun c2 => ?_)
  · exact absurd c2 (by omega)
  · refine q_iconst cx dX12_truth_4 ?_
    refine lv_goto (tgt := 9) cx.1 cx.2.1 dX12_truth_5 (by decide) ?_
    refine q_iret cx hr hlk hB dX12_truth_9 ⟨by decide, by decide⟩ ?_
    exact ⟨rfl, rfl⟩
set_option maxHeartbeats 4000000 in
set_option maxRecDepth 100000 in
theorem r_has (l : Launch) (g : q_G) {K : Nat → Nat} {L : List Nat} (hN : L.Nodup) {f : Nat → va_E} (hT : q_Ty g K L f) (a0 : Int) (la0 : (-2147483648) ≤ a0) (ua0 : a0 ≤ 2147483647) (b0 : Int) (lb0 : (-2147483648) ≤ b0) (ub0 : b0 ≤ 2147483647) : q_Ct l g K L yX12_has cX12_has 2 (some .boolean) 0 0 [.int (q_i a0), .int (q_i b0)] f [] (q_Pi (fun (z : Int) (f1 : Nat → va_E) => f = f1 ∧ 0 ≤ z ∧ z ≤ 1)) := by
  refine q_ofb (by decide +kernel) hN hT (Nat.le_of_ble_eq_true rfl) ?_
  intro p e s m below meth c ls cx hr hlk hB hl
  have hl : lv_has ls 2 [(0, .int (q_i a0)), (1, .int (q_i b0))] := hl
  obtain ⟨H, hH⟩ : ∃ H : Heap, H = s.heap := ⟨_, rfl⟩
  obtain ⟨locs, hlocs⟩ : ∃ z : List Loc, z = [] := ⟨_, rfl⟩
  rw [← hH, ← hlocs] at hB
  rw [← hH, ← hlocs]
  refine q_ild_n cx dX12_has_0 rfl (lv_at hl 0 rfl) ?_
  refine q_ild_n cx dX12_has_1 rfl (lv_at hl 1 rfl) ?_
  refine q_ishr cx dX12_has_2 (fun y4 ry4 ey4 => ?_)
  refine q_iconst cx dX12_has_3 ?_
  refine q_iandm cx 1 (by decide) rfl dX12_has_4 (fun y5 ly5 uy5 ey5 => ?_)
  refine q_iconst cx dX12_has_5 ?_
  refine q_icne (tgt := 13) cx ⟨by omega, by omega⟩ ⟨by decide, by decide⟩ dX12_has_6 (by decide) (fun c6 => ?_) (fun c6 => ?_)
  · refine q_iconst cx dX12_has_13 ?_
    refine q_zret cx hr hlk hB dX12_has_14 (by decide) (by decide) ?_
    exact ⟨rfl, (by decide), (by decide)⟩
  · refine q_iconst cx dX12_has_9 ?_
    refine lv_goto (tgt := 14) cx.1 cx.2.1 dX12_has_10 (by decide) ?_
    refine q_zret cx hr hlk hB dX12_has_14 (by decide) (by decide) ?_
    exact ⟨rfl, (by decide), (by decide)⟩
set_option maxHeartbeats 4000000 in
set_option maxRecDepth 100000 in
theorem r_isLetter (l : Launch) (g : q_G) {K : Nat → Nat} {L : List Nat} (hN : L.Nodup) {f : Nat → va_E} (hT : q_Ty g K L f) (a0 : Int) (la0 : (-2147483648) ≤ a0) (ua0 : a0 ≤ 2147483647) : q_Ct l g K L yX12_isLetter cX12_isLetter 1 (some .boolean) 0 0 [.int (q_i a0)] f [] (q_Pi (fun (z : Int) (f1 : Nat → va_E) => (f = f1 ∧ z = 1 ∧ (97 ≤ a0) ∧ (a0 ≤ 122)) ∨ (f = f1 ∧ z = 0 ∧ (k_nin 97 122 a0)))) := by
  refine q_ofb (by decide +kernel) hN hT (Nat.le_of_ble_eq_true rfl) ?_
  intro p e s m below meth c ls cx hr hlk hB hl
  have hl : lv_has ls 1 [(0, .int (q_i a0))] := hl
  obtain ⟨H, hH⟩ : ∃ H : Heap, H = s.heap := ⟨_, rfl⟩
  obtain ⟨locs, hlocs⟩ : ∃ z : List Loc, z = [] := ⟨_, rfl⟩
  rw [← hH, ← hlocs] at hB
  rw [← hH, ← hlocs]
  refine q_ild_n cx dX12_isLetter_0 rfl (lv_at hl 0 rfl) ?_
  refine q_bipush cx dX12_isLetter_1 rfl ?_
  refine q_iclt (tgt := 16) cx ⟨by omega, by omega⟩ ⟨by decide, by decide⟩ dX12_isLetter_3 (by decide) (fun c3 => ?_) (fun c3 => ?_)
  · refine q_iconst cx dX12_isLetter_16 ?_
    refine q_zret cx hr hlk hB dX12_isLetter_17 (by decide) (by decide) ?_
    exact (Or.inr ⟨rfl, rfl, (show _ ∨ _ by omega)⟩)
  · refine q_ild_n cx dX12_isLetter_6 rfl (lv_at hl 0 rfl) ?_
    refine q_bipush cx dX12_isLetter_7 rfl ?_
    refine q_icgt (tgt := 16) cx ⟨by omega, by omega⟩ ⟨by decide, by decide⟩ dX12_isLetter_9 (by decide) (fun c4 => ?_) (fun c4 => ?_)
    · refine q_iconst cx dX12_isLetter_16 ?_
      refine q_zret cx hr hlk hB dX12_isLetter_17 (by decide) (by decide) ?_
      exact (Or.inr ⟨rfl, rfl, (show _ ∨ _ by omega)⟩)
    · refine q_iconst cx dX12_isLetter_12 ?_
      refine lv_goto (tgt := 17) cx.1 cx.2.1 dX12_isLetter_13 (by decide) ?_
      refine q_zret cx hr hlk hB dX12_isLetter_17 (by decide) (by decide) ?_
      exact (Or.inl ⟨rfl, rfl, (by omega), (by omega)⟩)
set_option maxHeartbeats 4000000 in
set_option maxRecDepth 100000 in
theorem r_isDigit (l : Launch) (g : q_G) {K : Nat → Nat} {L : List Nat} (hN : L.Nodup) {f : Nat → va_E} (hT : q_Ty g K L f) (a0 : Int) (la0 : (-2147483648) ≤ a0) (ua0 : a0 ≤ 2147483647) : q_Ct l g K L yX12_isDigit cX12_isDigit 1 (some .boolean) 0 0 [.int (q_i a0)] f [] (q_Pi (fun (z : Int) (f1 : Nat → va_E) => (f = f1 ∧ z = 1 ∧ (48 ≤ a0) ∧ (a0 ≤ 57)) ∨ (f = f1 ∧ z = 0 ∧ (k_nin 48 57 a0)))) := by
  refine q_ofb (by decide +kernel) hN hT (Nat.le_of_ble_eq_true rfl) ?_
  intro p e s m below meth c ls cx hr hlk hB hl
  have hl : lv_has ls 1 [(0, .int (q_i a0))] := hl
  obtain ⟨H, hH⟩ : ∃ H : Heap, H = s.heap := ⟨_, rfl⟩
  obtain ⟨locs, hlocs⟩ : ∃ z : List Loc, z = [] := ⟨_, rfl⟩
  rw [← hH, ← hlocs] at hB
  rw [← hH, ← hlocs]
  refine q_ild_n cx dX12_isDigit_0 rfl (lv_at hl 0 rfl) ?_
  refine q_bipush cx dX12_isDigit_1 rfl ?_
  refine q_iclt (tgt := 16) cx ⟨by omega, by omega⟩ ⟨by decide, by decide⟩ dX12_isDigit_3 (by decide) (fun c3 => ?_) (fun c3 => ?_)
  · refine q_iconst cx dX12_isDigit_16 ?_
    refine q_zret cx hr hlk hB dX12_isDigit_17 (by decide) (by decide) ?_
    exact (Or.inr ⟨rfl, rfl, (show _ ∨ _ by omega)⟩)
  · refine q_ild_n cx dX12_isDigit_6 rfl (lv_at hl 0 rfl) ?_
    refine q_bipush cx dX12_isDigit_7 rfl ?_
    refine q_icgt (tgt := 16) cx ⟨by omega, by omega⟩ ⟨by decide, by decide⟩ dX12_isDigit_9 (by decide) (fun c4 => ?_) (fun c4 => ?_)
    · refine q_iconst cx dX12_isDigit_16 ?_
      refine q_zret cx hr hlk hB dX12_isDigit_17 (by decide) (by decide) ?_
      exact (Or.inr ⟨rfl, rfl, (show _ ∨ _ by omega)⟩)
    · refine q_iconst cx dX12_isDigit_12 ?_
      refine lv_goto (tgt := 17) cx.1 cx.2.1 dX12_isDigit_13 (by decide) ?_
      refine q_zret cx hr hlk hB dX12_isDigit_17 (by decide) (by decide) ?_
      exact (Or.inl ⟨rfl, rfl, (by omega), (by omega)⟩)
set_option maxHeartbeats 4000000 in
set_option maxRecDepth 100000 in
theorem r_lesser (l : Launch) (g : q_G) {K : Nat → Nat} {L : List Nat} (hN : L.Nodup) {f : Nat → va_E} (hT : q_Ty g K L f) (a0 : Int) (la0 : (-2147483648) ≤ a0) (ua0 : a0 ≤ 2147483647) (b0 : Int) (lb0 : (-2147483648) ≤ b0) (ub0 : b0 ≤ 2147483647) : q_Ct l g K L yX12_lesser cX12_lesser 2 (some .int) 0 0 [.int (q_i a0), .int (q_i b0)] f [] (q_Pi (fun (z : Int) (f1 : Nat → va_E) => (f = f1 ∧ z = a0 ∧ (a0 ≤ b0)) ∨ (f = f1 ∧ z = b0 ∧ (b0 ≤ a0)))) := by
  refine q_ofb (by decide +kernel) hN hT (Nat.le_of_ble_eq_true rfl) ?_
  intro p e s m below meth c ls cx hr hlk hB hl
  have hl : lv_has ls 2 [(0, .int (q_i a0)), (1, .int (q_i b0))] := hl
  obtain ⟨H, hH⟩ : ∃ H : Heap, H = s.heap := ⟨_, rfl⟩
  obtain ⟨locs, hlocs⟩ : ∃ z : List Loc, z = [] := ⟨_, rfl⟩
  rw [← hH, ← hlocs] at hB
  rw [← hH, ← hlocs]
  refine q_ild_n cx dX12_lesser_0 rfl (lv_at hl 0 rfl) ?_
  refine q_ild_n cx dX12_lesser_1 rfl (lv_at hl 1 rfl) ?_
  refine q_icge (tgt := 9) cx ⟨by omega, by omega⟩ ⟨by omega, by omega⟩ dX12_lesser_2 (by decide) (fun c2 => ?_) (fun c2 => ?_)
  · refine q_ild_n cx dX12_lesser_9 rfl (lv_at hl 1 rfl) ?_
    refine q_iret cx hr hlk hB dX12_lesser_10 ⟨by omega, by omega⟩ ?_
    exact (Or.inr ⟨rfl, rfl, (by omega)⟩)
  · refine q_ild_n cx dX12_lesser_5 rfl (lv_at hl 0 rfl) ?_
    refine lv_goto (tgt := 10) cx.1 cx.2.1 dX12_lesser_6 (by decide) ?_
    refine q_iret cx hr hlk hB dX12_lesser_10 ⟨by omega, by omega⟩ ?_
    exact (Or.inl ⟨rfl, rfl, (by omega)⟩)
set_option maxHeartbeats 4000000 in
set_option maxRecDepth 100000 in
theorem r_greater (l : Launch) (g : q_G) {K : Nat → Nat} {L : List Nat} (hN : L.Nodup) {f : Nat → va_E} (hT : q_Ty g K L f) (a0 : Int) (la0 : (-2147483648) ≤ a0) (ua0 : a0 ≤ 2147483647) (b0 : Int) (lb0 : (-2147483648) ≤ b0) (ub0 : b0 ≤ 2147483647) : q_Ct l g K L yX12_greater cX12_greater 2 (some .int) 0 0 [.int (q_i a0), .int (q_i b0)] f [] (q_Pi (fun (z : Int) (f1 : Nat → va_E) => (f = f1 ∧ z = a0 ∧ (b0 ≤ a0)) ∨ (f = f1 ∧ z = b0 ∧ (a0 ≤ b0)))) := by
  refine q_ofb (by decide +kernel) hN hT (Nat.le_of_ble_eq_true rfl) ?_
  intro p e s m below meth c ls cx hr hlk hB hl
  have hl : lv_has ls 2 [(0, .int (q_i a0)), (1, .int (q_i b0))] := hl
  obtain ⟨H, hH⟩ : ∃ H : Heap, H = s.heap := ⟨_, rfl⟩
  obtain ⟨locs, hlocs⟩ : ∃ z : List Loc, z = [] := ⟨_, rfl⟩
  rw [← hH, ← hlocs] at hB
  rw [← hH, ← hlocs]
  refine q_ild_n cx dX12_greater_0 rfl (lv_at hl 0 rfl) ?_
  refine q_ild_n cx dX12_greater_1 rfl (lv_at hl 1 rfl) ?_
  refine q_icle (tgt := 9) cx ⟨by omega, by omega⟩ ⟨by omega, by omega⟩ dX12_greater_2 (by decide) (fun c2 => ?_) (fun c2 => ?_)
  · refine q_ild_n cx dX12_greater_9 rfl (lv_at hl 1 rfl) ?_
    refine q_iret cx hr hlk hB dX12_greater_10 ⟨by omega, by omega⟩ ?_
    exact (Or.inr ⟨rfl, rfl, (by omega)⟩)
  · refine q_ild_n cx dX12_greater_5 rfl (lv_at hl 0 rfl) ?_
    refine lv_goto (tgt := 10) cx.1 cx.2.1 dX12_greater_6 (by decide) ?_
    refine q_iret cx hr hlk hB dX12_greater_10 ⟨by omega, by omega⟩ ?_
    exact (Or.inl ⟨rfl, rfl, (by omega)⟩)
set_option maxHeartbeats 4000000 in
set_option maxRecDepth 100000 in
theorem r_nodeCell (l : Launch) (g : q_G) {K : Nat → Nat} {L : List Nat} (hN : L.Nodup) {f : Nat → va_E} (hT : q_Ty g K L f) (a0 : Int) (la0 : 0 ≤ a0) (ua0 : a0 ≤ 9) (b0 : Int) (lb0 : 0 ≤ b0) (ub0 : b0 ≤ 7) : q_Ct l g K L yX12_nodeCell cX12_nodeCell 2 (some .int) 0 0 [.int (q_i a0), .int (q_i b0)] f [] (q_Pi (fun (z : Int) (f1 : Nat → va_E) => f = f1 ∧ z = (10 + 8 * a0 + b0))) := by
  refine q_ofb (by decide +kernel) hN hT (Nat.le_of_ble_eq_true rfl) ?_
  intro p e s m below meth c ls cx hr hlk hB hl
  have hl : lv_has ls 2 [(0, .int (q_i a0)), (1, .int (q_i b0))] := hl
  obtain ⟨H, hH⟩ : ∃ H : Heap, H = s.heap := ⟨_, rfl⟩
  obtain ⟨locs, hlocs⟩ : ∃ z : List Loc, z = [] := ⟨_, rfl⟩
  rw [← hH, ← hlocs] at hB
  rw [← hH, ← hlocs]
  refine q_bipush cx dX12_nodeCell_0 rfl ?_
  refine q_bipush cx dX12_nodeCell_2 rfl ?_
  refine q_ild_n cx dX12_nodeCell_4 rfl (lv_at hl 0 rfl) ?_
  refine q_imul cx dX12_nodeCell_5 ?_
  refine q_iadd cx dX12_nodeCell_6 ?_
  refine q_ild_n cx dX12_nodeCell_7 rfl (lv_at hl 1 rfl) ?_
  refine q_iadd cx dX12_nodeCell_8 ?_
  refine q_iret cx hr hlk hB dX12_nodeCell_9 ⟨by omega, by omega⟩ ?_
  exact ⟨rfl, (by omega)⟩
set_option maxHeartbeats 4000000 in
set_option maxRecDepth 100000 in
theorem r_isMany (l : Launch) (g : q_G) {K : Nat → Nat} {L : List Nat} (hN : L.Nodup) {f : Nat → va_E} (hT : q_Ty g K L f) (a0 : Int) (la0 : (-2147483648) ≤ a0) (ua0 : a0 ≤ 2147483647) : q_Ct l g K L yX12_isMany cX12_isMany 1 (some .boolean) 1 25 [.int (q_i a0)] f [] (q_Pi (fun (z : Int) (f1 : Nat → va_E) => (f = f1 ∧ z = 1 ∧ (1 ≤ a0) ∧ (a0 ≤ 999)) ∨ (f = f1 ∧ z = 0 ∧ (k_nin 1 999 a0)))) := by
  refine q_ofb (by decide +kernel) hN hT (Nat.le_of_ble_eq_true rfl) ?_
  intro p e s m below meth c ls cx hr hlk hB hl
  have hl : lv_has ls 1 [(0, .int (q_i a0))] := hl
  obtain ⟨H, hH⟩ : ∃ H : Heap, H = s.heap := ⟨_, rfl⟩
  obtain ⟨locs, hlocs⟩ : ∃ z : List Loc, z = [] := ⟨_, rfl⟩
  rw [← hH, ← hlocs] at hB
  rw [← hH, ← hlocs]
  refine q_ild_n cx dX12_isMany_0 rfl (lv_at hl 0 rfl) ?_
  refine q_i2l cx ⟨by omega, by omega⟩ dX12_isMany_1 ?_
  refine q_lconst (z := 1) cx (by decide) dX12_isMany_2 ?_
  refine lv_ldc2 (v := q_l 999) cx.1 cx.2.1 cx.2.2.2.1 (cx.2.2.2.2 _ q_h2170) dX12_isMany_3 ?_
  refine q_cSi (As := [.long (q_l a0), .long (q_l 1), .long (q_l 999)]) (rest := []) cx hB (fun _ h => h) hN (r_isIn l g hN hB.2.1 a0 (by omega) (by omega) 1 (by decide) (by decide) 999 (by decide) (by decide)) q_cX12_93 q_dX12_isIn (by decide) rfl rfl hl.1 rfl (Nat.le_of_ble_eq_true rfl) dX12_isMany_6 (fun y10 H locs f9 ry10 h11 hF hB => ?_)
  rcases h11 with h12 | h13
  · obtain ⟨rfl, qy10, t14, t15⟩ := h12
    subst qy10
    refine q_zret cx hr hlk hB dX12_isMany_9 (by decide) (by decide) ?_
    exact (Or.inl ⟨rfl, rfl, (by omega), (by omega)⟩)
  · obtain ⟨rfl, qy10, t16⟩ := h13
    subst qy10
    refine q_zret cx hr hlk hB dX12_isMany_9 (by decide) (by decide) ?_
    exact (Or.inr ⟨rfl, rfl, t16⟩)
set_option maxHeartbeats 4000000 in
set_option maxRecDepth 100000 in
theorem r_areTicks (l : Launch) (g : q_G) {K : Nat → Nat} {L : List Nat} (hN : L.Nodup) {f : Nat → va_E} (hT : q_Ty g K L f) (a0 : Int) (la0 : (-2147483648) ≤ a0) (ua0 : a0 ≤ 2147483647) : q_Ct l g K L yX12_areTicks cX12_areTicks 1 (some .boolean) 1 25 [.int (q_i a0)] f [] (q_Pi (fun (z : Int) (f1 : Nat → va_E) => (f = f1 ∧ z = 1 ∧ (1 ≤ a0) ∧ (a0 ≤ 99)) ∨ (f = f1 ∧ z = 0 ∧ (k_nin 1 99 a0)))) := by
  refine q_ofb (by decide +kernel) hN hT (Nat.le_of_ble_eq_true rfl) ?_
  intro p e s m below meth c ls cx hr hlk hB hl
  have hl : lv_has ls 1 [(0, .int (q_i a0))] := hl
  obtain ⟨H, hH⟩ : ∃ H : Heap, H = s.heap := ⟨_, rfl⟩
  obtain ⟨locs, hlocs⟩ : ∃ z : List Loc, z = [] := ⟨_, rfl⟩
  rw [← hH, ← hlocs] at hB
  rw [← hH, ← hlocs]
  refine q_ild_n cx dX12_areTicks_0 rfl (lv_at hl 0 rfl) ?_
  refine q_i2l cx ⟨by omega, by omega⟩ dX12_areTicks_1 ?_
  refine q_lconst (z := 1) cx (by decide) dX12_areTicks_2 ?_
  refine lv_ldc2 (v := q_l 99) cx.1 cx.2.1 cx.2.2.2.1 (cx.2.2.2.2 _ q_h1973) dX12_areTicks_3 ?_
  refine q_cSi (As := [.long (q_l a0), .long (q_l 1), .long (q_l 99)]) (rest := []) cx hB (fun _ h => h) hN (r_isIn l g hN hB.2.1 a0 (by omega) (by omega) 1 (by decide) (by decide) 99 (by decide) (by decide)) q_cX12_93 q_dX12_isIn (by decide) rfl rfl hl.1 rfl (Nat.le_of_ble_eq_true rfl) dX12_areTicks_6 (fun y10 H locs f9 ry10 h11 hF hB => ?_)
  rcases h11 with h12 | h13
  · obtain ⟨rfl, qy10, t14, t15⟩ := h12
    subst qy10
    refine q_zret cx hr hlk hB dX12_areTicks_9 (by decide) (by decide) ?_
    exact (Or.inl ⟨rfl, rfl, (by omega), (by omega)⟩)
  · obtain ⟨rfl, qy10, t16⟩ := h13
    subst qy10
    refine q_zret cx hr hlk hB dX12_areTicks_9 (by decide) (by decide) ?_
    exact (Or.inr ⟨rfl, rfl, t16⟩)
set_option maxHeartbeats 4000000 in
set_option maxRecDepth 100000 in
theorem r_bits (l : Launch) (g : q_G) {K : Nat → Nat} {L : List Nat} (hN : L.Nodup) {f : Nat → va_E} (hT : q_Ty g K L f) (a0 : Int) (la0 : (-2147483648) ≤ a0) (ua0 : a0 ≤ 2147483647) : q_Ct l g K L yX12_bits cX12_bits 3 (some .int) 0 0 [.int (q_i a0)] f [] (q_Pi (fun (z : Int) (f1 : Nat → va_E) => f = f1)) := by
  refine q_ofb (by decide +kernel) hN hT (Nat.le_of_ble_eq_true rfl) ?_
  intro p e s m below meth c ls cx hr hlk hB hl
  have hl : lv_has ls 3 [(0, .int (q_i a0))] := hl
  have J4 : ∀ (n : Nat) (v4_1 : Int) (lv4_1 : (-2147483648) ≤ v4_1) (uv4_1 : v4_1 ≤ 2147483647) (v4_2 : Int) (lv4_2 : 0 ≤ v4_2) (uv4_2 : v4_2 ≤ 10) (hmu : (Int.toNat (2147483647 - v4_2)) < n) (H : Heap) (locs : List Loc) (hB : q_B g K L (fun q => q ∈ L) [] f f s H locs) (ls : Array Slot) (hl : lv_has ls 3 [(0, .int (q_i a0)), (1, .int (q_i v4_1)), (2, .int (q_i v4_2))]), W p l e { frames := 0, cells := 0, slots := 0, locals := 0 } s m ([.int (q_i a0)] : List Value).toArray below meth c H locs 0 0 (MQ below (q_Q g K L [] f (q_Pi (fun (z : Int) (f1 : Nat → va_E) => f = f1))) ([.int (q_i a0)] : List Value).toArray s 0 0 (fun q => q ∈ L)) (F0 m 4 ls []) := by
    intro n
    induction n with
    | zero =>
      intro v4_1 lv4_1 uv4_1 v4_2 lv4_2 uv4_2 hmu
      exact absurd hmu (Nat.not_lt_zero _)
    | succ n ih4 =>
      intro v4_1 lv4_1 uv4_1 v4_2 lv4_2 uv4_2 hmu H locs hB ls hl
      refine q_ild_n cx dX12_bits_4 rfl (lv_at hl 2 rfl) ?_
      refine q_bipush cx dX12_bits_5 rfl ?_
      refine q_icge (tgt := 24) cx ⟨by omega, by omega⟩ ⟨by decide, by decide⟩ dX12_bits_7 (by decide) (fun c111 => ?_) (fun c111 => ?_)
      · refine q_ild_n cx dX12_bits_24 rfl (lv_at hl 1 rfl) ?_
        refine q_iret cx hr hlk hB dX12_bits_25 ⟨by omega, by omega⟩ ?_
        exact rfl
      · refine q_ild_n cx dX12_bits_10 rfl (lv_at hl 1 rfl) ?_
        refine q_ild_n cx dX12_bits_11 rfl (lv_at hl 0 rfl) ?_
        refine q_ild_n cx dX12_bits_12 rfl (lv_at hl 2 rfl) ?_
        refine q_ishr cx dX12_bits_13 (fun y112 ry112 ey112 => ?_)
        refine q_iconst cx dX12_bits_14 ?_
        refine q_iandm cx 1 (by decide) rfl dX12_bits_15 (fun y113 ly113 uy113 ey113 => ?_)
        refine q_iadd cx dX12_bits_16 ?_
        refine q_any (fun y114 ry114 ey114 => ?_)
        refine lv_istore_n (lv' := [(1, .int (q_i y114)), (0, .int (q_i a0)), (2, .int (q_i v4_2))]) cx.1 cx.2.1 dX12_bits_17 rfl hl (by decide) rfl (fun ls hl => ?_)
        refine q_iinc (lv' := [(2, .int (q_i (v4_2 + 1))), (1, .int (q_i y114)), (0, .int (q_i a0))]) cx dX12_bits_18 hl (k := 2) rfl (by decide) rfl (fun ls hl => ?_)
        refine lv_goto (tgt := 4) cx.1 cx.2.1 dX12_bits_21 (by decide) ?_
        exact ih4 y114 (by omega) (by omega) (v4_2 + 1) (by omega) (by omega) (by omega) H locs hB ls (lv_sub hl [2, 1, 0] rfl)
  obtain ⟨H, hH⟩ : ∃ H : Heap, H = s.heap := ⟨_, rfl⟩
  obtain ⟨locs, hlocs⟩ : ∃ z : List Loc, z = [] := ⟨_, rfl⟩
  rw [← hH, ← hlocs] at hB
  rw [← hH, ← hlocs]
  refine q_iconst cx dX12_bits_0 ?_
  refine lv_istore_n (lv' := [(1, .int (q_i 0)), (0, .int (q_i a0))]) cx.1 cx.2.1 dX12_bits_1 rfl hl (by decide) rfl (fun ls hl => ?_)
  refine q_iconst cx dX12_bits_2 ?_
  refine lv_istore_n (lv' := [(2, .int (q_i 0)), (1, .int (q_i 0)), (0, .int (q_i a0))]) cx.1 cx.2.1 dX12_bits_3 rfl hl (by decide) rfl (fun ls hl => ?_)
  exact J4 ((Int.toNat (2147483647 - 0)) + 1) 0 (by decide) (by decide) 0 (by decide) (by decide) (Nat.lt_succ_self _) H locs hB ls (lv_sub hl [2, 1, 0] rfl)
set_option maxHeartbeats 4000000 in
set_option maxRecDepth 100000 in
theorem r_goes0 (l : Launch) (g : q_G) {K : Nat → Nat} {L : List Nat} (hN : L.Nodup) {f : Nat → va_E} (hT : q_Ty g K L f) (mo : Nat) (hmo : mo ∈ L) (kmo : K mo = 12) (a0 : Int) (la0 : 0 ≤ a0) (ua0 : a0 ≤ 0) : q_Ct l g K L yX12_goes cX12_goes 2 (some .boolean) 1 20 [.ref mo, .int (q_i a0)] f [(12, 0, 0)] (q_Pi (fun (z : Int) (f1 : Nat → va_E) => z = 0 ∧ q_is (q_z f1 mo 0) 1)) := by
  obtain rfl : a0 = 0 := by omega
  refine q_ofb (by decide +kernel) hN hT (Nat.le_of_ble_eq_true rfl) ?_
  intro p e s m below meth c ls cx hr hlk hB hl
  have hl : lv_has ls 2 [(0, .ref mo), (1, .int (q_i 0))] := hl
  obtain ⟨H, hH⟩ : ∃ H : Heap, H = s.heap := ⟨_, rfl⟩
  obtain ⟨locs, hlocs⟩ : ∃ z : List Loc, z = [] := ⟨_, rfl⟩
  rw [← hH, ← hlocs] at hB
  rw [← hH, ← hlocs]
  refine q_ald_n cx dX12_goes_0 rfl (lv_at hl 0 rfl) ?_
  refine q_ild_n cx dX12_goes_1 rfl (lv_at hl 1 rfl) ?_
  refine q_ifne (tgt := 9) cx ⟨by decide, by decide⟩ dX12_goes_2 (by decide) (fun c7 => ?_) (fun c7 => ?_)
  · exact absurd c7 (by omega)
  · refine q_iconst cx dX12_goes_5 ?_
    refine lv_goto (tgt := 10) cx.1 cx.2.1 dX12_goes_6 (by decide) ?_
    refine q_cSi (As := [.int (q_i 1)]) (rest := [.ref mo]) cx hB (fun _ h => h) hN (r_truth1 l g hN hB.2.1 1 (by decide) (by decide)) q_cX12_78 q_dX12_truth (by decide) rfl rfl hl.1 rfl (Nat.le_of_ble_eq_true rfl) dX12_goes_10 (fun y9 H locs f8 ry9 h10 hF hB => ?_)
    obtain ⟨rfl, qy9⟩ := h10
    subst qy9
    refine q_pX12_75 cx hB hmo kmo ⟨by decide, by decide⟩ (by decide) (by decide) rfl dX12_goes_13 (fun H locs f11 ef11 z12 hB => ?_)
    refine q_ild_n cx dX12_goes_16 rfl (lv_at hl 1 rfl) ?_
    refine q_zret cx hr hlk hB dX12_goes_17 (by decide) (by decide) ?_
    exact ⟨rfl, z12⟩
set_option maxHeartbeats 4000000 in
set_option maxRecDepth 100000 in
theorem r_goes1 (l : Launch) (g : q_G) {K : Nat → Nat} {L : List Nat} (hN : L.Nodup) {f : Nat → va_E} (hT : q_Ty g K L f) (mo : Nat) (hmo : mo ∈ L) (kmo : K mo = 12) (a0 : Int) (la0 : 1 ≤ a0) (ua0 : a0 ≤ 1) : q_Ct l g K L yX12_goes cX12_goes 2 (some .boolean) 1 20 [.ref mo, .int (q_i a0)] f [(12, 0, 0)] (q_Pi (fun (z : Int) (f1 : Nat → va_E) => z = 1 ∧ q_is (q_z f1 mo 0) 0)) := by
  obtain rfl : a0 = 1 := by omega
  refine q_ofb (by decide +kernel) hN hT (Nat.le_of_ble_eq_true rfl) ?_
  intro p e s m below meth c ls cx hr hlk hB hl
  have hl : lv_has ls 2 [(0, .ref mo), (1, .int (q_i 1))] := hl
  obtain ⟨H, hH⟩ : ∃ H : Heap, H = s.heap := ⟨_, rfl⟩
  obtain ⟨locs, hlocs⟩ : ∃ z : List Loc, z = [] := ⟨_, rfl⟩
  rw [← hH, ← hlocs] at hB
  rw [← hH, ← hlocs]
  refine q_ald_n cx dX12_goes_0 rfl (lv_at hl 0 rfl) ?_
  refine q_ild_n cx dX12_goes_1 rfl (lv_at hl 1 rfl) ?_
  refine q_ifne (tgt := 9) cx ⟨by decide, by decide⟩ dX12_goes_2 (by decide) (fun c7 => ?_) (fun c7 => ?_)
  · refine q_iconst cx dX12_goes_9 ?_
    refine q_cSi (As := [.int (q_i 0)]) (rest := [.ref mo]) cx hB (fun _ h => h) hN (r_truth0 l g hN hB.2.1 0 (by decide) (by decide)) q_cX12_78 q_dX12_truth (by decide) rfl rfl hl.1 rfl (Nat.le_of_ble_eq_true rfl) dX12_goes_10 (fun y9 H locs f8 ry9 h10 hF hB => ?_)
    obtain ⟨rfl, qy9⟩ := h10
    subst qy9
    refine q_pX12_75 cx hB hmo kmo ⟨by decide, by decide⟩ (by decide) (by decide) rfl dX12_goes_13 (fun H locs f11 ef11 z12 hB => ?_)
    refine q_ild_n cx dX12_goes_16 rfl (lv_at hl 1 rfl) ?_
    refine q_zret cx hr hlk hB dX12_goes_17 (by decide) (by decide) ?_
    exact ⟨rfl, z12⟩
  · exact absurd c7 (by omega)
set_option maxHeartbeats 4000000 in
set_option maxRecDepth 100000 in
theorem r_goesBoth0 (l : Launch) (g : q_G) {K : Nat → Nat} {L : List Nat} (hN : L.Nodup) {f : Nat → va_E} (hT : q_Ty g K L f) (mo : Nat) (hmo : mo ∈ L) (kmo : K mo = 12) (a0 : Int) (la0 : 0 ≤ a0) (ua0 : a0 ≤ 0) (b0 : Int) (lb0 : 0 ≤ b0) (ub0 : b0 ≤ 1) : q_Ct l g K L yX12_goesBoth cX12_goesBoth 3 (some .boolean) 0 0 [.ref mo, .int (q_i a0), .int (q_i b0)] f [(12, 0, 0)] (q_Pi (fun (z : Int) (f1 : Nat → va_E) => z = 0 ∧ q_is (q_z f1 mo 0) 1)) := by
  obtain rfl : a0 = 0 := by omega
  refine q_ofb (by decide +kernel) hN hT (Nat.le_of_ble_eq_true rfl) ?_
  intro p e s m below meth c ls cx hr hlk hB hl
  have hl : lv_has ls 3 [(0, .ref mo), (1, .int (q_i 0)), (2, .int (q_i b0))] := hl
  obtain ⟨H, hH⟩ : ∃ H : Heap, H = s.heap := ⟨_, rfl⟩
  obtain ⟨locs, hlocs⟩ : ∃ z : List Loc, z = [] := ⟨_, rfl⟩
  rw [← hH, ← hlocs] at hB
  rw [← hH, ← hlocs]
  refine q_ald_n cx dX12_goesBoth_0 rfl (lv_at hl 0 rfl) ?_
  refine q_ild_n cx dX12_goesBoth_1 rfl (lv_at hl 1 rfl) ?_
  refine q_ifne (tgt := 9) cx ⟨by decide, by decide⟩ dX12_goesBoth_2 (by decide) (fun c6 => ?_) (fun c6 => ?_)
  · exact absurd c6 (by omega)
  · refine q_iconst cx dX12_goesBoth_5 ?_
    refine lv_goto (tgt := 18) cx.1 cx.2.1 dX12_goesBoth_6 (by decide) ?_
    refine q_pX12_75 cx hB hmo kmo ⟨by decide, by decide⟩ (by decide) (by decide) rfl dX12_goesBoth_18 (fun H locs f7 ef7 z8 hB => ?_)
    refine q_ald_n cx dX12_goesBoth_21 rfl (lv_at hl 0 rfl) ?_
    refine q_gX12_75 cx hB hmo kmo z8 dX12_goesBoth_22 (fun lb9 ub9 => ?_)
    refine q_ifne (tgt := 32) cx ⟨by decide, by decide⟩ dX12_goesBoth_25 (by decide) (fun c10 => ?_) (fun c10 => ?_)
    · refine q_iconst cx dX12_goesBoth_32 ?_
      refine q_zret cx hr hlk hB dX12_goesBoth_33 (by decide) (by decide) ?_
      exact ⟨rfl, z8⟩
    · exact absurd c10 (by omega)
set_option maxHeartbeats 4000000 in
set_option maxRecDepth 100000 in
theorem r_goesBoth1 (l : Launch) (g : q_G) {K : Nat → Nat} {L : List Nat} (hN : L.Nodup) {f : Nat → va_E} (hT : q_Ty g K L f) (mo : Nat) (hmo : mo ∈ L) (kmo : K mo = 12) (a0 : Int) (la0 : 1 ≤ a0) (ua0 : a0 ≤ 1) (b0 : Int) (lb0 : 0 ≤ b0) (ub0 : b0 ≤ 0) : q_Ct l g K L yX12_goesBoth cX12_goesBoth 3 (some .boolean) 0 0 [.ref mo, .int (q_i a0), .int (q_i b0)] f [(12, 0, 0)] (q_Pi (fun (z : Int) (f1 : Nat → va_E) => z = 0 ∧ q_is (q_z f1 mo 0) 2)) := by
  obtain rfl : a0 = 1 := by omega
  obtain rfl : b0 = 0 := by omega
  refine q_ofb (by decide +kernel) hN hT (Nat.le_of_ble_eq_true rfl) ?_
  intro p e s m below meth c ls cx hr hlk hB hl
  have hl : lv_has ls 3 [(0, .ref mo), (1, .int (q_i 1)), (2, .int (q_i 0))] := hl
  obtain ⟨H, hH⟩ : ∃ H : Heap, H = s.heap := ⟨_, rfl⟩
  obtain ⟨locs, hlocs⟩ : ∃ z : List Loc, z = [] := ⟨_, rfl⟩
  rw [← hH, ← hlocs] at hB
  rw [← hH, ← hlocs]
  refine q_ald_n cx dX12_goesBoth_0 rfl (lv_at hl 0 rfl) ?_
  refine q_ild_n cx dX12_goesBoth_1 rfl (lv_at hl 1 rfl) ?_
  refine q_ifne (tgt := 9) cx ⟨by decide, by decide⟩ dX12_goesBoth_2 (by decide) (fun c7 => ?_) (fun c7 => ?_)
  · refine q_ild_n cx dX12_goesBoth_9 rfl (lv_at hl 2 rfl) ?_
    refine q_ifne (tgt := 17) cx ⟨by decide, by decide⟩ dX12_goesBoth_10 (by decide) (fun c8 => ?_) (fun c8 => ?_)
    · exact absurd c8 (by omega)
    · refine q_iconst cx dX12_goesBoth_13 ?_
      refine lv_goto (tgt := 18) cx.1 cx.2.1 dX12_goesBoth_14 (by decide) ?_
      refine q_pX12_75 cx hB hmo kmo ⟨by decide, by decide⟩ (by decide) (by decide) rfl dX12_goesBoth_18 (fun H locs f9 ef9 z10 hB => ?_)
      refine q_ald_n cx dX12_goesBoth_21 rfl (lv_at hl 0 rfl) ?_
      refine q_gX12_75 cx hB hmo kmo z10 dX12_goesBoth_22 (fun lb11 ub11 => ?_)
      refine q_ifne (tgt := 32) cx ⟨by decide, by decide⟩ dX12_goesBoth_25 (by decide) (fun c12 => ?_) (fun c12 => ?_)
      · refine q_iconst cx dX12_goesBoth_32 ?_
        refine q_zret cx hr hlk hB dX12_goesBoth_33 (by decide) (by decide) ?_
        exact ⟨rfl, z10⟩
      · exact absurd c12 (by omega)
  · exact absurd c7 (by omega)
set_option maxHeartbeats 4000000 in
set_option maxRecDepth 100000 in
theorem r_goesBoth2 (l : Launch) (g : q_G) {K : Nat → Nat} {L : List Nat} (hN : L.Nodup) {f : Nat → va_E} (hT : q_Ty g K L f) (mo : Nat) (hmo : mo ∈ L) (kmo : K mo = 12) (a0 : Int) (la0 : 1 ≤ a0) (ua0 : a0 ≤ 1) (b0 : Int) (lb0 : 1 ≤ b0) (ub0 : b0 ≤ 1) : q_Ct l g K L yX12_goesBoth cX12_goesBoth 3 (some .boolean) 0 0 [.ref mo, .int (q_i a0), .int (q_i b0)] f [(12, 0, 0)] (q_Pi (fun (z : Int) (f1 : Nat → va_E) => z = 1 ∧ q_is (q_z f1 mo 0) 0)) := by
  obtain rfl : a0 = 1 := by omega
  obtain rfl : b0 = 1 := by omega
  refine q_ofb (by decide +kernel) hN hT (Nat.le_of_ble_eq_true rfl) ?_
  intro p e s m below meth c ls cx hr hlk hB hl
  have hl : lv_has ls 3 [(0, .ref mo), (1, .int (q_i 1)), (2, .int (q_i 1))] := hl
  obtain ⟨H, hH⟩ : ∃ H : Heap, H = s.heap := ⟨_, rfl⟩
  obtain ⟨locs, hlocs⟩ : ∃ z : List Loc, z = [] := ⟨_, rfl⟩
  rw [← hH, ← hlocs] at hB
  rw [← hH, ← hlocs]
  refine q_ald_n cx dX12_goesBoth_0 rfl (lv_at hl 0 rfl) ?_
  refine q_ild_n cx dX12_goesBoth_1 rfl (lv_at hl 1 rfl) ?_
  refine q_ifne (tgt := 9) cx ⟨by decide, by decide⟩ dX12_goesBoth_2 (by decide) (fun c7 => ?_) (fun c7 => ?_)
  · refine q_ild_n cx dX12_goesBoth_9 rfl (lv_at hl 2 rfl) ?_
    refine q_ifne (tgt := 17) cx ⟨by decide, by decide⟩ dX12_goesBoth_10 (by decide) (fun c8 => ?_) (fun c8 => ?_)
    · refine q_iconst cx dX12_goesBoth_17 ?_
      refine q_pX12_75 cx hB hmo kmo ⟨by decide, by decide⟩ (by decide) (by decide) rfl dX12_goesBoth_18 (fun H locs f9 ef9 z10 hB => ?_)
      refine q_ald_n cx dX12_goesBoth_21 rfl (lv_at hl 0 rfl) ?_
      refine q_gX12_75 cx hB hmo kmo z10 dX12_goesBoth_22 (fun lb11 ub11 => ?_)
      refine q_ifne (tgt := 32) cx ⟨by decide, by decide⟩ dX12_goesBoth_25 (by decide) (fun c12 => ?_) (fun c12 => ?_)
      · exact absurd c12 (by omega)
      · refine q_iconst cx dX12_goesBoth_28 ?_
        refine lv_goto (tgt := 33) cx.1 cx.2.1 dX12_goesBoth_29 (by decide) ?_
        refine q_zret cx hr hlk hB dX12_goesBoth_33 (by decide) (by decide) ?_
        exact ⟨rfl, z10⟩
    · exact absurd c8 (by omega)
  · exact absurd c7 (by omega)
set_option maxHeartbeats 4000000 in
set_option maxRecDepth 100000 in
theorem r_goesAll0 (l : Launch) (g : q_G) {K : Nat → Nat} {L : List Nat} (hN : L.Nodup) {f : Nat → va_E} (hT : q_Ty g K L f) (mo : Nat) (hmo : mo ∈ L) (kmo : K mo = 12) (a0 : Int) (la0 : 0 ≤ a0) (ua0 : a0 ≤ 0) (b0 : Int) (lb0 : 0 ≤ b0) (ub0 : b0 ≤ 1) (c0 : Int) (lc0 : 0 ≤ c0) (uc0 : c0 ≤ 1) : q_Ct l g K L yX12_goesAll cX12_goesAll 4 (some .boolean) 1 22 [.ref mo, .int (q_i a0), .int (q_i b0), .int (q_i c0)] f [(12, 0, 0)] (q_Pi (fun (z : Int) (f1 : Nat → va_E) => z = 0 ∧ q_is (q_z f1 mo 0) 1)) := by
  obtain rfl : a0 = 0 := by omega
  refine q_ofb (by decide +kernel) hN hT (Nat.le_of_ble_eq_true rfl) ?_
  intro p e s m below meth c ls cx hr hlk hB hl
  have hl : lv_has ls 4 [(0, .ref mo), (1, .int (q_i 0)), (2, .int (q_i b0)), (3, .int (q_i c0))] := hl
  obtain ⟨H, hH⟩ : ∃ H : Heap, H = s.heap := ⟨_, rfl⟩
  obtain ⟨locs, hlocs⟩ : ∃ z : List Loc, z = [] := ⟨_, rfl⟩
  rw [← hH, ← hlocs] at hB
  rw [← hH, ← hlocs]
  refine q_ald_n cx dX12_goesAll_0 rfl (lv_at hl 0 rfl) ?_
  refine q_ild_n cx dX12_goesAll_1 rfl (lv_at hl 1 rfl) ?_
  refine q_ild_n cx dX12_goesAll_2 rfl (lv_at hl 2 rfl) ?_
  refine q_cVi (As := [.int (q_i 0), .int (q_i b0)]) (rest := []) cx hB (fun _ h => h) hN hmo kmo (by decide) rfl (r_goesBoth0 l g hN hB.2.1 mo hmo kmo 0 (by decide) (by decide) b0 (by omega) (by omega)) q_cX12_358 q_dX12_goesBoth (by decide) rfl rfl hl.1 rfl (Nat.le_of_ble_eq_true rfl) dX12_goesAll_3 (fun y9 H locs f8 ry9 h10 hF hB => ?_)
  obtain ⟨qy9, z11⟩ := h10
  subst qy9
  refine q_ifeq (tgt := 18) cx ⟨by decide, by decide⟩ dX12_goesAll_6 (by decide) (fun c12 => ?_) (fun c12 => ?_)
  · refine q_ald_n cx dX12_goesAll_18 rfl (lv_at hl 0 rfl) ?_
    refine q_gX12_75 cx hB hmo kmo z11 dX12_goesAll_19 (fun lb13 ub13 => ?_)
    refine q_ifne (tgt := 29) cx ⟨by decide, by decide⟩ dX12_goesAll_22 (by decide) (fun c14 => ?_) (fun c14 => ?_)
    · refine q_iconst cx dX12_goesAll_29 ?_
      refine q_zret cx hr hlk hB dX12_goesAll_30 (by decide) (by decide) ?_
      exact ⟨rfl, z11⟩
    · exact absurd c14 (by omega)
  · exact absurd c12 (by omega)
set_option maxHeartbeats 4000000 in
set_option maxRecDepth 100000 in
theorem r_goesAll1 (l : Launch) (g : q_G) {K : Nat → Nat} {L : List Nat} (hN : L.Nodup) {f : Nat → va_E} (hT : q_Ty g K L f) (mo : Nat) (hmo : mo ∈ L) (kmo : K mo = 12) (a0 : Int) (la0 : 1 ≤ a0) (ua0 : a0 ≤ 1) (b0 : Int) (lb0 : 0 ≤ b0) (ub0 : b0 ≤ 0) (c0 : Int) (lc0 : 0 ≤ c0) (uc0 : c0 ≤ 1) : q_Ct l g K L yX12_goesAll cX12_goesAll 4 (some .boolean) 1 22 [.ref mo, .int (q_i a0), .int (q_i b0), .int (q_i c0)] f [(12, 0, 0)] (q_Pi (fun (z : Int) (f1 : Nat → va_E) => z = 0 ∧ q_is (q_z f1 mo 0) 2)) := by
  obtain rfl : a0 = 1 := by omega
  obtain rfl : b0 = 0 := by omega
  refine q_ofb (by decide +kernel) hN hT (Nat.le_of_ble_eq_true rfl) ?_
  intro p e s m below meth c ls cx hr hlk hB hl
  have hl : lv_has ls 4 [(0, .ref mo), (1, .int (q_i 1)), (2, .int (q_i 0)), (3, .int (q_i c0))] := hl
  obtain ⟨H, hH⟩ : ∃ H : Heap, H = s.heap := ⟨_, rfl⟩
  obtain ⟨locs, hlocs⟩ : ∃ z : List Loc, z = [] := ⟨_, rfl⟩
  rw [← hH, ← hlocs] at hB
  rw [← hH, ← hlocs]
  refine q_ald_n cx dX12_goesAll_0 rfl (lv_at hl 0 rfl) ?_
  refine q_ild_n cx dX12_goesAll_1 rfl (lv_at hl 1 rfl) ?_
  refine q_ild_n cx dX12_goesAll_2 rfl (lv_at hl 2 rfl) ?_
  refine q_cVi (As := [.int (q_i 1), .int (q_i 0)]) (rest := []) cx hB (fun _ h => h) hN hmo kmo (by decide) rfl (r_goesBoth1 l g hN hB.2.1 mo hmo kmo 1 (by decide) (by decide) 0 (by decide) (by decide)) q_cX12_358 q_dX12_goesBoth (by decide) rfl rfl hl.1 rfl (Nat.le_of_ble_eq_true rfl) dX12_goesAll_3 (fun y9 H locs f8 ry9 h10 hF hB => ?_)
  obtain ⟨qy9, z11⟩ := h10
  subst qy9
  refine q_ifeq (tgt := 18) cx ⟨by decide, by decide⟩ dX12_goesAll_6 (by decide) (fun c12 => ?_) (fun c12 => ?_)
  · refine q_ald_n cx dX12_goesAll_18 rfl (lv_at hl 0 rfl) ?_
    refine q_gX12_75 cx hB hmo kmo z11 dX12_goesAll_19 (fun lb13 ub13 => ?_)
    refine q_ifne (tgt := 29) cx ⟨by decide, by decide⟩ dX12_goesAll_22 (by decide) (fun c14 => ?_) (fun c14 => ?_)
    · refine q_iconst cx dX12_goesAll_29 ?_
      refine q_zret cx hr hlk hB dX12_goesAll_30 (by decide) (by decide) ?_
      exact ⟨rfl, z11⟩
    · exact absurd c14 (by omega)
  · exact absurd c12 (by omega)
set_option maxHeartbeats 4000000 in
set_option maxRecDepth 100000 in
theorem r_goesAll2 (l : Launch) (g : q_G) {K : Nat → Nat} {L : List Nat} (hN : L.Nodup) {f : Nat → va_E} (hT : q_Ty g K L f) (mo : Nat) (hmo : mo ∈ L) (kmo : K mo = 12) (a0 : Int) (la0 : 1 ≤ a0) (ua0 : a0 ≤ 1) (b0 : Int) (lb0 : 1 ≤ b0) (ub0 : b0 ≤ 1) (c0 : Int) (lc0 : 0 ≤ c0) (uc0 : c0 ≤ 0) : q_Ct l g K L yX12_goesAll cX12_goesAll 4 (some .boolean) 1 22 [.ref mo, .int (q_i a0), .int (q_i b0), .int (q_i c0)] f [(12, 0, 0)] (q_Pi (fun (z : Int) (f1 : Nat → va_E) => z = 0 ∧ q_is (q_z f1 mo 0) 3)) := by
  obtain rfl : a0 = 1 := by omega
  obtain rfl : b0 = 1 := by omega
  obtain rfl : c0 = 0 := by omega
  refine q_ofb (by decide +kernel) hN hT (Nat.le_of_ble_eq_true rfl) ?_
  intro p e s m below meth c ls cx hr hlk hB hl
  have hl : lv_has ls 4 [(0, .ref mo), (1, .int (q_i 1)), (2, .int (q_i 1)), (3, .int (q_i 0))] := hl
  obtain ⟨H, hH⟩ : ∃ H : Heap, H = s.heap := ⟨_, rfl⟩
  obtain ⟨locs, hlocs⟩ : ∃ z : List Loc, z = [] := ⟨_, rfl⟩
  rw [← hH, ← hlocs] at hB
  rw [← hH, ← hlocs]
  refine q_ald_n cx dX12_goesAll_0 rfl (lv_at hl 0 rfl) ?_
  refine q_ild_n cx dX12_goesAll_1 rfl (lv_at hl 1 rfl) ?_
  refine q_ild_n cx dX12_goesAll_2 rfl (lv_at hl 2 rfl) ?_
  refine q_cVi (As := [.int (q_i 1), .int (q_i 1)]) (rest := []) cx hB (fun _ h => h) hN hmo kmo (by decide) rfl (r_goesBoth2 l g hN hB.2.1 mo hmo kmo 1 (by decide) (by decide) 1 (by decide) (by decide)) q_cX12_358 q_dX12_goesBoth (by decide) rfl rfl hl.1 rfl (Nat.le_of_ble_eq_true rfl) dX12_goesAll_3 (fun y12 H locs f11 ry12 h13 hF hB => ?_)
  obtain ⟨qy12, z14⟩ := h13
  subst qy12
  refine q_ifeq (tgt := 18) cx ⟨by decide, by decide⟩ dX12_goesAll_6 (by decide) (fun c15 => ?_) (fun c15 => ?_)
  · exact absurd c15 (by omega)
  · refine q_ild_n cx dX12_goesAll_9 rfl (lv_at hl 3 rfl) ?_
    refine q_ifne (tgt := 18) cx ⟨by decide, by decide⟩ dX12_goesAll_10 (by decide) (fun c16 => ?_) (fun c16 => ?_)
    · exact absurd c16 (by omega)
    · refine q_ald_n cx dX12_goesAll_13 rfl (lv_at hl 0 rfl) ?_
      refine q_iconst cx dX12_goesAll_14 ?_
      refine q_pX12_75 cx hB hmo kmo ⟨by decide, by decide⟩ (by decide) (by decide) rfl dX12_goesAll_15 (fun H locs f17 ef17 z18 hB => ?_)
      refine q_ald_n cx dX12_goesAll_18 rfl (lv_at hl 0 rfl) ?_
      refine q_gX12_75 cx hB hmo kmo z18 dX12_goesAll_19 (fun lb19 ub19 => ?_)
      refine q_ifne (tgt := 29) cx ⟨by decide, by decide⟩ dX12_goesAll_22 (by decide) (fun c20 => ?_) (fun c20 => ?_)
      · refine q_iconst cx dX12_goesAll_29 ?_
        refine q_zret cx hr hlk hB dX12_goesAll_30 (by decide) (by decide) ?_
        exact ⟨rfl, z18⟩
      · exact absurd c20 (by omega)
set_option maxHeartbeats 4000000 in
set_option maxRecDepth 100000 in
theorem r_goesAll3 (l : Launch) (g : q_G) {K : Nat → Nat} {L : List Nat} (hN : L.Nodup) {f : Nat → va_E} (hT : q_Ty g K L f) (mo : Nat) (hmo : mo ∈ L) (kmo : K mo = 12) (a0 : Int) (la0 : 1 ≤ a0) (ua0 : a0 ≤ 1) (b0 : Int) (lb0 : 1 ≤ b0) (ub0 : b0 ≤ 1) (c0 : Int) (lc0 : 1 ≤ c0) (uc0 : c0 ≤ 1) : q_Ct l g K L yX12_goesAll cX12_goesAll 4 (some .boolean) 1 22 [.ref mo, .int (q_i a0), .int (q_i b0), .int (q_i c0)] f [(12, 0, 0)] (q_Pi (fun (z : Int) (f1 : Nat → va_E) => z = 1 ∧ q_is (q_z f1 mo 0) 0)) := by
  obtain rfl : a0 = 1 := by omega
  obtain rfl : b0 = 1 := by omega
  obtain rfl : c0 = 1 := by omega
  refine q_ofb (by decide +kernel) hN hT (Nat.le_of_ble_eq_true rfl) ?_
  intro p e s m below meth c ls cx hr hlk hB hl
  have hl : lv_has ls 4 [(0, .ref mo), (1, .int (q_i 1)), (2, .int (q_i 1)), (3, .int (q_i 1))] := hl
  obtain ⟨H, hH⟩ : ∃ H : Heap, H = s.heap := ⟨_, rfl⟩
  obtain ⟨locs, hlocs⟩ : ∃ z : List Loc, z = [] := ⟨_, rfl⟩
  rw [← hH, ← hlocs] at hB
  rw [← hH, ← hlocs]
  refine q_ald_n cx dX12_goesAll_0 rfl (lv_at hl 0 rfl) ?_
  refine q_ild_n cx dX12_goesAll_1 rfl (lv_at hl 1 rfl) ?_
  refine q_ild_n cx dX12_goesAll_2 rfl (lv_at hl 2 rfl) ?_
  refine q_cVi (As := [.int (q_i 1), .int (q_i 1)]) (rest := []) cx hB (fun _ h => h) hN hmo kmo (by decide) rfl (r_goesBoth2 l g hN hB.2.1 mo hmo kmo 1 (by decide) (by decide) 1 (by decide) (by decide)) q_cX12_358 q_dX12_goesBoth (by decide) rfl rfl hl.1 rfl (Nat.le_of_ble_eq_true rfl) dX12_goesAll_3 (fun y10 H locs f9 ry10 h11 hF hB => ?_)
  obtain ⟨qy10, z12⟩ := h11
  subst qy10
  refine q_ifeq (tgt := 18) cx ⟨by decide, by decide⟩ dX12_goesAll_6 (by decide) (fun c13 => ?_) (fun c13 => ?_)
  · exact absurd c13 (by omega)
  · refine q_ild_n cx dX12_goesAll_9 rfl (lv_at hl 3 rfl) ?_
    refine q_ifne (tgt := 18) cx ⟨by decide, by decide⟩ dX12_goesAll_10 (by decide) (fun c14 => ?_) (fun c14 => ?_)
    · refine q_ald_n cx dX12_goesAll_18 rfl (lv_at hl 0 rfl) ?_
      refine q_gX12_75 cx hB hmo kmo z12 dX12_goesAll_19 (fun lb15 ub15 => ?_)
      refine q_ifne (tgt := 29) cx ⟨by decide, by decide⟩ dX12_goesAll_22 (by decide) (fun c16 => ?_) (fun c16 => ?_)
      · exact absurd c16 (by omega)
      · refine q_iconst cx dX12_goesAll_25 ?_
        refine lv_goto (tgt := 30) cx.1 cx.2.1 dX12_goesAll_26 (by decide) ?_
        refine q_zret cx hr hlk hB dX12_goesAll_30 (by decide) (by decide) ?_
        exact ⟨rfl, z12⟩
    · exact absurd c14 (by omega)
set_option maxHeartbeats 4000000 in
set_option maxRecDepth 100000 in
theorem r_ofNode0 (l : Launch) (g : q_G) {K : Nat → Nat} {L : List Nat} (hN : L.Nodup) {f : Nat → va_E} (hT : q_Ty g K L f) (mo : Nat) (hmo : mo ∈ L) (kmo : K mo = 12) (a0 : Int) (la0 : 0 ≤ a0) (ua0 : a0 ≤ 9) (b0 : Int) (lb0 : 0 ≤ b0) (ub0 : b0 ≤ 0) (sr : Nat) (hsr : sr ∈ L) (ksr : K sr = 151) (hr0 : q_ir (q_r f mo 13) sr) (hgr : q_gr f sr) : q_Ct l g K L yX12_ofNode cX12_ofNode 3 (some .int) 1 21 [.ref mo, .int (q_i a0), .int (q_i b0)] f [] (q_Pi (fun (z : Int) (f1 : Nat → va_E) => f = f1 ∧ 0 ≤ z ∧ z ≤ 59)) := by
  obtain rfl : b0 = 0 := by omega
  refine q_ofb (by decide +kernel) hN hT (Nat.le_of_ble_eq_true rfl) ?_
  intro p e s m below meth c ls cx hr hlk hB hl
  have hl : lv_has ls 3 [(0, .ref mo), (1, .int (q_i a0)), (2, .int (q_i 0))] := hl
  obtain ⟨H, hH⟩ : ∃ H : Heap, H = s.heap := ⟨_, rfl⟩
  obtain ⟨locs, hlocs⟩ : ∃ z : List Loc, z = [] := ⟨_, rfl⟩
  rw [← hH, ← hlocs] at hB
  rw [← hH, ← hlocs]
  refine q_ald_n cx dX12_ofNode_0 rfl (lv_at hl 0 rfl) ?_
  refine q_gX12_20 cx hB hmo kmo hr0 dX12_ofNode_1 (fun hb7 kb7 => ?_)
  refine q_ild_n cx dX12_ofNode_4 rfl (lv_at hl 1 rfl) ?_
  refine q_ild_n cx dX12_ofNode_5 rfl (lv_at hl 2 rfl) ?_
  refine q_cSi (As := [.int (q_i a0), .int (q_i 0)]) (rest := [.ref sr]) cx hB (fun _ h => h) hN (r_nodeCell l g hN hB.2.1 a0 (by omega) (by omega) 0 (by decide) (by decide)) q_cX12_172 q_dX12_nodeCell (by decide) rfl rfl hl.1 rfl (Nat.le_of_ble_eq_true rfl) dX12_ofNode_6 (fun y9 H locs f8 ry9 h10 hF hB => ?_)
  obtain ⟨rfl, qy9⟩ := h10
  obtain ⟨x11, ex11⟩ : ∃ zz, q_is (q_z f sr (Int.toNat y9)) zz := ⟨_, q_isr _⟩
  refine q_sald cx hB hsr ksr (by omega) (by omega) ex11 dX12_ofNode_9 (fun rx11 => ?_)
  obtain ⟨lx11, ux11⟩ : 0 ≤ x11 ∧ x11 ≤ 59 := q_isb ex11 (q_gr_at hgr (by omega) (q_egn (n := a0) (w := 0) (by omega) (by omega) (by omega) (by decide)))
  refine q_iret cx hr hlk hB dX12_ofNode_10 ⟨by omega, by omega⟩ ?_
  exact ⟨rfl, (by omega), (by omega)⟩
set_option maxHeartbeats 4000000 in
set_option maxRecDepth 100000 in
theorem r_ofNode1 (l : Launch) (g : q_G) {K : Nat → Nat} {L : List Nat} (hN : L.Nodup) {f : Nat → va_E} (hT : q_Ty g K L f) (mo : Nat) (hmo : mo ∈ L) (kmo : K mo = 12) (a0 : Int) (la0 : 0 ≤ a0) (ua0 : a0 ≤ 9) (b0 : Int) (lb0 : 1 ≤ b0) (ub0 : b0 ≤ 1) (sr : Nat) (hsr : sr ∈ L) (ksr : K sr = 151) (hr0 : q_ir (q_r f mo 13) sr) (hgr : q_gr f sr) : q_Ct l g K L yX12_ofNode cX12_ofNode 3 (some .int) 1 21 [.ref mo, .int (q_i a0), .int (q_i b0)] f [] (q_Pi (fun (z : Int) (f1 : Nat → va_E) => f = f1 ∧ 0 ≤ z ∧ z ≤ 59)) := by
  obtain rfl : b0 = 1 := by omega
  refine q_ofb (by decide +kernel) hN hT (Nat.le_of_ble_eq_true rfl) ?_
  intro p e s m below meth c ls cx hr hlk hB hl
  have hl : lv_has ls 3 [(0, .ref mo), (1, .int (q_i a0)), (2, .int (q_i 1))] := hl
  obtain ⟨H, hH⟩ : ∃ H : Heap, H = s.heap := ⟨_, rfl⟩
  obtain ⟨locs, hlocs⟩ : ∃ z : List Loc, z = [] := ⟨_, rfl⟩
  rw [← hH, ← hlocs] at hB
  rw [← hH, ← hlocs]
  refine q_ald_n cx dX12_ofNode_0 rfl (lv_at hl 0 rfl) ?_
  refine q_gX12_20 cx hB hmo kmo hr0 dX12_ofNode_1 (fun hb7 kb7 => ?_)
  refine q_ild_n cx dX12_ofNode_4 rfl (lv_at hl 1 rfl) ?_
  refine q_ild_n cx dX12_ofNode_5 rfl (lv_at hl 2 rfl) ?_
  refine q_cSi (As := [.int (q_i a0), .int (q_i 1)]) (rest := [.ref sr]) cx hB (fun _ h => h) hN (r_nodeCell l g hN hB.2.1 a0 (by omega) (by omega) 1 (by decide) (by decide)) q_cX12_172 q_dX12_nodeCell (by decide) rfl rfl hl.1 rfl (Nat.le_of_ble_eq_true rfl) dX12_ofNode_6 (fun y9 H locs f8 ry9 h10 hF hB => ?_)
  obtain ⟨rfl, qy9⟩ := h10
  obtain ⟨x11, ex11⟩ : ∃ zz, q_is (q_z f sr (Int.toNat y9)) zz := ⟨_, q_isr _⟩
  refine q_sald cx hB hsr ksr (by omega) (by omega) ex11 dX12_ofNode_9 (fun rx11 => ?_)
  obtain ⟨lx11, ux11⟩ : 0 ≤ x11 ∧ x11 ≤ 59 := q_isb ex11 (q_gr_at hgr (by omega) (q_egn (n := a0) (w := 1) (by omega) (by omega) (by omega) (by decide)))
  refine q_iret cx hr hlk hB dX12_ofNode_10 ⟨by omega, by omega⟩ ?_
  exact ⟨rfl, (by omega), (by omega)⟩
set_option maxHeartbeats 4000000 in
set_option maxRecDepth 100000 in
theorem r_ofNode2 (l : Launch) (g : q_G) {K : Nat → Nat} {L : List Nat} (hN : L.Nodup) {f : Nat → va_E} (hT : q_Ty g K L f) (mo : Nat) (hmo : mo ∈ L) (kmo : K mo = 12) (a0 : Int) (la0 : 0 ≤ a0) (ua0 : a0 ≤ 9) (b0 : Int) (lb0 : 2 ≤ b0) (ub0 : b0 ≤ 2) (sr : Nat) (hsr : sr ∈ L) (ksr : K sr = 151) (hr0 : q_ir (q_r f mo 13) sr) (hgr : q_gr f sr) : q_Ct l g K L yX12_ofNode cX12_ofNode 3 (some .int) 1 21 [.ref mo, .int (q_i a0), .int (q_i b0)] f [] (q_Pi (fun (z : Int) (f1 : Nat → va_E) => f = f1 ∧ (-198) ≤ z ∧ z ≤ 9999 ∧ (z = q_z f sr (Int.toNat (8 * a0 + 12))))) := by
  obtain rfl : b0 = 2 := by omega
  refine q_ofb (by decide +kernel) hN hT (Nat.le_of_ble_eq_true rfl) ?_
  intro p e s m below meth c ls cx hr hlk hB hl
  have hl : lv_has ls 3 [(0, .ref mo), (1, .int (q_i a0)), (2, .int (q_i 2))] := hl
  obtain ⟨H, hH⟩ : ∃ H : Heap, H = s.heap := ⟨_, rfl⟩
  obtain ⟨locs, hlocs⟩ : ∃ z : List Loc, z = [] := ⟨_, rfl⟩
  rw [← hH, ← hlocs] at hB
  rw [← hH, ← hlocs]
  refine q_ald_n cx dX12_ofNode_0 rfl (lv_at hl 0 rfl) ?_
  refine q_gX12_20 cx hB hmo kmo hr0 dX12_ofNode_1 (fun hb7 kb7 => ?_)
  refine q_ild_n cx dX12_ofNode_4 rfl (lv_at hl 1 rfl) ?_
  refine q_ild_n cx dX12_ofNode_5 rfl (lv_at hl 2 rfl) ?_
  refine q_cSi (As := [.int (q_i a0), .int (q_i 2)]) (rest := [.ref sr]) cx hB (fun _ h => h) hN (r_nodeCell l g hN hB.2.1 a0 (by omega) (by omega) 2 (by decide) (by decide)) q_cX12_172 q_dX12_nodeCell (by decide) rfl rfl hl.1 rfl (Nat.le_of_ble_eq_true rfl) dX12_ofNode_6 (fun y9 H locs f8 ry9 h10 hF hB => ?_)
  obtain ⟨rfl, qy9⟩ := h10
  obtain ⟨x11, ex11⟩ : ∃ zz, q_is (q_z f sr (Int.toNat y9)) zz := ⟨_, q_isr _⟩
  refine q_sald cx hB hsr ksr (by omega) (by omega) ex11 dX12_ofNode_9 (fun rx11 => ?_)
  obtain ⟨lx11, ux11⟩ : (-198) ≤ x11 ∧ x11 ≤ 9999 := q_isb ex11 (q_gr_at hgr (by omega) (q_egn (n := a0) (w := 2) (by omega) (by omega) (by omega) (by decide)))
  refine q_iret cx hr hlk hB dX12_ofNode_10 ⟨by omega, by omega⟩ ?_
  exact ⟨rfl, (by omega), (by omega), (q_zat ex11 (by omega))⟩
set_option maxHeartbeats 4000000 in
set_option maxRecDepth 100000 in
theorem r_ofNode3 (l : Launch) (g : q_G) {K : Nat → Nat} {L : List Nat} (hN : L.Nodup) {f : Nat → va_E} (hT : q_Ty g K L f) (mo : Nat) (hmo : mo ∈ L) (kmo : K mo = 12) (a0 : Int) (la0 : 0 ≤ a0) (ua0 : a0 ≤ 9) (b0 : Int) (lb0 : 3 ≤ b0) (ub0 : b0 ≤ 3) (sr : Nat) (hsr : sr ∈ L) (ksr : K sr = 151) (hr0 : q_ir (q_r f mo 13) sr) (hgr : q_gr f sr) : q_Ct l g K L yX12_ofNode cX12_ofNode 3 (some .int) 1 21 [.ref mo, .int (q_i a0), .int (q_i b0)] f [] (q_Pi (fun (z : Int) (f1 : Nat → va_E) => f = f1)) := by
  obtain rfl : b0 = 3 := by omega
  refine q_ofb (by decide +kernel) hN hT (Nat.le_of_ble_eq_true rfl) ?_
  intro p e s m below meth c ls cx hr hlk hB hl
  have hl : lv_has ls 3 [(0, .ref mo), (1, .int (q_i a0)), (2, .int (q_i 3))] := hl
  obtain ⟨H, hH⟩ : ∃ H : Heap, H = s.heap := ⟨_, rfl⟩
  obtain ⟨locs, hlocs⟩ : ∃ z : List Loc, z = [] := ⟨_, rfl⟩
  rw [← hH, ← hlocs] at hB
  rw [← hH, ← hlocs]
  refine q_ald_n cx dX12_ofNode_0 rfl (lv_at hl 0 rfl) ?_
  refine q_gX12_20 cx hB hmo kmo hr0 dX12_ofNode_1 (fun hb7 kb7 => ?_)
  refine q_ild_n cx dX12_ofNode_4 rfl (lv_at hl 1 rfl) ?_
  refine q_ild_n cx dX12_ofNode_5 rfl (lv_at hl 2 rfl) ?_
  refine q_cSi (As := [.int (q_i a0), .int (q_i 3)]) (rest := [.ref sr]) cx hB (fun _ h => h) hN (r_nodeCell l g hN hB.2.1 a0 (by omega) (by omega) 3 (by decide) (by decide)) q_cX12_172 q_dX12_nodeCell (by decide) rfl rfl hl.1 rfl (Nat.le_of_ble_eq_true rfl) dX12_ofNode_6 (fun y9 H locs f8 ry9 h10 hF hB => ?_)
  obtain ⟨rfl, qy9⟩ := h10
  obtain ⟨x11, ex11⟩ : ∃ zz, q_is (q_z f sr (Int.toNat y9)) zz := ⟨_, q_isr _⟩
  refine q_sald cx hB hsr ksr (by omega) (by omega) ex11 dX12_ofNode_9 (fun rx11 => ?_)
  refine q_iret cx hr hlk hB dX12_ofNode_10 ⟨by omega, by omega⟩ ?_
  exact rfl
set_option maxHeartbeats 4000000 in
set_option maxRecDepth 100000 in
theorem r_ofNode4 (l : Launch) (g : q_G) {K : Nat → Nat} {L : List Nat} (hN : L.Nodup) {f : Nat → va_E} (hT : q_Ty g K L f) (mo : Nat) (hmo : mo ∈ L) (kmo : K mo = 12) (a0 : Int) (la0 : 0 ≤ a0) (ua0 : a0 ≤ 9) (b0 : Int) (lb0 : 4 ≤ b0) (ub0 : b0 ≤ 4) (sr : Nat) (hsr : sr ∈ L) (ksr : K sr = 151) (hr0 : q_ir (q_r f mo 13) sr) (hgr : q_gr f sr) : q_Ct l g K L yX12_ofNode cX12_ofNode 3 (some .int) 1 21 [.ref mo, .int (q_i a0), .int (q_i b0)] f [] (q_Pi (fun (z : Int) (f1 : Nat → va_E) => f = f1)) := by
  obtain rfl : b0 = 4 := by omega
  refine q_ofb (by decide +kernel) hN hT (Nat.le_of_ble_eq_true rfl) ?_
  intro p e s m below meth c ls cx hr hlk hB hl
  have hl : lv_has ls 3 [(0, .ref mo), (1, .int (q_i a0)), (2, .int (q_i 4))] := hl
  obtain ⟨H, hH⟩ : ∃ H : Heap, H = s.heap := ⟨_, rfl⟩
  obtain ⟨locs, hlocs⟩ : ∃ z : List Loc, z = [] := ⟨_, rfl⟩
  rw [← hH, ← hlocs] at hB
  rw [← hH, ← hlocs]
  refine q_ald_n cx dX12_ofNode_0 rfl (lv_at hl 0 rfl) ?_
  refine q_gX12_20 cx hB hmo kmo hr0 dX12_ofNode_1 (fun hb7 kb7 => ?_)
  refine q_ild_n cx dX12_ofNode_4 rfl (lv_at hl 1 rfl) ?_
  refine q_ild_n cx dX12_ofNode_5 rfl (lv_at hl 2 rfl) ?_
  refine q_cSi (As := [.int (q_i a0), .int (q_i 4)]) (rest := [.ref sr]) cx hB (fun _ h => h) hN (r_nodeCell l g hN hB.2.1 a0 (by omega) (by omega) 4 (by decide) (by decide)) q_cX12_172 q_dX12_nodeCell (by decide) rfl rfl hl.1 rfl (Nat.le_of_ble_eq_true rfl) dX12_ofNode_6 (fun y9 H locs f8 ry9 h10 hF hB => ?_)
  obtain ⟨rfl, qy9⟩ := h10
  obtain ⟨x11, ex11⟩ : ∃ zz, q_is (q_z f sr (Int.toNat y9)) zz := ⟨_, q_isr _⟩
  refine q_sald cx hB hsr ksr (by omega) (by omega) ex11 dX12_ofNode_9 (fun rx11 => ?_)
  refine q_iret cx hr hlk hB dX12_ofNode_10 ⟨by omega, by omega⟩ ?_
  exact rfl
set_option maxHeartbeats 4000000 in
set_option maxRecDepth 100000 in
theorem r_ofNode5 (l : Launch) (g : q_G) {K : Nat → Nat} {L : List Nat} (hN : L.Nodup) {f : Nat → va_E} (hT : q_Ty g K L f) (mo : Nat) (hmo : mo ∈ L) (kmo : K mo = 12) (a0 : Int) (la0 : 0 ≤ a0) (ua0 : a0 ≤ 9) (b0 : Int) (lb0 : 5 ≤ b0) (ub0 : b0 ≤ 5) (sr : Nat) (hsr : sr ∈ L) (ksr : K sr = 151) (hr0 : q_ir (q_r f mo 13) sr) (hgr : q_gr f sr) : q_Ct l g K L yX12_ofNode cX12_ofNode 3 (some .int) 1 21 [.ref mo, .int (q_i a0), .int (q_i b0)] f [] (q_Pi (fun (z : Int) (f1 : Nat → va_E) => f = f1)) := by
  obtain rfl : b0 = 5 := by omega
  refine q_ofb (by decide +kernel) hN hT (Nat.le_of_ble_eq_true rfl) ?_
  intro p e s m below meth c ls cx hr hlk hB hl
  have hl : lv_has ls 3 [(0, .ref mo), (1, .int (q_i a0)), (2, .int (q_i 5))] := hl
  obtain ⟨H, hH⟩ : ∃ H : Heap, H = s.heap := ⟨_, rfl⟩
  obtain ⟨locs, hlocs⟩ : ∃ z : List Loc, z = [] := ⟨_, rfl⟩
  rw [← hH, ← hlocs] at hB
  rw [← hH, ← hlocs]
  refine q_ald_n cx dX12_ofNode_0 rfl (lv_at hl 0 rfl) ?_
  refine q_gX12_20 cx hB hmo kmo hr0 dX12_ofNode_1 (fun hb7 kb7 => ?_)
  refine q_ild_n cx dX12_ofNode_4 rfl (lv_at hl 1 rfl) ?_
  refine q_ild_n cx dX12_ofNode_5 rfl (lv_at hl 2 rfl) ?_
  refine q_cSi (As := [.int (q_i a0), .int (q_i 5)]) (rest := [.ref sr]) cx hB (fun _ h => h) hN (r_nodeCell l g hN hB.2.1 a0 (by omega) (by omega) 5 (by decide) (by decide)) q_cX12_172 q_dX12_nodeCell (by decide) rfl rfl hl.1 rfl (Nat.le_of_ble_eq_true rfl) dX12_ofNode_6 (fun y9 H locs f8 ry9 h10 hF hB => ?_)
  obtain ⟨rfl, qy9⟩ := h10
  obtain ⟨x11, ex11⟩ : ∃ zz, q_is (q_z f sr (Int.toNat y9)) zz := ⟨_, q_isr _⟩
  refine q_sald cx hB hsr ksr (by omega) (by omega) ex11 dX12_ofNode_9 (fun rx11 => ?_)
  refine q_iret cx hr hlk hB dX12_ofNode_10 ⟨by omega, by omega⟩ ?_
  exact rfl
set_option maxHeartbeats 4000000 in
set_option maxRecDepth 100000 in
theorem r_ofNode6 (l : Launch) (g : q_G) {K : Nat → Nat} {L : List Nat} (hN : L.Nodup) {f : Nat → va_E} (hT : q_Ty g K L f) (mo : Nat) (hmo : mo ∈ L) (kmo : K mo = 12) (a0 : Int) (la0 : 0 ≤ a0) (ua0 : a0 ≤ 9) (b0 : Int) (lb0 : 6 ≤ b0) (ub0 : b0 ≤ 6) (sr : Nat) (hsr : sr ∈ L) (ksr : K sr = 151) (hr0 : q_ir (q_r f mo 13) sr) (hgr : q_gr f sr) : q_Ct l g K L yX12_ofNode cX12_ofNode 3 (some .int) 1 21 [.ref mo, .int (q_i a0), .int (q_i b0)] f [] (q_Pi (fun (z : Int) (f1 : Nat → va_E) => f = f1)) := by
  obtain rfl : b0 = 6 := by omega
  refine q_ofb (by decide +kernel) hN hT (Nat.le_of_ble_eq_true rfl) ?_
  intro p e s m below meth c ls cx hr hlk hB hl
  have hl : lv_has ls 3 [(0, .ref mo), (1, .int (q_i a0)), (2, .int (q_i 6))] := hl
  obtain ⟨H, hH⟩ : ∃ H : Heap, H = s.heap := ⟨_, rfl⟩
  obtain ⟨locs, hlocs⟩ : ∃ z : List Loc, z = [] := ⟨_, rfl⟩
  rw [← hH, ← hlocs] at hB
  rw [← hH, ← hlocs]
  refine q_ald_n cx dX12_ofNode_0 rfl (lv_at hl 0 rfl) ?_
  refine q_gX12_20 cx hB hmo kmo hr0 dX12_ofNode_1 (fun hb7 kb7 => ?_)
  refine q_ild_n cx dX12_ofNode_4 rfl (lv_at hl 1 rfl) ?_
  refine q_ild_n cx dX12_ofNode_5 rfl (lv_at hl 2 rfl) ?_
  refine q_cSi (As := [.int (q_i a0), .int (q_i 6)]) (rest := [.ref sr]) cx hB (fun _ h => h) hN (r_nodeCell l g hN hB.2.1 a0 (by omega) (by omega) 6 (by decide) (by decide)) q_cX12_172 q_dX12_nodeCell (by decide) rfl rfl hl.1 rfl (Nat.le_of_ble_eq_true rfl) dX12_ofNode_6 (fun y9 H locs f8 ry9 h10 hF hB => ?_)
  obtain ⟨rfl, qy9⟩ := h10
  obtain ⟨x11, ex11⟩ : ∃ zz, q_is (q_z f sr (Int.toNat y9)) zz := ⟨_, q_isr _⟩
  refine q_sald cx hB hsr ksr (by omega) (by omega) ex11 dX12_ofNode_9 (fun rx11 => ?_)
  refine q_iret cx hr hlk hB dX12_ofNode_10 ⟨by omega, by omega⟩ ?_
  exact rfl
set_option maxHeartbeats 4000000 in
set_option maxRecDepth 100000 in
theorem r_ofNode7 (l : Launch) (g : q_G) {K : Nat → Nat} {L : List Nat} (hN : L.Nodup) {f : Nat → va_E} (hT : q_Ty g K L f) (mo : Nat) (hmo : mo ∈ L) (kmo : K mo = 12) (a0 : Int) (la0 : 0 ≤ a0) (ua0 : a0 ≤ 9) (b0 : Int) (lb0 : 7 ≤ b0) (ub0 : b0 ≤ 7) (sr : Nat) (hsr : sr ∈ L) (ksr : K sr = 151) (hr0 : q_ir (q_r f mo 13) sr) (hgr : q_gr f sr) : q_Ct l g K L yX12_ofNode cX12_ofNode 3 (some .int) 1 21 [.ref mo, .int (q_i a0), .int (q_i b0)] f [] (q_Pi (fun (z : Int) (f1 : Nat → va_E) => f = f1)) := by
  obtain rfl : b0 = 7 := by omega
  refine q_ofb (by decide +kernel) hN hT (Nat.le_of_ble_eq_true rfl) ?_
  intro p e s m below meth c ls cx hr hlk hB hl
  have hl : lv_has ls 3 [(0, .ref mo), (1, .int (q_i a0)), (2, .int (q_i 7))] := hl
  obtain ⟨H, hH⟩ : ∃ H : Heap, H = s.heap := ⟨_, rfl⟩
  obtain ⟨locs, hlocs⟩ : ∃ z : List Loc, z = [] := ⟨_, rfl⟩
  rw [← hH, ← hlocs] at hB
  rw [← hH, ← hlocs]
  refine q_ald_n cx dX12_ofNode_0 rfl (lv_at hl 0 rfl) ?_
  refine q_gX12_20 cx hB hmo kmo hr0 dX12_ofNode_1 (fun hb7 kb7 => ?_)
  refine q_ild_n cx dX12_ofNode_4 rfl (lv_at hl 1 rfl) ?_
  refine q_ild_n cx dX12_ofNode_5 rfl (lv_at hl 2 rfl) ?_
  refine q_cSi (As := [.int (q_i a0), .int (q_i 7)]) (rest := [.ref sr]) cx hB (fun _ h => h) hN (r_nodeCell l g hN hB.2.1 a0 (by omega) (by omega) 7 (by decide) (by decide)) q_cX12_172 q_dX12_nodeCell (by decide) rfl rfl hl.1 rfl (Nat.le_of_ble_eq_true rfl) dX12_ofNode_6 (fun y9 H locs f8 ry9 h10 hF hB => ?_)
  obtain ⟨rfl, qy9⟩ := h10
  obtain ⟨x11, ex11⟩ : ∃ zz, q_is (q_z f sr (Int.toNat y9)) zz := ⟨_, q_isr _⟩
  refine q_sald cx hB hsr ksr (by omega) (by omega) ex11 dX12_ofNode_9 (fun rx11 => ?_)
  refine q_iret cx hr hlk hB dX12_ofNode_10 ⟨by omega, by omega⟩ ?_
  exact rfl
set_option maxHeartbeats 4000000 in
set_option maxRecDepth 100000 in
theorem r_ofNodex (l : Launch) (g : q_G) {K : Nat → Nat} {L : List Nat} (hN : L.Nodup) {f : Nat → va_E} (hT : q_Ty g K L f) (mo : Nat) (hmo : mo ∈ L) (kmo : K mo = 12) (a0 : Int) (la0 : 0 ≤ a0) (ua0 : a0 ≤ 9) (b0 : Int) (lb0 : 0 ≤ b0) (ub0 : b0 ≤ 7) (sr : Nat) (hsr : sr ∈ L) (ksr : K sr = 151) (hr0 : q_ir (q_r f mo 13) sr) : q_Ct l g K L yX12_ofNode cX12_ofNode 3 (some .int) 1 21 [.ref mo, .int (q_i a0), .int (q_i b0)] f [] (q_Pi (fun (z : Int) (f1 : Nat → va_E) => f = f1)) := by
  refine q_ofb (by decide +kernel) hN hT (Nat.le_of_ble_eq_true rfl) ?_
  intro p e s m below meth c ls cx hr hlk hB hl
  have hl : lv_has ls 3 [(0, .ref mo), (1, .int (q_i a0)), (2, .int (q_i b0))] := hl
  obtain ⟨H, hH⟩ : ∃ H : Heap, H = s.heap := ⟨_, rfl⟩
  obtain ⟨locs, hlocs⟩ : ∃ z : List Loc, z = [] := ⟨_, rfl⟩
  rw [← hH, ← hlocs] at hB
  rw [← hH, ← hlocs]
  refine q_ald_n cx dX12_ofNode_0 rfl (lv_at hl 0 rfl) ?_
  refine q_gX12_20 cx hB hmo kmo hr0 dX12_ofNode_1 (fun hb7 kb7 => ?_)
  refine q_ild_n cx dX12_ofNode_4 rfl (lv_at hl 1 rfl) ?_
  refine q_ild_n cx dX12_ofNode_5 rfl (lv_at hl 2 rfl) ?_
  refine q_cSi (As := [.int (q_i a0), .int (q_i b0)]) (rest := [.ref sr]) cx hB (fun _ h => h) hN (r_nodeCell l g hN hB.2.1 a0 (by omega) (by omega) b0 (by omega) (by omega)) q_cX12_172 q_dX12_nodeCell (by decide) rfl rfl hl.1 rfl (Nat.le_of_ble_eq_true rfl) dX12_ofNode_6 (fun y9 H locs f8 ry9 h10 hF hB => ?_)
  obtain ⟨rfl, qy9⟩ := h10
  obtain ⟨x11, ex11⟩ : ∃ zz, q_is (q_z f sr (Int.toNat y9)) zz := ⟨_, q_isr _⟩
  refine q_sald cx hB hsr ksr (by omega) (by omega) ex11 dX12_ofNode_9 (fun rx11 => ?_)
  refine q_iret cx hr hlk hB dX12_ofNode_10 ⟨by omega, by omega⟩ ?_
  exact rfl
