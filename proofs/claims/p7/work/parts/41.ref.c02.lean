set_option maxHeartbeats 4000000 in
set_option maxRecDepth 100000 in
theorem r_ofLink2 (l : Launch) (g : q_G) {K : Nat → Nat} {L : List Nat} (hN : L.Nodup) {f : Nat → va_E} (hT : q_Ty g K L f) (mo : Nat) (hmo : mo ∈ L) (kmo : K mo = 12) (a0 : Int) (la0 : 0 ≤ a0) (ua0 : a0 ≤ 15) (b0 : Int) (lb0 : 2 ≤ b0) (ub0 : b0 ≤ 2) (sr : Nat) (hsr : sr ∈ L) (ksr : K sr = 151) (hr0 : q_ir (q_r f mo 13) sr) (hgr : q_gr f sr) : q_Ct l g K L yX12_ofLink cX12_ofLink 3 (some .int) 0 0 [.ref mo, .int (q_i a0), .int (q_i b0)] f [] (q_Pi (fun (z : Int) (f1 : Nat → va_E) => f = f1)) := by
  obtain rfl : b0 = 2 := by omega
  refine q_ofb (by decide +kernel) hN hT (Nat.le_of_ble_eq_true rfl) ?_
  intro p e s m below meth c ls cx hr hlk hB hl
  have hl : lv_has ls 3 [(0, .ref mo), (1, .int (q_i a0)), (2, .int (q_i 2))] := hl
  obtain ⟨H, hH⟩ : ∃ H : Heap, H = s.heap := ⟨_, rfl⟩
  obtain ⟨locs, hlocs⟩ : ∃ z : List Loc, z = [] := ⟨_, rfl⟩
  rw [← hH, ← hlocs] at hB
  rw [← hH, ← hlocs]
  refine q_ald_n cx dX12_ofLink_0 rfl (lv_at hl 0 rfl) ?_
  refine q_gX12_20 cx hB hmo kmo hr0 dX12_ofLink_1 (fun hb4 kb4 => ?_)
  refine q_bipush cx dX12_ofLink_4 rfl ?_
  refine q_iconst cx dX12_ofLink_6 ?_
  refine q_ild_n cx dX12_ofLink_7 rfl (lv_at hl 1 rfl) ?_
  refine q_imul cx dX12_ofLink_8 ?_
  refine q_iadd cx dX12_ofLink_9 ?_
  refine q_ild_n cx dX12_ofLink_10 rfl (lv_at hl 2 rfl) ?_
  refine q_iadd cx dX12_ofLink_11 ?_
  obtain ⟨x5, ex5⟩ : ∃ zz, q_is (q_z f sr (Int.toNat ((90 + (5 * a0)) + 2))) zz := ⟨_, q_isr _⟩
  refine q_sald cx hB hsr ksr (by omega) (by omega) ex5 dX12_ofLink_12 (fun rx5 => ?_)
  refine q_iret cx hr hlk hB dX12_ofLink_13 ⟨by omega, by omega⟩ ?_
  exact rfl
set_option maxHeartbeats 4000000 in
set_option maxRecDepth 100000 in
theorem r_setsLink2 (l : Launch) (g : q_G) {K : Nat → Nat} {L : List Nat} (hN : L.Nodup) {f : Nat → va_E} (hT : q_Ty g K L f) (mo : Nat) (hmo : mo ∈ L) (kmo : K mo = 12) (a0 : Int) (la0 : 0 ≤ a0) (ua0 : a0 ≤ 15) (b0 : Int) (lb0 : 2 ≤ b0) (ub0 : b0 ≤ 2) (c0 : Int) (lc0 : (-2147483648) ≤ c0) (uc0 : c0 ≤ 2147483647) (sr : Nat) (hsr : sr ∈ L) (ksr : K sr = 151) (hr0 : q_ir (q_r f mo 13) sr) (hgr : q_gr f sr) : q_Ct l g K L yX12_setsLink cX12_setsLink 4 none 0 0 [.ref mo, .int (q_i a0), .int (q_i b0), .int (q_i c0)] f [(151, 92, 167)] (q_Pv (fun (f1 : Nat → va_E) => q_gr f1 sr)) := by
  obtain rfl : b0 = 2 := by omega
  refine q_ofb (by decide +kernel) hN hT (Nat.le_of_ble_eq_true rfl) ?_
  intro p e s m below meth c ls cx hr hlk hB hl
  have hl : lv_has ls 4 [(0, .ref mo), (1, .int (q_i a0)), (2, .int (q_i 2)), (3, .int (q_i c0))] := hl
  obtain ⟨H, hH⟩ : ∃ H : Heap, H = s.heap := ⟨_, rfl⟩
  obtain ⟨locs, hlocs⟩ : ∃ z : List Loc, z = [] := ⟨_, rfl⟩
  rw [← hH, ← hlocs] at hB
  rw [← hH, ← hlocs]
  refine q_ald_n cx dX12_setsLink_0 rfl (lv_at hl 0 rfl) ?_
  refine q_gX12_20 cx hB hmo kmo hr0 dX12_setsLink_1 (fun hb6 kb6 => ?_)
  refine q_bipush cx dX12_setsLink_4 rfl ?_
  refine q_iconst cx dX12_setsLink_6 ?_
  refine q_ild_n cx dX12_setsLink_7 rfl (lv_at hl 1 rfl) ?_
  refine q_imul cx dX12_setsLink_8 ?_
  refine q_iadd cx dX12_setsLink_9 ?_
  refine q_ild_n cx dX12_setsLink_10 rfl (lv_at hl 2 rfl) ?_
  refine q_iadd cx dX12_setsLink_11 ?_
  refine q_ild_n cx dX12_setsLink_12 rfl (lv_at hl 3 rfl) ?_
  refine q_sast cx hB hsr ksr (by omega) (by omega) ⟨by omega, by omega⟩ (q_inWi (lo := 92) (hi := 167) (by decide) (by omega) (by omega)) dX12_setsLink_13 (fun H locs f7 ef7 z8 hB => ?_)
  have z9 : q_ir (q_r f7 mo 13) sr := by rw [ef7, q_setr (Or.inl (fun q => by rw [q, ksr] at kmo; exact absurd kmo (by decide)))]; exact hr0
  have g10 : q_gr f7 sr := q_gr_put hgr ef7 z8 (q_egl (n := a0) (w := 2) (by omega) (by omega) (by omega) (by decide)) (by omega) (by omega)
  refine q_vret cx hr hlk hB dX12_setsLink_14 ?_
  exact g10
set_option maxHeartbeats 4000000 in
set_option maxRecDepth 100000 in
theorem r_ofLink3 (l : Launch) (g : q_G) {K : Nat → Nat} {L : List Nat} (hN : L.Nodup) {f : Nat → va_E} (hT : q_Ty g K L f) (mo : Nat) (hmo : mo ∈ L) (kmo : K mo = 12) (a0 : Int) (la0 : 0 ≤ a0) (ua0 : a0 ≤ 15) (b0 : Int) (lb0 : 3 ≤ b0) (ub0 : b0 ≤ 3) (sr : Nat) (hsr : sr ∈ L) (ksr : K sr = 151) (hr0 : q_ir (q_r f mo 13) sr) (hgr : q_gr f sr) : q_Ct l g K L yX12_ofLink cX12_ofLink 3 (some .int) 0 0 [.ref mo, .int (q_i a0), .int (q_i b0)] f [] (q_Pi (fun (z : Int) (f1 : Nat → va_E) => f = f1)) := by
  obtain rfl : b0 = 3 := by omega
  refine q_ofb (by decide +kernel) hN hT (Nat.le_of_ble_eq_true rfl) ?_
  intro p e s m below meth c ls cx hr hlk hB hl
  have hl : lv_has ls 3 [(0, .ref mo), (1, .int (q_i a0)), (2, .int (q_i 3))] := hl
  obtain ⟨H, hH⟩ : ∃ H : Heap, H = s.heap := ⟨_, rfl⟩
  obtain ⟨locs, hlocs⟩ : ∃ z : List Loc, z = [] := ⟨_, rfl⟩
  rw [← hH, ← hlocs] at hB
  rw [← hH, ← hlocs]
  refine q_ald_n cx dX12_ofLink_0 rfl (lv_at hl 0 rfl) ?_
  refine q_gX12_20 cx hB hmo kmo hr0 dX12_ofLink_1 (fun hb4 kb4 => ?_)
  refine q_bipush cx dX12_ofLink_4 rfl ?_
  refine q_iconst cx dX12_ofLink_6 ?_
  refine q_ild_n cx dX12_ofLink_7 rfl (lv_at hl 1 rfl) ?_
  refine q_imul cx dX12_ofLink_8 ?_
  refine q_iadd cx dX12_ofLink_9 ?_
  refine q_ild_n cx dX12_ofLink_10 rfl (lv_at hl 2 rfl) ?_
  refine q_iadd cx dX12_ofLink_11 ?_
  obtain ⟨x5, ex5⟩ : ∃ zz, q_is (q_z f sr (Int.toNat ((90 + (5 * a0)) + 3))) zz := ⟨_, q_isr _⟩
  refine q_sald cx hB hsr ksr (by omega) (by omega) ex5 dX12_ofLink_12 (fun rx5 => ?_)
  refine q_iret cx hr hlk hB dX12_ofLink_13 ⟨by omega, by omega⟩ ?_
  exact rfl
set_option maxHeartbeats 4000000 in
set_option maxRecDepth 100000 in
theorem r_setsLink3 (l : Launch) (g : q_G) {K : Nat → Nat} {L : List Nat} (hN : L.Nodup) {f : Nat → va_E} (hT : q_Ty g K L f) (mo : Nat) (hmo : mo ∈ L) (kmo : K mo = 12) (a0 : Int) (la0 : 0 ≤ a0) (ua0 : a0 ≤ 15) (b0 : Int) (lb0 : 3 ≤ b0) (ub0 : b0 ≤ 3) (c0 : Int) (lc0 : (-2147483648) ≤ c0) (uc0 : c0 ≤ 2147483647) (sr : Nat) (hsr : sr ∈ L) (ksr : K sr = 151) (hr0 : q_ir (q_r f mo 13) sr) (hgr : q_gr f sr) : q_Ct l g K L yX12_setsLink cX12_setsLink 4 none 0 0 [.ref mo, .int (q_i a0), .int (q_i b0), .int (q_i c0)] f [(151, 93, 168)] (q_Pv (fun (f1 : Nat → va_E) => q_gr f1 sr)) := by
  obtain rfl : b0 = 3 := by omega
  refine q_ofb (by decide +kernel) hN hT (Nat.le_of_ble_eq_true rfl) ?_
  intro p e s m below meth c ls cx hr hlk hB hl
  have hl : lv_has ls 4 [(0, .ref mo), (1, .int (q_i a0)), (2, .int (q_i 3)), (3, .int (q_i c0))] := hl
  obtain ⟨H, hH⟩ : ∃ H : Heap, H = s.heap := ⟨_, rfl⟩
  obtain ⟨locs, hlocs⟩ : ∃ z : List Loc, z = [] := ⟨_, rfl⟩
  rw [← hH, ← hlocs] at hB
  rw [← hH, ← hlocs]
  refine q_ald_n cx dX12_setsLink_0 rfl (lv_at hl 0 rfl) ?_
  refine q_gX12_20 cx hB hmo kmo hr0 dX12_setsLink_1 (fun hb6 kb6 => ?_)
  refine q_bipush cx dX12_setsLink_4 rfl ?_
  refine q_iconst cx dX12_setsLink_6 ?_
  refine q_ild_n cx dX12_setsLink_7 rfl (lv_at hl 1 rfl) ?_
  refine q_imul cx dX12_setsLink_8 ?_
  refine q_iadd cx dX12_setsLink_9 ?_
  refine q_ild_n cx dX12_setsLink_10 rfl (lv_at hl 2 rfl) ?_
  refine q_iadd cx dX12_setsLink_11 ?_
  refine q_ild_n cx dX12_setsLink_12 rfl (lv_at hl 3 rfl) ?_
  refine q_sast cx hB hsr ksr (by omega) (by omega) ⟨by omega, by omega⟩ (q_inWi (lo := 93) (hi := 168) (by decide) (by omega) (by omega)) dX12_setsLink_13 (fun H locs f7 ef7 z8 hB => ?_)
  have z9 : q_ir (q_r f7 mo 13) sr := by rw [ef7, q_setr (Or.inl (fun q => by rw [q, ksr] at kmo; exact absurd kmo (by decide)))]; exact hr0
  have g10 : q_gr f7 sr := q_gr_put hgr ef7 z8 (q_egl (n := a0) (w := 3) (by omega) (by omega) (by omega) (by decide)) (by omega) (by omega)
  refine q_vret cx hr hlk hB dX12_setsLink_14 ?_
  exact g10
set_option maxHeartbeats 4000000 in
set_option maxRecDepth 100000 in
theorem r_ofLink4 (l : Launch) (g : q_G) {K : Nat → Nat} {L : List Nat} (hN : L.Nodup) {f : Nat → va_E} (hT : q_Ty g K L f) (mo : Nat) (hmo : mo ∈ L) (kmo : K mo = 12) (a0 : Int) (la0 : 0 ≤ a0) (ua0 : a0 ≤ 15) (b0 : Int) (lb0 : 4 ≤ b0) (ub0 : b0 ≤ 4) (sr : Nat) (hsr : sr ∈ L) (ksr : K sr = 151) (hr0 : q_ir (q_r f mo 13) sr) (hgr : q_gr f sr) : q_Ct l g K L yX12_ofLink cX12_ofLink 3 (some .int) 0 0 [.ref mo, .int (q_i a0), .int (q_i b0)] f [] (q_Pi (fun (z : Int) (f1 : Nat → va_E) => f = f1)) := by
  obtain rfl : b0 = 4 := by omega
  refine q_ofb (by decide +kernel) hN hT (Nat.le_of_ble_eq_true rfl) ?_
  intro p e s m below meth c ls cx hr hlk hB hl
  have hl : lv_has ls 3 [(0, .ref mo), (1, .int (q_i a0)), (2, .int (q_i 4))] := hl
  obtain ⟨H, hH⟩ : ∃ H : Heap, H = s.heap := ⟨_, rfl⟩
  obtain ⟨locs, hlocs⟩ : ∃ z : List Loc, z = [] := ⟨_, rfl⟩
  rw [← hH, ← hlocs] at hB
  rw [← hH, ← hlocs]
  refine q_ald_n cx dX12_ofLink_0 rfl (lv_at hl 0 rfl) ?_
  refine q_gX12_20 cx hB hmo kmo hr0 dX12_ofLink_1 (fun hb4 kb4 => ?_)
  refine q_bipush cx dX12_ofLink_4 rfl ?_
  refine q_iconst cx dX12_ofLink_6 ?_
  refine q_ild_n cx dX12_ofLink_7 rfl (lv_at hl 1 rfl) ?_
  refine q_imul cx dX12_ofLink_8 ?_
  refine q_iadd cx dX12_ofLink_9 ?_
  refine q_ild_n cx dX12_ofLink_10 rfl (lv_at hl 2 rfl) ?_
  refine q_iadd cx dX12_ofLink_11 ?_
  obtain ⟨x5, ex5⟩ : ∃ zz, q_is (q_z f sr (Int.toNat ((90 + (5 * a0)) + 4))) zz := ⟨_, q_isr _⟩
  refine q_sald cx hB hsr ksr (by omega) (by omega) ex5 dX12_ofLink_12 (fun rx5 => ?_)
  refine q_iret cx hr hlk hB dX12_ofLink_13 ⟨by omega, by omega⟩ ?_
  exact rfl
set_option maxHeartbeats 4000000 in
set_option maxRecDepth 100000 in
theorem r_setsLink4 (l : Launch) (g : q_G) {K : Nat → Nat} {L : List Nat} (hN : L.Nodup) {f : Nat → va_E} (hT : q_Ty g K L f) (mo : Nat) (hmo : mo ∈ L) (kmo : K mo = 12) (a0 : Int) (la0 : 0 ≤ a0) (ua0 : a0 ≤ 15) (b0 : Int) (lb0 : 4 ≤ b0) (ub0 : b0 ≤ 4) (c0 : Int) (lc0 : (-2147483648) ≤ c0) (uc0 : c0 ≤ 2147483647) (sr : Nat) (hsr : sr ∈ L) (ksr : K sr = 151) (hr0 : q_ir (q_r f mo 13) sr) (hgr : q_gr f sr) : q_Ct l g K L yX12_setsLink cX12_setsLink 4 none 0 0 [.ref mo, .int (q_i a0), .int (q_i b0), .int (q_i c0)] f [(151, 94, 169)] (q_Pv (fun (f1 : Nat → va_E) => q_gr f1 sr)) := by
  obtain rfl : b0 = 4 := by omega
  refine q_ofb (by decide +kernel) hN hT (Nat.le_of_ble_eq_true rfl) ?_
  intro p e s m below meth c ls cx hr hlk hB hl
  have hl : lv_has ls 4 [(0, .ref mo), (1, .int (q_i a0)), (2, .int (q_i 4)), (3, .int (q_i c0))] := hl
  obtain ⟨H, hH⟩ : ∃ H : Heap, H = s.heap := ⟨_, rfl⟩
  obtain ⟨locs, hlocs⟩ : ∃ z : List Loc, z = [] := ⟨_, rfl⟩
  rw [← hH, ← hlocs] at hB
  rw [← hH, ← hlocs]
  refine q_ald_n cx dX12_setsLink_0 rfl (lv_at hl 0 rfl) ?_
  refine q_gX12_20 cx hB hmo kmo hr0 dX12_setsLink_1 (fun hb6 kb6 => ?_)
  refine q_bipush cx dX12_setsLink_4 rfl ?_
  refine q_iconst cx dX12_setsLink_6 ?_
  refine q_ild_n cx dX12_setsLink_7 rfl (lv_at hl 1 rfl) ?_
  refine q_imul cx dX12_setsLink_8 ?_
  refine q_iadd cx dX12_setsLink_9 ?_
  refine q_ild_n cx dX12_setsLink_10 rfl (lv_at hl 2 rfl) ?_
  refine q_iadd cx dX12_setsLink_11 ?_
  refine q_ild_n cx dX12_setsLink_12 rfl (lv_at hl 3 rfl) ?_
  refine q_sast cx hB hsr ksr (by omega) (by omega) ⟨by omega, by omega⟩ (q_inWi (lo := 94) (hi := 169) (by decide) (by omega) (by omega)) dX12_setsLink_13 (fun H locs f7 ef7 z8 hB => ?_)
  have z9 : q_ir (q_r f7 mo 13) sr := by rw [ef7, q_setr (Or.inl (fun q => by rw [q, ksr] at kmo; exact absurd kmo (by decide)))]; exact hr0
  have g10 : q_gr f7 sr := q_gr_put hgr ef7 z8 (q_egl (n := a0) (w := 4) (by omega) (by omega) (by omega) (by decide)) (by omega) (by omega)
  refine q_vret cx hr hlk hB dX12_setsLink_14 ?_
  exact g10
set_option maxHeartbeats 4000000 in
set_option maxRecDepth 100000 in
theorem r_ofLinkx (l : Launch) (g : q_G) {K : Nat → Nat} {L : List Nat} (hN : L.Nodup) {f : Nat → va_E} (hT : q_Ty g K L f) (mo : Nat) (hmo : mo ∈ L) (kmo : K mo = 12) (a0 : Int) (la0 : 0 ≤ a0) (ua0 : a0 ≤ 15) (b0 : Int) (lb0 : 0 ≤ b0) (ub0 : b0 ≤ 4) (sr : Nat) (hsr : sr ∈ L) (ksr : K sr = 151) (hr0 : q_ir (q_r f mo 13) sr) : q_Ct l g K L yX12_ofLink cX12_ofLink 3 (some .int) 0 0 [.ref mo, .int (q_i a0), .int (q_i b0)] f [] (q_Pi (fun (z : Int) (f1 : Nat → va_E) => f = f1)) := by
  refine q_ofb (by decide +kernel) hN hT (Nat.le_of_ble_eq_true rfl) ?_
  intro p e s m below meth c ls cx hr hlk hB hl
  have hl : lv_has ls 3 [(0, .ref mo), (1, .int (q_i a0)), (2, .int (q_i b0))] := hl
  obtain ⟨H, hH⟩ : ∃ H : Heap, H = s.heap := ⟨_, rfl⟩
  obtain ⟨locs, hlocs⟩ : ∃ z : List Loc, z = [] := ⟨_, rfl⟩
  rw [← hH, ← hlocs] at hB
  rw [← hH, ← hlocs]
  refine q_ald_n cx dX12_ofLink_0 rfl (lv_at hl 0 rfl) ?_
  refine q_gX12_20 cx hB hmo kmo hr0 dX12_ofLink_1 (fun hb4 kb4 => ?_)
  refine q_bipush cx dX12_ofLink_4 rfl ?_
  refine q_iconst cx dX12_ofLink_6 ?_
  refine q_ild_n cx dX12_ofLink_7 rfl (lv_at hl 1 rfl) ?_
  refine q_imul cx dX12_ofLink_8 ?_
  refine q_iadd cx dX12_ofLink_9 ?_
  refine q_ild_n cx dX12_ofLink_10 rfl (lv_at hl 2 rfl) ?_
  refine q_iadd cx dX12_ofLink_11 ?_
  obtain ⟨x5, ex5⟩ : ∃ zz, q_is (q_z f sr (Int.toNat ((90 + (5 * a0)) + b0))) zz := ⟨_, q_isr _⟩
  refine q_sald cx hB hsr ksr (by omega) (by omega) ex5 dX12_ofLink_12 (fun rx5 => ?_)
  refine q_iret cx hr hlk hB dX12_ofLink_13 ⟨by omega, by omega⟩ ?_
  exact rfl
set_option maxHeartbeats 4000000 in
set_option maxRecDepth 100000 in
theorem r_setsLinkj (l : Launch) (g : q_G) {K : Nat → Nat} {L : List Nat} (hN : L.Nodup) {f : Nat → va_E} (hT : q_Ty g K L f) (mo : Nat) (hmo : mo ∈ L) (kmo : K mo = 12) (a0 : Int) (la0 : 0 ≤ a0) (ua0 : a0 ≤ 15) (b0 : Int) (lb0 : 0 ≤ b0) (ub0 : b0 ≤ 4) (c0 : Int) (lc0 : (-2147483648) ≤ c0) (uc0 : c0 ≤ 2147483647) (sr : Nat) (hsr : sr ∈ L) (ksr : K sr = 151) (hr0 : q_ir (q_r f mo 13) sr) : q_Ct l g K L yX12_setsLink cX12_setsLink 4 none 0 0 [.ref mo, .int (q_i a0), .int (q_i b0), .int (q_i c0)] f [(151, 90, 169)] (q_Pv (fun (f1 : Nat → va_E) => True)) := by
  refine q_ofb (by decide +kernel) hN hT (Nat.le_of_ble_eq_true rfl) ?_
  intro p e s m below meth c ls cx hr hlk hB hl
  have hl : lv_has ls 4 [(0, .ref mo), (1, .int (q_i a0)), (2, .int (q_i b0)), (3, .int (q_i c0))] := hl
  obtain ⟨H, hH⟩ : ∃ H : Heap, H = s.heap := ⟨_, rfl⟩
  obtain ⟨locs, hlocs⟩ : ∃ z : List Loc, z = [] := ⟨_, rfl⟩
  rw [← hH, ← hlocs] at hB
  rw [← hH, ← hlocs]
  refine q_ald_n cx dX12_setsLink_0 rfl (lv_at hl 0 rfl) ?_
  refine q_gX12_20 cx hB hmo kmo hr0 dX12_setsLink_1 (fun hb5 kb5 => ?_)
  refine q_bipush cx dX12_setsLink_4 rfl ?_
  refine q_iconst cx dX12_setsLink_6 ?_
  refine q_ild_n cx dX12_setsLink_7 rfl (lv_at hl 1 rfl) ?_
  refine q_imul cx dX12_setsLink_8 ?_
  refine q_iadd cx dX12_setsLink_9 ?_
  refine q_ild_n cx dX12_setsLink_10 rfl (lv_at hl 2 rfl) ?_
  refine q_iadd cx dX12_setsLink_11 ?_
  refine q_ild_n cx dX12_setsLink_12 rfl (lv_at hl 3 rfl) ?_
  refine q_sast cx hB hsr ksr (by omega) (by omega) ⟨by omega, by omega⟩ (q_inWi (lo := 90) (hi := 169) (by decide) (by omega) (by omega)) dX12_setsLink_13 (fun H locs f6 ef6 z7 hB => ?_)
  have z8 : q_ir (q_r f6 mo 13) sr := by rw [ef6, q_setr (Or.inl (fun q => by rw [q, ksr] at kmo; exact absurd kmo (by decide)))]; exact hr0
  refine q_vret cx hr hlk hB dX12_setsLink_14 ?_
  trivial
set_option maxHeartbeats 4000000 in
set_option maxRecDepth 100000 in
theorem r_ofMessage0 (l : Launch) (g : q_G) {K : Nat → Nat} {L : List Nat} (hN : L.Nodup) {f : Nat → va_E} (hT : q_Ty g K L f) (mo : Nat) (hmo : mo ∈ L) (kmo : K mo = 12) (a0 : Int) (la0 : 0 ≤ a0) (ua0 : a0 ≤ 60) (b0 : Int) (lb0 : 0 ≤ b0) (ub0 : b0 ≤ 0) (sr : Nat) (hsr : sr ∈ L) (ksr : K sr = 151) (hr0 : q_ir (q_r f mo 13) sr) (hgr : q_gr f sr) : q_Ct l g K L yX12_ofMessage cX12_ofMessage 3 (some .int) 0 0 [.ref mo, .int (q_i a0), .int (q_i b0)] f [] (q_Pi (fun (z : Int) (f1 : Nat → va_E) => f = f1 ∧ 0 ≤ z ∧ z ≤ 9)) := by
  obtain rfl : b0 = 0 := by omega
  refine q_ofb (by decide +kernel) hN hT (Nat.le_of_ble_eq_true rfl) ?_
  intro p e s m below meth c ls cx hr hlk hB hl
  have hl : lv_has ls 3 [(0, .ref mo), (1, .int (q_i a0)), (2, .int (q_i 0))] := hl
  obtain ⟨H, hH⟩ : ∃ H : Heap, H = s.heap := ⟨_, rfl⟩
  obtain ⟨locs, hlocs⟩ : ∃ z : List Loc, z = [] := ⟨_, rfl⟩
  rw [← hH, ← hlocs] at hB
  rw [← hH, ← hlocs]
  refine q_ald_n cx dX12_ofMessage_0 rfl (lv_at hl 0 rfl) ?_
  refine q_gX12_20 cx hB hmo kmo hr0 dX12_ofMessage_1 (fun hb4 kb4 => ?_)
  refine q_sipush cx dX12_ofMessage_4 rfl ?_
  refine q_bipush cx dX12_ofMessage_7 rfl ?_
  refine q_ild_n cx dX12_ofMessage_9 rfl (lv_at hl 1 rfl) ?_
  refine q_imul cx dX12_ofMessage_10 ?_
  refine q_iadd cx dX12_ofMessage_11 ?_
  refine q_ild_n cx dX12_ofMessage_12 rfl (lv_at hl 2 rfl) ?_
  refine q_iadd cx dX12_ofMessage_13 ?_
  obtain ⟨x5, ex5⟩ : ∃ zz, q_is (q_z f sr (Int.toNat ((170 + (8 * a0)) + 0))) zz := ⟨_, q_isr _⟩
  refine q_sald cx hB hsr ksr (by omega) (by omega) ex5 dX12_ofMessage_14 (fun rx5 => ?_)
  obtain ⟨lx5, ux5⟩ : 0 ≤ x5 ∧ x5 ≤ 9 := q_isb ex5 (q_gr_at hgr (by omega) (q_egm (n := a0) (w := 0) (by omega) (by omega) (by omega) (by decide)))
  refine q_iret cx hr hlk hB dX12_ofMessage_15 ⟨by omega, by omega⟩ ?_
  exact ⟨rfl, (by omega), (by omega)⟩
set_option maxHeartbeats 4000000 in
set_option maxRecDepth 100000 in
theorem r_setsMessage0 (l : Launch) (g : q_G) {K : Nat → Nat} {L : List Nat} (hN : L.Nodup) {f : Nat → va_E} (hT : q_Ty g K L f) (mo : Nat) (hmo : mo ∈ L) (kmo : K mo = 12) (a0 : Int) (la0 : 0 ≤ a0) (ua0 : a0 ≤ 60) (b0 : Int) (lb0 : 0 ≤ b0) (ub0 : b0 ≤ 0) (c0 : Int) (lc0 : 0 ≤ c0) (uc0 : c0 ≤ 9) (sr : Nat) (hsr : sr ∈ L) (ksr : K sr = 151) (hr0 : q_ir (q_r f mo 13) sr) (hgr : q_gr f sr) : q_Ct l g K L yX12_setsMessage cX12_setsMessage 4 none 0 0 [.ref mo, .int (q_i a0), .int (q_i b0), .int (q_i c0)] f [(151, 170, 650)] (q_Pv (fun (f1 : Nat → va_E) => q_gr f1 sr)) := by
  obtain rfl : b0 = 0 := by omega
  refine q_ofb (by decide +kernel) hN hT (Nat.le_of_ble_eq_true rfl) ?_
  intro p e s m below meth c ls cx hr hlk hB hl
  have hl : lv_has ls 4 [(0, .ref mo), (1, .int (q_i a0)), (2, .int (q_i 0)), (3, .int (q_i c0))] := hl
  obtain ⟨H, hH⟩ : ∃ H : Heap, H = s.heap := ⟨_, rfl⟩
  obtain ⟨locs, hlocs⟩ : ∃ z : List Loc, z = [] := ⟨_, rfl⟩
  rw [← hH, ← hlocs] at hB
  rw [← hH, ← hlocs]
  refine q_ald_n cx dX12_setsMessage_0 rfl (lv_at hl 0 rfl) ?_
  refine q_gX12_20 cx hB hmo kmo hr0 dX12_setsMessage_1 (fun hb6 kb6 => ?_)
  refine q_sipush cx dX12_setsMessage_4 rfl ?_
  refine q_bipush cx dX12_setsMessage_7 rfl ?_
  refine q_ild_n cx dX12_setsMessage_9 rfl (lv_at hl 1 rfl) ?_
  refine q_imul cx dX12_setsMessage_10 ?_
  refine q_iadd cx dX12_setsMessage_11 ?_
  refine q_ild_n cx dX12_setsMessage_12 rfl (lv_at hl 2 rfl) ?_
  refine q_iadd cx dX12_setsMessage_13 ?_
  refine q_ild_n cx dX12_setsMessage_14 rfl (lv_at hl 3 rfl) ?_
  refine q_sast cx hB hsr ksr (by omega) (by omega) ⟨by omega, by omega⟩ (q_inWi (lo := 170) (hi := 650) (by decide) (by omega) (by omega)) dX12_setsMessage_15 (fun H locs f7 ef7 z8 hB => ?_)
  have z9 : q_ir (q_r f7 mo 13) sr := by rw [ef7, q_setr (Or.inl (fun q => by rw [q, ksr] at kmo; exact absurd kmo (by decide)))]; exact hr0
  have g10 : q_gr f7 sr := q_gr_put hgr ef7 z8 (q_egm (n := a0) (w := 0) (by omega) (by omega) (by omega) (by decide)) (by omega) (by omega)
  refine q_vret cx hr hlk hB dX12_setsMessage_16 ?_
  exact g10
set_option maxHeartbeats 4000000 in
set_option maxRecDepth 100000 in
theorem r_ofMessage1 (l : Launch) (g : q_G) {K : Nat → Nat} {L : List Nat} (hN : L.Nodup) {f : Nat → va_E} (hT : q_Ty g K L f) (mo : Nat) (hmo : mo ∈ L) (kmo : K mo = 12) (a0 : Int) (la0 : 0 ≤ a0) (ua0 : a0 ≤ 60) (b0 : Int) (lb0 : 1 ≤ b0) (ub0 : b0 ≤ 1) (sr : Nat) (hsr : sr ∈ L) (ksr : K sr = 151) (hr0 : q_ir (q_r f mo 13) sr) (hgr : q_gr f sr) : q_Ct l g K L yX12_ofMessage cX12_ofMessage 3 (some .int) 0 0 [.ref mo, .int (q_i a0), .int (q_i b0)] f [] (q_Pi (fun (z : Int) (f1 : Nat → va_E) => f = f1 ∧ 0 ≤ z ∧ z ≤ 9)) := by
  obtain rfl : b0 = 1 := by omega
  refine q_ofb (by decide +kernel) hN hT (Nat.le_of_ble_eq_true rfl) ?_
  intro p e s m below meth c ls cx hr hlk hB hl
  have hl : lv_has ls 3 [(0, .ref mo), (1, .int (q_i a0)), (2, .int (q_i 1))] := hl
  obtain ⟨H, hH⟩ : ∃ H : Heap, H = s.heap := ⟨_, rfl⟩
  obtain ⟨locs, hlocs⟩ : ∃ z : List Loc, z = [] := ⟨_, rfl⟩
  rw [← hH, ← hlocs] at hB
  rw [← hH, ← hlocs]
  refine q_ald_n cx dX12_ofMessage_0 rfl (lv_at hl 0 rfl) ?_
  refine q_gX12_20 cx hB hmo kmo hr0 dX12_ofMessage_1 (fun hb4 kb4 => ?_)
  refine q_sipush cx dX12_ofMessage_4 rfl ?_
  refine q_bipush cx dX12_ofMessage_7 rfl ?_
  refine q_ild_n cx dX12_ofMessage_9 rfl (lv_at hl 1 rfl) ?_
  refine q_imul cx dX12_ofMessage_10 ?_
  refine q_iadd cx dX12_ofMessage_11 ?_
  refine q_ild_n cx dX12_ofMessage_12 rfl (lv_at hl 2 rfl) ?_
  refine q_iadd cx dX12_ofMessage_13 ?_
  obtain ⟨x5, ex5⟩ : ∃ zz, q_is (q_z f sr (Int.toNat ((170 + (8 * a0)) + 1))) zz := ⟨_, q_isr _⟩
  refine q_sald cx hB hsr ksr (by omega) (by omega) ex5 dX12_ofMessage_14 (fun rx5 => ?_)
  obtain ⟨lx5, ux5⟩ : 0 ≤ x5 ∧ x5 ≤ 9 := q_isb ex5 (q_gr_at hgr (by omega) (q_egm (n := a0) (w := 1) (by omega) (by omega) (by omega) (by decide)))
  refine q_iret cx hr hlk hB dX12_ofMessage_15 ⟨by omega, by omega⟩ ?_
  exact ⟨rfl, (by omega), (by omega)⟩
set_option maxHeartbeats 4000000 in
set_option maxRecDepth 100000 in
theorem r_setsMessage1 (l : Launch) (g : q_G) {K : Nat → Nat} {L : List Nat} (hN : L.Nodup) {f : Nat → va_E} (hT : q_Ty g K L f) (mo : Nat) (hmo : mo ∈ L) (kmo : K mo = 12) (a0 : Int) (la0 : 0 ≤ a0) (ua0 : a0 ≤ 60) (b0 : Int) (lb0 : 1 ≤ b0) (ub0 : b0 ≤ 1) (c0 : Int) (lc0 : 0 ≤ c0) (uc0 : c0 ≤ 9) (sr : Nat) (hsr : sr ∈ L) (ksr : K sr = 151) (hr0 : q_ir (q_r f mo 13) sr) (hgr : q_gr f sr) : q_Ct l g K L yX12_setsMessage cX12_setsMessage 4 none 0 0 [.ref mo, .int (q_i a0), .int (q_i b0), .int (q_i c0)] f [(151, 171, 651)] (q_Pv (fun (f1 : Nat → va_E) => q_gr f1 sr)) := by
  obtain rfl : b0 = 1 := by omega
  refine q_ofb (by decide +kernel) hN hT (Nat.le_of_ble_eq_true rfl) ?_
  intro p e s m below meth c ls cx hr hlk hB hl
  have hl : lv_has ls 4 [(0, .ref mo), (1, .int (q_i a0)), (2, .int (q_i 1)), (3, .int (q_i c0))] := hl
  obtain ⟨H, hH⟩ : ∃ H : Heap, H = s.heap := ⟨_, rfl⟩
  obtain ⟨locs, hlocs⟩ : ∃ z : List Loc, z = [] := ⟨_, rfl⟩
  rw [← hH, ← hlocs] at hB
  rw [← hH, ← hlocs]
  refine q_ald_n cx dX12_setsMessage_0 rfl (lv_at hl 0 rfl) ?_
  refine q_gX12_20 cx hB hmo kmo hr0 dX12_setsMessage_1 (fun hb6 kb6 => ?_)
  refine q_sipush cx dX12_setsMessage_4 rfl ?_
  refine q_bipush cx dX12_setsMessage_7 rfl ?_
  refine q_ild_n cx dX12_setsMessage_9 rfl (lv_at hl 1 rfl) ?_
  refine q_imul cx dX12_setsMessage_10 ?_
  refine q_iadd cx dX12_setsMessage_11 ?_
  refine q_ild_n cx dX12_setsMessage_12 rfl (lv_at hl 2 rfl) ?_
  refine q_iadd cx dX12_setsMessage_13 ?_
  refine q_ild_n cx dX12_setsMessage_14 rfl (lv_at hl 3 rfl) ?_
  refine q_sast cx hB hsr ksr (by omega) (by omega) ⟨by omega, by omega⟩ (q_inWi (lo := 171) (hi := 651) (by decide) (by omega) (by omega)) dX12_setsMessage_15 (fun H locs f7 ef7 z8 hB => ?_)
  have z9 : q_ir (q_r f7 mo 13) sr := by rw [ef7, q_setr (Or.inl (fun q => by rw [q, ksr] at kmo; exact absurd kmo (by decide)))]; exact hr0
  have g10 : q_gr f7 sr := q_gr_put hgr ef7 z8 (q_egm (n := a0) (w := 1) (by omega) (by omega) (by omega) (by decide)) (by omega) (by omega)
  refine q_vret cx hr hlk hB dX12_setsMessage_16 ?_
  exact g10
set_option maxHeartbeats 4000000 in
set_option maxRecDepth 100000 in
theorem r_ofMessage2 (l : Launch) (g : q_G) {K : Nat → Nat} {L : List Nat} (hN : L.Nodup) {f : Nat → va_E} (hT : q_Ty g K L f) (mo : Nat) (hmo : mo ∈ L) (kmo : K mo = 12) (a0 : Int) (la0 : 0 ≤ a0) (ua0 : a0 ≤ 60) (b0 : Int) (lb0 : 2 ≤ b0) (ub0 : b0 ≤ 2) (sr : Nat) (hsr : sr ∈ L) (ksr : K sr = 151) (hr0 : q_ir (q_r f mo 13) sr) (hgr : q_gr f sr) : q_Ct l g K L yX12_ofMessage cX12_ofMessage 3 (some .int) 0 0 [.ref mo, .int (q_i a0), .int (q_i b0)] f [] (q_Pi (fun (z : Int) (f1 : Nat → va_E) => f = f1 ∧ 0 ≤ z ∧ z ≤ 9 ∧ (z = q_z f sr (Int.toNat (8 * a0 + 172))))) := by
  obtain rfl : b0 = 2 := by omega
  refine q_ofb (by decide +kernel) hN hT (Nat.le_of_ble_eq_true rfl) ?_
  intro p e s m below meth c ls cx hr hlk hB hl
  have hl : lv_has ls 3 [(0, .ref mo), (1, .int (q_i a0)), (2, .int (q_i 2))] := hl
  obtain ⟨H, hH⟩ : ∃ H : Heap, H = s.heap := ⟨_, rfl⟩
  obtain ⟨locs, hlocs⟩ : ∃ z : List Loc, z = [] := ⟨_, rfl⟩
  rw [← hH, ← hlocs] at hB
  rw [← hH, ← hlocs]
  refine q_ald_n cx dX12_ofMessage_0 rfl (lv_at hl 0 rfl) ?_
  refine q_gX12_20 cx hB hmo kmo hr0 dX12_ofMessage_1 (fun hb4 kb4 => ?_)
  refine q_sipush cx dX12_ofMessage_4 rfl ?_
  refine q_bipush cx dX12_ofMessage_7 rfl ?_
  refine q_ild_n cx dX12_ofMessage_9 rfl (lv_at hl 1 rfl) ?_
  refine q_imul cx dX12_ofMessage_10 ?_
  refine q_iadd cx dX12_ofMessage_11 ?_
  refine q_ild_n cx dX12_ofMessage_12 rfl (lv_at hl 2 rfl) ?_
  refine q_iadd cx dX12_ofMessage_13 ?_
  obtain ⟨x5, ex5⟩ : ∃ zz, q_is (q_z f sr (Int.toNat ((170 + (8 * a0)) + 2))) zz := ⟨_, q_isr _⟩
  refine q_sald cx hB hsr ksr (by omega) (by omega) ex5 dX12_ofMessage_14 (fun rx5 => ?_)
  obtain ⟨lx5, ux5⟩ : 0 ≤ x5 ∧ x5 ≤ 9 := q_isb ex5 (q_gr_at hgr (by omega) (q_egm (n := a0) (w := 2) (by omega) (by omega) (by omega) (by decide)))
  refine q_iret cx hr hlk hB dX12_ofMessage_15 ⟨by omega, by omega⟩ ?_
  exact ⟨rfl, (by omega), (by omega), (q_zat ex5 (by omega))⟩
set_option maxHeartbeats 4000000 in
set_option maxRecDepth 100000 in
theorem r_setsMessage2 (l : Launch) (g : q_G) {K : Nat → Nat} {L : List Nat} (hN : L.Nodup) {f : Nat → va_E} (hT : q_Ty g K L f) (mo : Nat) (hmo : mo ∈ L) (kmo : K mo = 12) (a0 : Int) (la0 : 0 ≤ a0) (ua0 : a0 ≤ 60) (b0 : Int) (lb0 : 2 ≤ b0) (ub0 : b0 ≤ 2) (c0 : Int) (lc0 : 0 ≤ c0) (uc0 : c0 ≤ 9) (sr : Nat) (hsr : sr ∈ L) (ksr : K sr = 151) (hr0 : q_ir (q_r f mo 13) sr) (hgr : q_gr f sr) : q_Ct l g K L yX12_setsMessage cX12_setsMessage 4 none 0 0 [.ref mo, .int (q_i a0), .int (q_i b0), .int (q_i c0)] f [(151, 172, 652)] (q_Pv (fun (f1 : Nat → va_E) => q_gr f1 sr)) := by
  obtain rfl : b0 = 2 := by omega
  refine q_ofb (by decide +kernel) hN hT (Nat.le_of_ble_eq_true rfl) ?_
  intro p e s m below meth c ls cx hr hlk hB hl
  have hl : lv_has ls 4 [(0, .ref mo), (1, .int (q_i a0)), (2, .int (q_i 2)), (3, .int (q_i c0))] := hl
  obtain ⟨H, hH⟩ : ∃ H : Heap, H = s.heap := ⟨_, rfl⟩
  obtain ⟨locs, hlocs⟩ : ∃ z : List Loc, z = [] := ⟨_, rfl⟩
  rw [← hH, ← hlocs] at hB
  rw [← hH, ← hlocs]
  refine q_ald_n cx dX12_setsMessage_0 rfl (lv_at hl 0 rfl) ?_
  refine q_gX12_20 cx hB hmo kmo hr0 dX12_setsMessage_1 (fun hb6 kb6 => ?_)
  refine q_sipush cx dX12_setsMessage_4 rfl ?_
  refine q_bipush cx dX12_setsMessage_7 rfl ?_
  refine q_ild_n cx dX12_setsMessage_9 rfl (lv_at hl 1 rfl) ?_
  refine q_imul cx dX12_setsMessage_10 ?_
  refine q_iadd cx dX12_setsMessage_11 ?_
  refine q_ild_n cx dX12_setsMessage_12 rfl (lv_at hl 2 rfl) ?_
  refine q_iadd cx dX12_setsMessage_13 ?_
  refine q_ild_n cx dX12_setsMessage_14 rfl (lv_at hl 3 rfl) ?_
  refine q_sast cx hB hsr ksr (by omega) (by omega) ⟨by omega, by omega⟩ (q_inWi (lo := 172) (hi := 652) (by decide) (by omega) (by omega)) dX12_setsMessage_15 (fun H locs f7 ef7 z8 hB => ?_)
  have z9 : q_ir (q_r f7 mo 13) sr := by rw [ef7, q_setr (Or.inl (fun q => by rw [q, ksr] at kmo; exact absurd kmo (by decide)))]; exact hr0
  have g10 : q_gr f7 sr := q_gr_put hgr ef7 z8 (q_egm (n := a0) (w := 2) (by omega) (by omega) (by omega) (by decide)) (by omega) (by omega)
  refine q_vret cx hr hlk hB dX12_setsMessage_16 ?_
  exact g10
set_option maxHeartbeats 4000000 in
set_option maxRecDepth 100000 in
theorem r_ofMessage3 (l : Launch) (g : q_G) {K : Nat → Nat} {L : List Nat} (hN : L.Nodup) {f : Nat → va_E} (hT : q_Ty g K L f) (mo : Nat) (hmo : mo ∈ L) (kmo : K mo = 12) (a0 : Int) (la0 : 0 ≤ a0) (ua0 : a0 ≤ 60) (b0 : Int) (lb0 : 3 ≤ b0) (ub0 : b0 ≤ 3) (sr : Nat) (hsr : sr ∈ L) (ksr : K sr = 151) (hr0 : q_ir (q_r f mo 13) sr) (hgr : q_gr f sr) : q_Ct l g K L yX12_ofMessage cX12_ofMessage 3 (some .int) 0 0 [.ref mo, .int (q_i a0), .int (q_i b0)] f [] (q_Pi (fun (z : Int) (f1 : Nat → va_E) => f = f1 ∧ 0 ≤ z ∧ z ≤ 2 ∧ (z = q_z f sr (Int.toNat (8 * a0 + 173))))) := by
  obtain rfl : b0 = 3 := by omega
  refine q_ofb (by decide +kernel) hN hT (Nat.le_of_ble_eq_true rfl) ?_
  intro p e s m below meth c ls cx hr hlk hB hl
  have hl : lv_has ls 3 [(0, .ref mo), (1, .int (q_i a0)), (2, .int (q_i 3))] := hl
  obtain ⟨H, hH⟩ : ∃ H : Heap, H = s.heap := ⟨_, rfl⟩
  obtain ⟨locs, hlocs⟩ : ∃ z : List Loc, z = [] := ⟨_, rfl⟩
  rw [← hH, ← hlocs] at hB
  rw [← hH, ← hlocs]
  refine q_ald_n cx dX12_ofMessage_0 rfl (lv_at hl 0 rfl) ?_
  refine q_gX12_20 cx hB hmo kmo hr0 dX12_ofMessage_1 (fun hb4 kb4 => ?_)
  refine q_sipush cx dX12_ofMessage_4 rfl ?_
  refine q_bipush cx dX12_ofMessage_7 rfl ?_
  refine q_ild_n cx dX12_ofMessage_9 rfl (lv_at hl 1 rfl) ?_
  refine q_imul cx dX12_ofMessage_10 ?_
  refine q_iadd cx dX12_ofMessage_11 ?_
  refine q_ild_n cx dX12_ofMessage_12 rfl (lv_at hl 2 rfl) ?_
  refine q_iadd cx dX12_ofMessage_13 ?_
  obtain ⟨x5, ex5⟩ : ∃ zz, q_is (q_z f sr (Int.toNat ((170 + (8 * a0)) + 3))) zz := ⟨_, q_isr _⟩
  refine q_sald cx hB hsr ksr (by omega) (by omega) ex5 dX12_ofMessage_14 (fun rx5 => ?_)
  obtain ⟨lx5, ux5⟩ : 0 ≤ x5 ∧ x5 ≤ 2 := q_isb ex5 (q_gr_at hgr (by omega) (q_egm (n := a0) (w := 3) (by omega) (by omega) (by omega) (by decide)))
  refine q_iret cx hr hlk hB dX12_ofMessage_15 ⟨by omega, by omega⟩ ?_
  exact ⟨rfl, (by omega), (by omega), (q_zat ex5 (by omega))⟩
set_option maxHeartbeats 4000000 in
set_option maxRecDepth 100000 in
theorem r_setsMessage3 (l : Launch) (g : q_G) {K : Nat → Nat} {L : List Nat} (hN : L.Nodup) {f : Nat → va_E} (hT : q_Ty g K L f) (mo : Nat) (hmo : mo ∈ L) (kmo : K mo = 12) (a0 : Int) (la0 : 0 ≤ a0) (ua0 : a0 ≤ 60) (b0 : Int) (lb0 : 3 ≤ b0) (ub0 : b0 ≤ 3) (c0 : Int) (lc0 : 0 ≤ c0) (uc0 : c0 ≤ 2) (sr : Nat) (hsr : sr ∈ L) (ksr : K sr = 151) (hr0 : q_ir (q_r f mo 13) sr) (hgr : q_gr f sr) : q_Ct l g K L yX12_setsMessage cX12_setsMessage 4 none 0 0 [.ref mo, .int (q_i a0), .int (q_i b0), .int (q_i c0)] f [(151, 173, 653)] (q_Pv (fun (f1 : Nat → va_E) => q_gr f1 sr)) := by
  obtain rfl : b0 = 3 := by omega
  refine q_ofb (by decide +kernel) hN hT (Nat.le_of_ble_eq_true rfl) ?_
  intro p e s m below meth c ls cx hr hlk hB hl
  have hl : lv_has ls 4 [(0, .ref mo), (1, .int (q_i a0)), (2, .int (q_i 3)), (3, .int (q_i c0))] := hl
  obtain ⟨H, hH⟩ : ∃ H : Heap, H = s.heap := ⟨_, rfl⟩
  obtain ⟨locs, hlocs⟩ : ∃ z : List Loc, z = [] := ⟨_, rfl⟩
  rw [← hH, ← hlocs] at hB
  rw [← hH, ← hlocs]
  refine q_ald_n cx dX12_setsMessage_0 rfl (lv_at hl 0 rfl) ?_
  refine q_gX12_20 cx hB hmo kmo hr0 dX12_setsMessage_1 (fun hb6 kb6 => ?_)
  refine q_sipush cx dX12_setsMessage_4 rfl ?_
  refine q_bipush cx dX12_setsMessage_7 rfl ?_
  refine q_ild_n cx dX12_setsMessage_9 rfl (lv_at hl 1 rfl) ?_
  refine q_imul cx dX12_setsMessage_10 ?_
  refine q_iadd cx dX12_setsMessage_11 ?_
  refine q_ild_n cx dX12_setsMessage_12 rfl (lv_at hl 2 rfl) ?_
  refine q_iadd cx dX12_setsMessage_13 ?_
  refine q_ild_n cx dX12_setsMessage_14 rfl (lv_at hl 3 rfl) ?_
  refine q_sast cx hB hsr ksr (by omega) (by omega) ⟨by omega, by omega⟩ (q_inWi (lo := 173) (hi := 653) (by decide) (by omega) (by omega)) dX12_setsMessage_15 (fun H locs f7 ef7 z8 hB => ?_)
  have z9 : q_ir (q_r f7 mo 13) sr := by rw [ef7, q_setr (Or.inl (fun q => by rw [q, ksr] at kmo; exact absurd kmo (by decide)))]; exact hr0
  have g10 : q_gr f7 sr := q_gr_put hgr ef7 z8 (q_egm (n := a0) (w := 3) (by omega) (by omega) (by omega) (by decide)) (by omega) (by omega)
  refine q_vret cx hr hlk hB dX12_setsMessage_16 ?_
  exact g10
set_option maxHeartbeats 4000000 in
set_option maxRecDepth 100000 in
theorem r_ofMessage4 (l : Launch) (g : q_G) {K : Nat → Nat} {L : List Nat} (hN : L.Nodup) {f : Nat → va_E} (hT : q_Ty g K L f) (mo : Nat) (hmo : mo ∈ L) (kmo : K mo = 12) (a0 : Int) (la0 : 0 ≤ a0) (ua0 : a0 ≤ 60) (b0 : Int) (lb0 : 4 ≤ b0) (ub0 : b0 ≤ 4) (sr : Nat) (hsr : sr ∈ L) (ksr : K sr = 151) (hr0 : q_ir (q_r f mo 13) sr) (hgr : q_gr f sr) : q_Ct l g K L yX12_ofMessage cX12_ofMessage 3 (some .int) 0 0 [.ref mo, .int (q_i a0), .int (q_i b0)] f [] (q_Pi (fun (z : Int) (f1 : Nat → va_E) => f = f1)) := by
  obtain rfl : b0 = 4 := by omega
  refine q_ofb (by decide +kernel) hN hT (Nat.le_of_ble_eq_true rfl) ?_
  intro p e s m below meth c ls cx hr hlk hB hl
  have hl : lv_has ls 3 [(0, .ref mo), (1, .int (q_i a0)), (2, .int (q_i 4))] := hl
  obtain ⟨H, hH⟩ : ∃ H : Heap, H = s.heap := ⟨_, rfl⟩
  obtain ⟨locs, hlocs⟩ : ∃ z : List Loc, z = [] := ⟨_, rfl⟩
  rw [← hH, ← hlocs] at hB
  rw [← hH, ← hlocs]
  refine q_ald_n cx dX12_ofMessage_0 rfl (lv_at hl 0 rfl) ?_
  refine q_gX12_20 cx hB hmo kmo hr0 dX12_ofMessage_1 (fun hb4 kb4 => ?_)
  refine q_sipush cx dX12_ofMessage_4 rfl ?_
  refine q_bipush cx dX12_ofMessage_7 rfl ?_
  refine q_ild_n cx dX12_ofMessage_9 rfl (lv_at hl 1 rfl) ?_
  refine q_imul cx dX12_ofMessage_10 ?_
  refine q_iadd cx dX12_ofMessage_11 ?_
  refine q_ild_n cx dX12_ofMessage_12 rfl (lv_at hl 2 rfl) ?_
  refine q_iadd cx dX12_ofMessage_13 ?_
  obtain ⟨x5, ex5⟩ : ∃ zz, q_is (q_z f sr (Int.toNat ((170 + (8 * a0)) + 4))) zz := ⟨_, q_isr _⟩
  refine q_sald cx hB hsr ksr (by omega) (by omega) ex5 dX12_ofMessage_14 (fun rx5 => ?_)
  refine q_iret cx hr hlk hB dX12_ofMessage_15 ⟨by omega, by omega⟩ ?_
  exact rfl
set_option maxHeartbeats 4000000 in
set_option maxRecDepth 100000 in
theorem r_setsMessage4 (l : Launch) (g : q_G) {K : Nat → Nat} {L : List Nat} (hN : L.Nodup) {f : Nat → va_E} (hT : q_Ty g K L f) (mo : Nat) (hmo : mo ∈ L) (kmo : K mo = 12) (a0 : Int) (la0 : 0 ≤ a0) (ua0 : a0 ≤ 60) (b0 : Int) (lb0 : 4 ≤ b0) (ub0 : b0 ≤ 4) (c0 : Int) (lc0 : (-2147483648) ≤ c0) (uc0 : c0 ≤ 2147483647) (sr : Nat) (hsr : sr ∈ L) (ksr : K sr = 151) (hr0 : q_ir (q_r f mo 13) sr) (hgr : q_gr f sr) : q_Ct l g K L yX12_setsMessage cX12_setsMessage 4 none 0 0 [.ref mo, .int (q_i a0), .int (q_i b0), .int (q_i c0)] f [(151, 174, 654)] (q_Pv (fun (f1 : Nat → va_E) => q_gr f1 sr)) := by
  obtain rfl : b0 = 4 := by omega
  refine q_ofb (by decide +kernel) hN hT (Nat.le_of_ble_eq_true rfl) ?_
  intro p e s m below meth c ls cx hr hlk hB hl
  have hl : lv_has ls 4 [(0, .ref mo), (1, .int (q_i a0)), (2, .int (q_i 4)), (3, .int (q_i c0))] := hl
  obtain ⟨H, hH⟩ : ∃ H : Heap, H = s.heap := ⟨_, rfl⟩
  obtain ⟨locs, hlocs⟩ : ∃ z : List Loc, z = [] := ⟨_, rfl⟩
  rw [← hH, ← hlocs] at hB
  rw [← hH, ← hlocs]
  refine q_ald_n cx dX12_setsMessage_0 rfl (lv_at hl 0 rfl) ?_
  refine q_gX12_20 cx hB hmo kmo hr0 dX12_setsMessage_1 (fun hb6 kb6 => ?_)
  refine q_sipush cx dX12_setsMessage_4 rfl ?_
  refine q_bipush cx dX12_setsMessage_7 rfl ?_
  refine q_ild_n cx dX12_setsMessage_9 rfl (lv_at hl 1 rfl) ?_
  refine q_imul cx dX12_setsMessage_10 ?_
  refine q_iadd cx dX12_setsMessage_11 ?_
  refine q_ild_n cx dX12_setsMessage_12 rfl (lv_at hl 2 rfl) ?_
  refine q_iadd cx dX12_setsMessage_13 ?_
  refine q_ild_n cx dX12_setsMessage_14 rfl (lv_at hl 3 rfl) ?_
  refine q_sast cx hB hsr ksr (by omega) (by omega) ⟨by omega, by omega⟩ (q_inWi (lo := 174) (hi := 654) (by decide) (by omega) (by omega)) dX12_setsMessage_15 (fun H locs f7 ef7 z8 hB => ?_)
  have z9 : q_ir (q_r f7 mo 13) sr := by rw [ef7, q_setr (Or.inl (fun q => by rw [q, ksr] at kmo; exact absurd kmo (by decide)))]; exact hr0
  have g10 : q_gr f7 sr := q_gr_put hgr ef7 z8 (q_egm (n := a0) (w := 4) (by omega) (by omega) (by omega) (by decide)) (by omega) (by omega)
  refine q_vret cx hr hlk hB dX12_setsMessage_16 ?_
  exact g10
set_option maxHeartbeats 4000000 in
set_option maxRecDepth 100000 in
theorem r_ofMessage5 (l : Launch) (g : q_G) {K : Nat → Nat} {L : List Nat} (hN : L.Nodup) {f : Nat → va_E} (hT : q_Ty g K L f) (mo : Nat) (hmo : mo ∈ L) (kmo : K mo = 12) (a0 : Int) (la0 : 0 ≤ a0) (ua0 : a0 ≤ 60) (b0 : Int) (lb0 : 5 ≤ b0) (ub0 : b0 ≤ 5) (sr : Nat) (hsr : sr ∈ L) (ksr : K sr = 151) (hr0 : q_ir (q_r f mo 13) sr) (hgr : q_gr f sr) : q_Ct l g K L yX12_ofMessage cX12_ofMessage 3 (some .int) 0 0 [.ref mo, .int (q_i a0), .int (q_i b0)] f [] (q_Pi (fun (z : Int) (f1 : Nat → va_E) => f = f1 ∧ 0 ≤ z ∧ z ≤ 1)) := by
  obtain rfl : b0 = 5 := by omega
  refine q_ofb (by decide +kernel) hN hT (Nat.le_of_ble_eq_true rfl) ?_
  intro p e s m below meth c ls cx hr hlk hB hl
  have hl : lv_has ls 3 [(0, .ref mo), (1, .int (q_i a0)), (2, .int (q_i 5))] := hl
  obtain ⟨H, hH⟩ : ∃ H : Heap, H = s.heap := ⟨_, rfl⟩
  obtain ⟨locs, hlocs⟩ : ∃ z : List Loc, z = [] := ⟨_, rfl⟩
  rw [← hH, ← hlocs] at hB
  rw [← hH, ← hlocs]
  refine q_ald_n cx dX12_ofMessage_0 rfl (lv_at hl 0 rfl) ?_
  refine q_gX12_20 cx hB hmo kmo hr0 dX12_ofMessage_1 (fun hb4 kb4 => ?_)
  refine q_sipush cx dX12_ofMessage_4 rfl ?_
  refine q_bipush cx dX12_ofMessage_7 rfl ?_
  refine q_ild_n cx dX12_ofMessage_9 rfl (lv_at hl 1 rfl) ?_
  refine q_imul cx dX12_ofMessage_10 ?_
  refine q_iadd cx dX12_ofMessage_11 ?_
  refine q_ild_n cx dX12_ofMessage_12 rfl (lv_at hl 2 rfl) ?_
  refine q_iadd cx dX12_ofMessage_13 ?_
  obtain ⟨x5, ex5⟩ : ∃ zz, q_is (q_z f sr (Int.toNat ((170 + (8 * a0)) + 5))) zz := ⟨_, q_isr _⟩
  refine q_sald cx hB hsr ksr (by omega) (by omega) ex5 dX12_ofMessage_14 (fun rx5 => ?_)
  obtain ⟨lx5, ux5⟩ : 0 ≤ x5 ∧ x5 ≤ 1 := q_isb ex5 (q_gr_at hgr (by omega) (q_egm (n := a0) (w := 5) (by omega) (by omega) (by omega) (by decide)))
  refine q_iret cx hr hlk hB dX12_ofMessage_15 ⟨by omega, by omega⟩ ?_
  exact ⟨rfl, (by omega), (by omega)⟩
set_option maxHeartbeats 4000000 in
set_option maxRecDepth 100000 in
theorem r_setsMessage5 (l : Launch) (g : q_G) {K : Nat → Nat} {L : List Nat} (hN : L.Nodup) {f : Nat → va_E} (hT : q_Ty g K L f) (mo : Nat) (hmo : mo ∈ L) (kmo : K mo = 12) (a0 : Int) (la0 : 0 ≤ a0) (ua0 : a0 ≤ 60) (b0 : Int) (lb0 : 5 ≤ b0) (ub0 : b0 ≤ 5) (c0 : Int) (lc0 : 0 ≤ c0) (uc0 : c0 ≤ 1) (sr : Nat) (hsr : sr ∈ L) (ksr : K sr = 151) (hr0 : q_ir (q_r f mo 13) sr) (hgr : q_gr f sr) : q_Ct l g K L yX12_setsMessage cX12_setsMessage 4 none 0 0 [.ref mo, .int (q_i a0), .int (q_i b0), .int (q_i c0)] f [(151, 175, 655)] (q_Pv (fun (f1 : Nat → va_E) => q_gr f1 sr)) := by
  obtain rfl : b0 = 5 := by omega
  refine q_ofb (by decide +kernel) hN hT (Nat.le_of_ble_eq_true rfl) ?_
  intro p e s m below meth c ls cx hr hlk hB hl
  have hl : lv_has ls 4 [(0, .ref mo), (1, .int (q_i a0)), (2, .int (q_i 5)), (3, .int (q_i c0))] := hl
  obtain ⟨H, hH⟩ : ∃ H : Heap, H = s.heap := ⟨_, rfl⟩
  obtain ⟨locs, hlocs⟩ : ∃ z : List Loc, z = [] := ⟨_, rfl⟩
  rw [← hH, ← hlocs] at hB
  rw [← hH, ← hlocs]
  refine q_ald_n cx dX12_setsMessage_0 rfl (lv_at hl 0 rfl) ?_
  refine q_gX12_20 cx hB hmo kmo hr0 dX12_setsMessage_1 (fun hb6 kb6 => ?_)
  refine q_sipush cx dX12_setsMessage_4 rfl ?_
  refine q_bipush cx dX12_setsMessage_7 rfl ?_
  refine q_ild_n cx dX12_setsMessage_9 rfl (lv_at hl 1 rfl) ?_
  refine q_imul cx dX12_setsMessage_10 ?_
  refine q_iadd cx dX12_setsMessage_11 ?_
  refine q_ild_n cx dX12_setsMessage_12 rfl (lv_at hl 2 rfl) ?_
  refine q_iadd cx dX12_setsMessage_13 ?_
  refine q_ild_n cx dX12_setsMessage_14 rfl (lv_at hl 3 rfl) ?_
  refine q_sast cx hB hsr ksr (by omega) (by omega) ⟨by omega, by omega⟩ (q_inWi (lo := 175) (hi := 655) (by decide) (by omega) (by omega)) dX12_setsMessage_15 (fun H locs f7 ef7 z8 hB => ?_)
  have z9 : q_ir (q_r f7 mo 13) sr := by rw [ef7, q_setr (Or.inl (fun q => by rw [q, ksr] at kmo; exact absurd kmo (by decide)))]; exact hr0
  have g10 : q_gr f7 sr := q_gr_put hgr ef7 z8 (q_egm (n := a0) (w := 5) (by omega) (by omega) (by omega) (by decide)) (by omega) (by omega)
  refine q_vret cx hr hlk hB dX12_setsMessage_16 ?_
  exact g10
set_option maxHeartbeats 4000000 in
set_option maxRecDepth 100000 in
theorem r_ofMessage6 (l : Launch) (g : q_G) {K : Nat → Nat} {L : List Nat} (hN : L.Nodup) {f : Nat → va_E} (hT : q_Ty g K L f) (mo : Nat) (hmo : mo ∈ L) (kmo : K mo = 12) (a0 : Int) (la0 : 0 ≤ a0) (ua0 : a0 ≤ 60) (b0 : Int) (lb0 : 6 ≤ b0) (ub0 : b0 ≤ 6) (sr : Nat) (hsr : sr ∈ L) (ksr : K sr = 151) (hr0 : q_ir (q_r f mo 13) sr) (hgr : q_gr f sr) : q_Ct l g K L yX12_ofMessage cX12_ofMessage 3 (some .int) 0 0 [.ref mo, .int (q_i a0), .int (q_i b0)] f [] (q_Pi (fun (z : Int) (f1 : Nat → va_E) => f = f1)) := by
  obtain rfl : b0 = 6 := by omega
  refine q_ofb (by decide +kernel) hN hT (Nat.le_of_ble_eq_true rfl) ?_
  intro p e s m below meth c ls cx hr hlk hB hl
  have hl : lv_has ls 3 [(0, .ref mo), (1, .int (q_i a0)), (2, .int (q_i 6))] := hl
  obtain ⟨H, hH⟩ : ∃ H : Heap, H = s.heap := ⟨_, rfl⟩
  obtain ⟨locs, hlocs⟩ : ∃ z : List Loc, z = [] := ⟨_, rfl⟩
  rw [← hH, ← hlocs] at hB
  rw [← hH, ← hlocs]
  refine q_ald_n cx dX12_ofMessage_0 rfl (lv_at hl 0 rfl) ?_
  refine q_gX12_20 cx hB hmo kmo hr0 dX12_ofMessage_1 (fun hb4 kb4 => ?_)
  refine q_sipush cx dX12_ofMessage_4 rfl ?_
  refine q_bipush cx dX12_ofMessage_7 rfl ?_
  refine q_ild_n cx dX12_ofMessage_9 rfl (lv_at hl 1 rfl) ?_
  refine q_imul cx dX12_ofMessage_10 ?_
  refine q_iadd cx dX12_ofMessage_11 ?_
  refine q_ild_n cx dX12_ofMessage_12 rfl (lv_at hl 2 rfl) ?_
  refine q_iadd cx dX12_ofMessage_13 ?_
  obtain ⟨x5, ex5⟩ : ∃ zz, q_is (q_z f sr (Int.toNat ((170 + (8 * a0)) + 6))) zz := ⟨_, q_isr _⟩
  refine q_sald cx hB hsr ksr (by omega) (by omega) ex5 dX12_ofMessage_14 (fun rx5 => ?_)
  refine q_iret cx hr hlk hB dX12_ofMessage_15 ⟨by omega, by omega⟩ ?_
  exact rfl
set_option maxHeartbeats 4000000 in
set_option maxRecDepth 100000 in
theorem r_setsMessage6 (l : Launch) (g : q_G) {K : Nat → Nat} {L : List Nat} (hN : L.Nodup) {f : Nat → va_E} (hT : q_Ty g K L f) (mo : Nat) (hmo : mo ∈ L) (kmo : K mo = 12) (a0 : Int) (la0 : 0 ≤ a0) (ua0 : a0 ≤ 60) (b0 : Int) (lb0 : 6 ≤ b0) (ub0 : b0 ≤ 6) (c0 : Int) (lc0 : (-2147483648) ≤ c0) (uc0 : c0 ≤ 2147483647) (sr : Nat) (hsr : sr ∈ L) (ksr : K sr = 151) (hr0 : q_ir (q_r f mo 13) sr) (hgr : q_gr f sr) : q_Ct l g K L yX12_setsMessage cX12_setsMessage 4 none 0 0 [.ref mo, .int (q_i a0), .int (q_i b0), .int (q_i c0)] f [(151, 176, 656)] (q_Pv (fun (f1 : Nat → va_E) => q_gr f1 sr)) := by
  obtain rfl : b0 = 6 := by omega
  refine q_ofb (by decide +kernel) hN hT (Nat.le_of_ble_eq_true rfl) ?_
  intro p e s m below meth c ls cx hr hlk hB hl
  have hl : lv_has ls 4 [(0, .ref mo), (1, .int (q_i a0)), (2, .int (q_i 6)), (3, .int (q_i c0))] := hl
  obtain ⟨H, hH⟩ : ∃ H : Heap, H = s.heap := ⟨_, rfl⟩
  obtain ⟨locs, hlocs⟩ : ∃ z : List Loc, z = [] := ⟨_, rfl⟩
  rw [← hH, ← hlocs] at hB
  rw [← hH, ← hlocs]
  refine q_ald_n cx dX12_setsMessage_0 rfl (lv_at hl 0 rfl) ?_
  refine q_gX12_20 cx hB hmo kmo hr0 dX12_setsMessage_1 (fun hb6 kb6 => ?_)
  refine q_sipush cx dX12_setsMessage_4 rfl ?_
  refine q_bipush cx dX12_setsMessage_7 rfl ?_
  refine q_ild_n cx dX12_setsMessage_9 rfl (lv_at hl 1 rfl) ?_
  refine q_imul cx dX12_setsMessage_10 ?_
  refine q_iadd cx dX12_setsMessage_11 ?_
  refine q_ild_n cx dX12_setsMessage_12 rfl (lv_at hl 2 rfl) ?_
  refine q_iadd cx dX12_setsMessage_13 ?_
  refine q_ild_n cx dX12_setsMessage_14 rfl (lv_at hl 3 rfl) ?_
  refine q_sast cx hB hsr ksr (by omega) (by omega) ⟨by omega, by omega⟩ (q_inWi (lo := 176) (hi := 656) (by decide) (by omega) (by omega)) dX12_setsMessage_15 (fun H locs f7 ef7 z8 hB => ?_)
  have z9 : q_ir (q_r f7 mo 13) sr := by rw [ef7, q_setr (Or.inl (fun q => by rw [q, ksr] at kmo; exact absurd kmo (by decide)))]; exact hr0
  have g10 : q_gr f7 sr := q_gr_put hgr ef7 z8 (q_egm (n := a0) (w := 6) (by omega) (by omega) (by omega) (by decide)) (by omega) (by omega)
  refine q_vret cx hr hlk hB dX12_setsMessage_16 ?_
  exact g10
set_option maxHeartbeats 4000000 in
set_option maxRecDepth 100000 in
theorem r_ofMessage7 (l : Launch) (g : q_G) {K : Nat → Nat} {L : List Nat} (hN : L.Nodup) {f : Nat → va_E} (hT : q_Ty g K L f) (mo : Nat) (hmo : mo ∈ L) (kmo : K mo = 12) (a0 : Int) (la0 : 0 ≤ a0) (ua0 : a0 ≤ 60) (b0 : Int) (lb0 : 7 ≤ b0) (ub0 : b0 ≤ 7) (sr : Nat) (hsr : sr ∈ L) (ksr : K sr = 151) (hr0 : q_ir (q_r f mo 13) sr) (hgr : q_gr f sr) : q_Ct l g K L yX12_ofMessage cX12_ofMessage 3 (some .int) 0 0 [.ref mo, .int (q_i a0), .int (q_i b0)] f [] (q_Pi (fun (z : Int) (f1 : Nat → va_E) => f = f1)) := by
  obtain rfl : b0 = 7 := by omega
  refine q_ofb (by decide +kernel) hN hT (Nat.le_of_ble_eq_true rfl) ?_
  intro p e s m below meth c ls cx hr hlk hB hl
  have hl : lv_has ls 3 [(0, .ref mo), (1, .int (q_i a0)), (2, .int (q_i 7))] := hl
  obtain ⟨H, hH⟩ : ∃ H : Heap, H = s.heap := ⟨_, rfl⟩
  obtain ⟨locs, hlocs⟩ : ∃ z : List Loc, z = [] := ⟨_, rfl⟩
  rw [← hH, ← hlocs] at hB
  rw [← hH, ← hlocs]
  refine q_ald_n cx dX12_ofMessage_0 rfl (lv_at hl 0 rfl) ?_
  refine q_gX12_20 cx hB hmo kmo hr0 dX12_ofMessage_1 (fun hb4 kb4 => ?_)
  refine q_sipush cx dX12_ofMessage_4 rfl ?_
  refine q_bipush cx dX12_ofMessage_7 rfl ?_
  refine q_ild_n cx dX12_ofMessage_9 rfl (lv_at hl 1 rfl) ?_
  refine q_imul cx dX12_ofMessage_10 ?_
  refine q_iadd cx dX12_ofMessage_11 ?_
  refine q_ild_n cx dX12_ofMessage_12 rfl (lv_at hl 2 rfl) ?_
  refine q_iadd cx dX12_ofMessage_13 ?_
  obtain ⟨x5, ex5⟩ : ∃ zz, q_is (q_z f sr (Int.toNat ((170 + (8 * a0)) + 7))) zz := ⟨_, q_isr _⟩
  refine q_sald cx hB hsr ksr (by omega) (by omega) ex5 dX12_ofMessage_14 (fun rx5 => ?_)
  refine q_iret cx hr hlk hB dX12_ofMessage_15 ⟨by omega, by omega⟩ ?_
  exact rfl
set_option maxHeartbeats 4000000 in
set_option maxRecDepth 100000 in
theorem r_setsMessage7 (l : Launch) (g : q_G) {K : Nat → Nat} {L : List Nat} (hN : L.Nodup) {f : Nat → va_E} (hT : q_Ty g K L f) (mo : Nat) (hmo : mo ∈ L) (kmo : K mo = 12) (a0 : Int) (la0 : 0 ≤ a0) (ua0 : a0 ≤ 60) (b0 : Int) (lb0 : 7 ≤ b0) (ub0 : b0 ≤ 7) (c0 : Int) (lc0 : (-2147483648) ≤ c0) (uc0 : c0 ≤ 2147483647) (sr : Nat) (hsr : sr ∈ L) (ksr : K sr = 151) (hr0 : q_ir (q_r f mo 13) sr) (hgr : q_gr f sr) : q_Ct l g K L yX12_setsMessage cX12_setsMessage 4 none 0 0 [.ref mo, .int (q_i a0), .int (q_i b0), .int (q_i c0)] f [(151, 177, 657)] (q_Pv (fun (f1 : Nat → va_E) => q_gr f1 sr)) := by
  obtain rfl : b0 = 7 := by omega
  refine q_ofb (by decide +kernel) hN hT (Nat.le_of_ble_eq_true rfl) ?_
  intro p e s m below meth c ls cx hr hlk hB hl
  have hl : lv_has ls 4 [(0, .ref mo), (1, .int (q_i a0)), (2, .int (q_i 7)), (3, .int (q_i c0))] := hl
  obtain ⟨H, hH⟩ : ∃ H : Heap, H = s.heap := ⟨_, rfl⟩
  obtain ⟨locs, hlocs⟩ : ∃ z : List Loc, z = [] := ⟨_, rfl⟩
  rw [← hH, ← hlocs] at hB
  rw [← hH, ← hlocs]
  refine q_ald_n cx dX12_setsMessage_0 rfl (lv_at hl 0 rfl) ?_
  refine q_gX12_20 cx hB hmo kmo hr0 dX12_setsMessage_1 (fun hb6 kb6 => ?_)
  refine q_sipush cx dX12_setsMessage_4 rfl ?_
  refine q_bipush cx dX12_setsMessage_7 rfl ?_
  refine q_ild_n cx dX12_setsMessage_9 rfl (lv_at hl 1 rfl) ?_
  refine q_imul cx dX12_setsMessage_10 ?_
  refine q_iadd cx dX12_setsMessage_11 ?_
  refine q_ild_n cx dX12_setsMessage_12 rfl (lv_at hl 2 rfl) ?_
  refine q_iadd cx dX12_setsMessage_13 ?_
  refine q_ild_n cx dX12_setsMessage_14 rfl (lv_at hl 3 rfl) ?_
  refine q_sast cx hB hsr ksr (by omega) (by omega) ⟨by omega, by omega⟩ (q_inWi (lo := 177) (hi := 657) (by decide) (by omega) (by omega)) dX12_setsMessage_15 (fun H locs f7 ef7 z8 hB => ?_)
  have z9 : q_ir (q_r f7 mo 13) sr := by rw [ef7, q_setr (Or.inl (fun q => by rw [q, ksr] at kmo; exact absurd kmo (by decide)))]; exact hr0
  have g10 : q_gr f7 sr := q_gr_put hgr ef7 z8 (q_egm (n := a0) (w := 7) (by omega) (by omega) (by omega) (by decide)) (by omega) (by omega)
  refine q_vret cx hr hlk hB dX12_setsMessage_16 ?_
  exact g10
set_option maxHeartbeats 4000000 in
set_option maxRecDepth 100000 in
theorem r_ofMessagex (l : Launch) (g : q_G) {K : Nat → Nat} {L : List Nat} (hN : L.Nodup) {f : Nat → va_E} (hT : q_Ty g K L f) (mo : Nat) (hmo : mo ∈ L) (kmo : K mo = 12) (a0 : Int) (la0 : 0 ≤ a0) (ua0 : a0 ≤ 60) (b0 : Int) (lb0 : 0 ≤ b0) (ub0 : b0 ≤ 7) (sr : Nat) (hsr : sr ∈ L) (ksr : K sr = 151) (hr0 : q_ir (q_r f mo 13) sr) (hgr : q_gr f sr) : q_Ct l g K L yX12_ofMessage cX12_ofMessage 3 (some .int) 0 0 [.ref mo, .int (q_i a0), .int (q_i b0)] f [] (q_Pi (fun (z : Int) (f1 : Nat → va_E) => f = f1)) := by
  refine q_ofb (by decide +kernel) hN hT (Nat.le_of_ble_eq_true rfl) ?_
  intro p e s m below meth c ls cx hr hlk hB hl
  have hl : lv_has ls 3 [(0, .ref mo), (1, .int (q_i a0)), (2, .int (q_i b0))] := hl
  obtain ⟨H, hH⟩ : ∃ H : Heap, H = s.heap := ⟨_, rfl⟩
  obtain ⟨locs, hlocs⟩ : ∃ z : List Loc, z = [] := ⟨_, rfl⟩
  rw [← hH, ← hlocs] at hB
  rw [← hH, ← hlocs]
  refine q_ald_n cx dX12_ofMessage_0 rfl (lv_at hl 0 rfl) ?_
  refine q_gX12_20 cx hB hmo kmo hr0 dX12_ofMessage_1 (fun hb4 kb4 => ?_)
  refine q_sipush cx dX12_ofMessage_4 rfl ?_
  refine q_bipush cx dX12_ofMessage_7 rfl ?_
  refine q_ild_n cx dX12_ofMessage_9 rfl (lv_at hl 1 rfl) ?_
  refine q_imul cx dX12_ofMessage_10 ?_
  refine q_iadd cx dX12_ofMessage_11 ?_
  refine q_ild_n cx dX12_ofMessage_12 rfl (lv_at hl 2 rfl) ?_
  refine q_iadd cx dX12_ofMessage_13 ?_
  obtain ⟨x5, ex5⟩ : ∃ zz, q_is (q_z f sr (Int.toNat ((170 + (8 * a0)) + b0))) zz := ⟨_, q_isr _⟩
  refine q_sald cx hB hsr ksr (by omega) (by omega) ex5 dX12_ofMessage_14 (fun rx5 => ?_)
  refine q_iret cx hr hlk hB dX12_ofMessage_15 ⟨by omega, by omega⟩ ?_
  exact rfl
set_option maxHeartbeats 4000000 in
set_option maxRecDepth 100000 in
theorem r_linkOf (l : Launch) (g : q_G) {K : Nat → Nat} {L : List Nat} (hN : L.Nodup) {f : Nat → va_E} (hT : q_Ty g K L f) (mo : Nat) (hmo : mo ∈ L) (kmo : K mo = 12) (a0 : Int) (la0 : (-2147483648) ≤ a0) (ua0 : a0 ≤ 2147483647) (b0 : Int) (lb0 : (-2147483648) ≤ b0) (ub0 : b0 ≤ 2147483647) (sr : Nat) (hsr : sr ∈ L) (ksr : K sr = 151) (hr0 : q_ir (q_r f mo 13) sr) : q_Ct l g K L yX12_linkOf cX12_linkOf 7 (some .int) 1 22 [.ref mo, .int (q_i a0), .int (q_i b0)] f [] (q_Pi (fun (z : Int) (f1 : Nat → va_E) => f = f1 ∧ (-1) ≤ z ∧ z ≤ 15)) := by
  refine q_ofb (by decide +kernel) hN hT (Nat.le_of_ble_eq_true rfl) ?_
  intro p e s m below meth c ls cx hr hlk hB hl
  have hl : lv_has ls 7 [(0, .ref mo), (1, .int (q_i a0)), (2, .int (q_i b0))] := hl
  have J5 : ∀ (n : Nat) (v5_3 : Int) (lv5_3 : (-1) ≤ v5_3) (uv5_3 : v5_3 ≤ 15) (v5_4 : Int) (lv5_4 : 0 ≤ v5_4) (uv5_4 : v5_4 ≤ 16) (hq_mo_13 : q_ir (q_r f mo 13) sr) (hmu : (Int.toNat (2147483647 - v5_4)) < n) (H : Heap) (locs : List Loc) (hB : q_B g K L (fun q => q ∈ L) [] f f s H locs) (ls : Array Slot) (hl : lv_has ls 7 [(0, .ref mo), (1, .int (q_i a0)), (2, .int (q_i b0)), (3, .int (q_i v5_3)), (4, .int (q_i v5_4))]), W p l e { frames := 1, cells := 0, slots := 0, locals := 22 } s m ([.ref mo, .int (q_i a0), .int (q_i b0)] : List Value).toArray below meth c H locs 0 0 (MQ below (q_Q g K L [] f (q_Pi (fun (z : Int) (f1 : Nat → va_E) => f = f1 ∧ (-1) ≤ z ∧ z ≤ 15))) ([.ref mo, .int (q_i a0), .int (q_i b0)] : List Value).toArray s 0 0 (fun q => q ∈ L)) (F0 m 5 ls []) := by
    intro n
    induction n with
    | zero =>
      intro v5_3 lv5_3 uv5_3 v5_4 lv5_4 uv5_4 hq_mo_13 hmu
      exact absurd hmu (Nat.not_lt_zero _)
    | succ n ih5 =>
      intro v5_3 lv5_3 uv5_3 v5_4 lv5_4 uv5_4 hq_mo_13 hmu H locs hB ls hl
      refine lv_iload cx.1 cx.2.1 dX12_linkOf_5 (lv_at hl 4 rfl) ?_
      refine q_ald_n cx dX12_linkOf_7 rfl (lv_at hl 0 rfl) ?_
      refine q_gX12_20 cx hB hmo kmo hq_mo_13 dX12_linkOf_8 (fun hb225 kb225 => ?_)
      refine q_iconst cx dX12_linkOf_11 ?_
      obtain ⟨x226, ex226⟩ : ∃ zz, q_is (q_z f sr (Int.toNat 1)) zz := ⟨_, q_isr _⟩
      refine q_iald (lo := 0) (hi := 16) (n := 658) cx hB hsr ksr (by decide) rfl rfl (by decide) (by decide) (by decide) rfl ex226 dX12_linkOf_12 (fun lb227 ub227 => ?_)
      refine q_icge (tgt := 71) cx ⟨by omega, by omega⟩ ⟨by omega, by omega⟩ dX12_linkOf_13 (by decide) (fun c228 => ?_) (fun c228 => ?_)
      · refine q_ild_n cx dX12_linkOf_71 rfl (lv_at hl 3 rfl) ?_
        refine q_iret cx hr hlk hB dX12_linkOf_72 ⟨by omega, by omega⟩ ?_
        exact ⟨rfl, (by omega), (by omega)⟩
      · refine q_ald_n cx dX12_linkOf_16 rfl (lv_at hl 0 rfl) ?_
        refine lv_iload cx.1 cx.2.1 dX12_linkOf_17 (lv_at hl 4 rfl) ?_
        refine q_iconst cx dX12_linkOf_19 ?_
        refine q_cVi (As := [.int (q_i v5_4), .int (q_i 0)]) (rest := []) cx hB (fun _ h => h) hN hmo kmo (by decide) rfl (r_ofLinkx l g hN hB.2.1 mo hmo kmo v5_4 (by omega) (by omega) 0 (by decide) (by decide) sr hsr ksr hq_mo_13) q_cX12_210 q_dX12_ofLink (by decide) rfl rfl hl.1 rfl (Nat.le_of_ble_eq_true rfl) dX12_linkOf_20 (fun y230 H locs f229 ry230 h231 hF hB => ?_)
        obtain rfl := h231
        refine lv_istore (lv' := [(5, .int (q_i y230)), (0, .ref mo), (1, .int (q_i a0)), (2, .int (q_i b0)), (3, .int (q_i v5_3)), (4, .int (q_i v5_4))]) cx.1 cx.2.1 dX12_linkOf_23 hl (by decide) rfl (fun ls hl => ?_)
        refine q_ald_n cx dX12_linkOf_25 rfl (lv_at hl 1 rfl) ?_
        refine lv_iload cx.1 cx.2.1 dX12_linkOf_26 (lv_at hl 5 rfl) ?_
        refine q_iconst cx dX12_linkOf_28 ?_
        refine q_cVi (As := [.int (q_i v5_4), .int (q_i 1)]) (rest := []) cx hB (fun _ h => h) hN hmo kmo (by decide) rfl (r_ofLinkx l g hN hB.2.1 mo hmo kmo v5_4 (by omega) (by omega) 1 (by decide) (by decide) sr hsr ksr hq_mo_13) q_cX12_210 q_dX12_ofLink (by decide) rfl rfl hl.1 rfl (Nat.le_of_ble_eq_true rfl) dX12_linkOf_29 (fun y233 H locs f232 ry233 h234 hF hB => ?_)
        obtain rfl := h234
        refine lv_istore (lv' := [(6, .int (q_i y233)), (5, .int (q_i y230)), (0, .ref mo), (1, .int (q_i a0)), (2, .int (q_i b0)), (3, .int (q_i v5_3)), (4, .int (q_i v5_4))]) cx.1 cx.2.1 dX12_linkOf_32 hl (by decide) rfl (fun ls hl => ?_)
        refine lv_iload cx.1 cx.2.1 dX12_linkOf_34 (lv_at hl 1 rfl) ?_
        refine q_ild_n cx dX12_linkOf_36 rfl (lv_at hl 3 rfl) ?_
        refine q_icne (tgt := 46) cx ⟨by omega, by omega⟩ ⟨by omega, by omega⟩ dX12_linkOf_37 (by decide) (fun c235 => ?_) (fun c235 => ?_)
        · refine lv_iload cx.1 cx.2.1 dX12_linkOf_46 (lv_at hl 1 rfl) ?_
          refine q_ild_n cx dX12_linkOf_48 rfl (lv_at hl 4 rfl) ?_
          refine q_icne (tgt := 63) cx ⟨by omega, by omega⟩ ⟨by omega, by omega⟩ dX12_linkOf_49 (by decide) (fun c236 => ?_) (fun c236 => ?_)
          · refine q_ild_n cx dX12_linkOf_63 rfl (lv_at hl 5 rfl) ?_
            refine lv_istore_n (lv' := [(3, .int (q_i v5_3)), (6, .int (q_i y233)), (5, .int (q_i y230)), (0, .ref mo), (1, .int (q_i a0)), (2, .int (q_i b0)), (4, .int (q_i v5_4))]) cx.1 cx.2.1 dX12_linkOf_64 rfl hl (by decide) rfl (fun ls hl => ?_)
            refine q_iinc (lv' := [(4, .int (q_i (v5_4 + 1))), (3, .int (q_i v5_3)), (6, .int (q_i y233)), (5, .int (q_i y230)), (0, .ref mo), (1, .int (q_i a0)), (2, .int (q_i b0))]) cx dX12_linkOf_65 hl (k := 6) rfl (by decide) rfl (fun ls hl => ?_)
            refine lv_goto (tgt := 5) cx.1 cx.2.1 dX12_linkOf_68 (by decide) ?_
            exact ih5 v5_3 (by omega) (by omega) (v5_4 + 1) (by omega) (by omega) hq_mo_13 (by omega) H locs hB ls (lv_sub hl [4, 5, 6, 1, 0] rfl)
          · refine lv_iload cx.1 cx.2.1 dX12_linkOf_52 (lv_at hl 0 rfl) ?_
            refine q_ild_n cx dX12_linkOf_54 rfl (lv_at hl 3 rfl) ?_
            refine q_icne (tgt := 63) cx ⟨by omega, by omega⟩ ⟨by omega, by omega⟩ dX12_linkOf_55 (by decide) (fun c237 => ?_) (fun c237 => ?_)
            · refine q_ild_n cx dX12_linkOf_63 rfl (lv_at hl 5 rfl) ?_
              refine lv_istore_n (lv' := [(3, .int (q_i v5_3)), (6, .int (q_i y233)), (5, .int (q_i y230)), (0, .ref mo), (1, .int (q_i a0)), (2, .int (q_i b0)), (4, .int (q_i v5_4))]) cx.1 cx.2.1 dX12_linkOf_64 rfl hl (by decide) rfl (fun ls hl => ?_)
              refine q_iinc (lv' := [(4, .int (q_i (v5_4 + 1))), (3, .int (q_i v5_3)), (6, .int (q_i y233)), (5, .int (q_i y230)), (0, .ref mo), (1, .int (q_i a0)), (2, .int (q_i b0))]) cx dX12_linkOf_65 hl (k := 6) rfl (by decide) rfl (fun ls hl => ?_)
              refine lv_goto (tgt := 5) cx.1 cx.2.1 dX12_linkOf_68 (by decide) ?_
              exact ih5 v5_3 (by omega) (by omega) (v5_4 + 1) (by omega) (by omega) hq_mo_13 (by omega) H locs hB ls (lv_sub hl [4, 5, 6, 1, 0] rfl)
            · refine lv_iload cx.1 cx.2.1 dX12_linkOf_58 (lv_at hl 6 rfl) ?_
              refine lv_goto (tgt := 64) cx.1 cx.2.1 dX12_linkOf_60 (by decide) ?_
              refine lv_istore_n (lv' := [(3, .int (q_i v5_4)), (6, .int (q_i y233)), (5, .int (q_i y230)), (0, .ref mo), (1, .int (q_i a0)), (2, .int (q_i b0)), (4, .int (q_i v5_4))]) cx.1 cx.2.1 dX12_linkOf_64 rfl hl (by decide) rfl (fun ls hl => ?_)
              refine q_iinc (lv' := [(4, .int (q_i (v5_4 + 1))), (3, .int (q_i v5_4)), (6, .int (q_i y233)), (5, .int (q_i y230)), (0, .ref mo), (1, .int (q_i a0)), (2, .int (q_i b0))]) cx dX12_linkOf_65 hl (k := 6) rfl (by decide) rfl (fun ls hl => ?_)
              refine lv_goto (tgt := 5) cx.1 cx.2.1 dX12_linkOf_68 (by decide) ?_
              exact ih5 v5_4 (by omega) (by omega) (v5_4 + 1) (by omega) (by omega) hq_mo_13 (by omega) H locs hB ls (lv_sub hl [4, 5, 6, 1, 0] rfl)
        · refine lv_iload cx.1 cx.2.1 dX12_linkOf_40 (lv_at hl 0 rfl) ?_
          refine q_ild_n cx dX12_linkOf_42 rfl (lv_at hl 4 rfl) ?_
          refine q_iceq (tgt := 58) cx ⟨by omega, by omega⟩ ⟨by omega, by omega⟩ dX12_linkOf_43 (by decide) (fun c238 => ?_) (fun c238 => ?_)
          · refine lv_iload cx.1 cx.2.1 dX12_linkOf_58 (lv_at hl 6 rfl) ?_
            refine lv_goto (tgt := 64) cx.1 cx.2.1 dX12_linkOf_60 (by decide) ?_
            refine lv_istore_n (lv' := [(3, .int (q_i v5_4)), (6, .int (q_i y233)), (5, .int (q_i y230)), (0, .ref mo), (1, .int (q_i a0)), (2, .int (q_i b0)), (4, .int (q_i v5_4))]) cx.1 cx.2.1 dX12_linkOf_64 rfl hl (by decide) rfl (fun ls hl => ?_)
            refine q_iinc (lv' := [(4, .int (q_i (v5_4 + 1))), (3, .int (q_i v5_4)), (6, .int (q_i y233)), (5, .int (q_i y230)), (0, .ref mo), (1, .int (q_i a0)), (2, .int (q_i b0))]) cx dX12_linkOf_65 hl (k := 6) rfl (by decide) rfl (fun ls hl => ?_)
            refine lv_goto (tgt := 5) cx.1 cx.2.1 dX12_linkOf_68 (by decide) ?_
            exact ih5 v5_4 (by omega) (by omega) (v5_4 + 1) (by omega) (by omega) hq_mo_13 (by omega) H locs hB ls (lv_sub hl [4, 5, 6, 1, 0] rfl)
          · refine lv_iload cx.1 cx.2.1 dX12_linkOf_46 (lv_at hl 1 rfl) ?_
            refine q_ild_n cx dX12_linkOf_48 rfl (lv_at hl 4 rfl) ?_
            refine q_icne (tgt := 63) cx ⟨by omega, by omega⟩ ⟨by omega, by omega⟩ dX12_linkOf_49 (by decide) (fun c239 => ?_) (fun c239 => ?_)
            · refine q_ild_n cx dX12_linkOf_63 rfl (lv_at hl 5 rfl) ?_
              refine lv_istore_n (lv' := [(3, .int (q_i v5_3)), (6, .int (q_i y233)), (5, .int (q_i y230)), (0, .ref mo), (1, .int (q_i a0)), (2, .int (q_i b0)), (4, .int (q_i v5_4))]) cx.1 cx.2.1 dX12_linkOf_64 rfl hl (by decide) rfl (fun ls hl => ?_)
              refine q_iinc (lv' := [(4, .int (q_i (v5_4 + 1))), (3, .int (q_i v5_3)), (6, .int (q_i y233)), (5, .int (q_i y230)), (0, .ref mo), (1, .int (q_i a0)), (2, .int (q_i b0))]) cx dX12_linkOf_65 hl (k := 6) rfl (by decide) rfl (fun ls hl => ?_)
              refine lv_goto (tgt := 5) cx.1 cx.2.1 dX12_linkOf_68 (by decide) ?_
              exact ih5 v5_3 (by omega) (by omega) (v5_4 + 1) (by omega) (by omega) hq_mo_13 (by omega) H locs hB ls (lv_sub hl [4, 5, 6, 1, 0] rfl)
            · refine lv_iload cx.1 cx.2.1 dX12_linkOf_52 (lv_at hl 0 rfl) ?_
              refine q_ild_n cx dX12_linkOf_54 rfl (lv_at hl 3 rfl) ?_
              refine q_icne (tgt := 63) cx ⟨by omega, by omega⟩ ⟨by omega, by omega⟩ dX12_linkOf_55 (by decide) (fun c240 => ?_) (fun c240 => ?_)
              · refine q_ild_n cx dX12_linkOf_63 rfl (lv_at hl 5 rfl) ?_
                refine lv_istore_n (lv' := [(3, .int (q_i v5_3)), (6, .int (q_i y233)), (5, .int (q_i y230)), (0, .ref mo), (1, .int (q_i a0)), (2, .int (q_i b0)), (4, .int (q_i v5_4))]) cx.1 cx.2.1 dX12_linkOf_64 rfl hl (by decide) rfl (fun ls hl => ?_)
                refine q_iinc (lv' := [(4, .int (q_i (v5_4 + 1))), (3, .int (q_i v5_3)), (6, .int (q_i y233)), (5, .int (q_i y230)), (0, .ref mo), (1, .int (q_i a0)), (2, .int (q_i b0))]) cx dX12_linkOf_65 hl (k := 6) rfl (by decide) rfl (fun ls hl => ?_)
                refine lv_goto (tgt := 5) cx.1 cx.2.1 dX12_linkOf_68 (by decide) ?_
                exact ih5 v5_3 (by omega) (by omega) (v5_4 + 1) (by omega) (by omega) hq_mo_13 (by omega) H locs hB ls (lv_sub hl [4, 5, 6, 1, 0] rfl)
              · refine lv_iload cx.1 cx.2.1 dX12_linkOf_58 (lv_at hl 6 rfl) ?_
                refine lv_goto (tgt := 64) cx.1 cx.2.1 dX12_linkOf_60 (by decide) ?_
                refine lv_istore_n (lv' := [(3, .int (q_i v5_4)), (6, .int (q_i y233)), (5, .int (q_i y230)), (0, .ref mo), (1, .int (q_i a0)), (2, .int (q_i b0)), (4, .int (q_i v5_4))]) cx.1 cx.2.1 dX12_linkOf_64 rfl hl (by decide) rfl (fun ls hl => ?_)
                refine q_iinc (lv' := [(4, .int (q_i (v5_4 + 1))), (3, .int (q_i v5_4)), (6, .int (q_i y233)), (5, .int (q_i y230)), (0, .ref mo), (1, .int (q_i a0)), (2, .int (q_i b0))]) cx dX12_linkOf_65 hl (k := 6) rfl (by decide) rfl (fun ls hl => ?_)
                refine lv_goto (tgt := 5) cx.1 cx.2.1 dX12_linkOf_68 (by decide) ?_
                exact ih5 v5_4 (by omega) (by omega) (v5_4 + 1) (by omega) (by omega) hq_mo_13 (by omega) H locs hB ls (lv_sub hl [4, 5, 6, 1, 0] rfl)
  obtain ⟨H, hH⟩ : ∃ H : Heap, H = s.heap := ⟨_, rfl⟩
  obtain ⟨locs, hlocs⟩ : ∃ z : List Loc, z = [] := ⟨_, rfl⟩
  rw [← hH, ← hlocs] at hB
  rw [← hH, ← hlocs]
  refine q_iconst cx dX12_linkOf_0 ?_
  refine lv_istore_n (lv' := [(3, .int (q_i (-1))), (0, .ref mo), (1, .int (q_i a0)), (2, .int (q_i b0))]) cx.1 cx.2.1 dX12_linkOf_1 rfl hl (by decide) rfl (fun ls hl => ?_)
  refine q_iconst cx dX12_linkOf_2 ?_
  refine lv_istore (lv' := [(4, .int (q_i 0)), (3, .int (q_i (-1))), (0, .ref mo), (1, .int (q_i a0)), (2, .int (q_i b0))]) cx.1 cx.2.1 dX12_linkOf_3 hl (by decide) rfl (fun ls hl => ?_)
  exact J5 ((Int.toNat (2147483647 - 0)) + 1) (-1) (by decide) (by decide) 0 (by decide) (by decide) hr0 (Nat.lt_succ_self _) H locs hB ls (lv_sub hl [2, 3, 4, 1, 0] rfl)
