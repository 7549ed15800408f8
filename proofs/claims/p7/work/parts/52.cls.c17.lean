set_option maxHeartbeats 4000000 in
set_option maxRecDepth 100000 in
theorem g_X10_isWaitingAt (l : Launch) (g : q_G) {K : Nat → Nat} {L : List Nat} (hN : L.Nodup) {f : Nat → va_E} (hT : q_Ty g K L f) (v : Nat) (hv : v ∈ L) (kv : K v = 10) (p0 : Int) (lp0 : (-2147483648) ≤ p0) (up0 : p0 ≤ 2147483647) (p1 : Int) (lp1 : (-2147483648) ≤ p1) (up1 : p1 ≤ 2147483647) : q_Ct l g K L yX10_isWaitingAt cX10_isWaitingAt 3 (some .boolean) 1 21 [.ref v, .int (q_i p0), .int (q_i p1)] f [] (q_Pi (fun (z : Int) (f1 : Nat → va_E) => f = f1 ∧ 0 ≤ z ∧ z ≤ 1)) := by
  refine q_ofb (by decide +kernel) hN hT (Nat.le_of_ble_eq_true rfl) ?_
  intro p e s m below meth c ls cx hr hlk hB hl
  have hl : lv_has ls 3 [(0, .ref v), (1, .int (q_i p0)), (2, .int (q_i p1))] := hl
  have J28 : ∀ (t28_0 : Int) (lt28_0 : 0 ≤ t28_0) (ut28_0 : t28_0 ≤ 1) (H : Heap) (locs : List Loc) (hB : q_B g K L (fun q => q ∈ L) [] f f s H locs) (ls : Array Slot) (hl : lv_has ls 3 []), W p l e { frames := 1, cells := 0, slots := 0, locals := 21 } s m ([.ref v, .int (q_i p0), .int (q_i p1)] : List Value).toArray below meth c H locs 0 0 (MQ below (q_Q g K L [] f (q_Pi (fun (z : Int) (f1 : Nat → va_E) => f = f1 ∧ 0 ≤ z ∧ z ≤ 1))) ([.ref v, .int (q_i p0), .int (q_i p1)] : List Value).toArray s 0 0 (fun q => q ∈ L)) (F0 m 28 ls [.int (q_i t28_0)]) := by
    intro t28_0 lt28_0 ut28_0 H locs hB ls hl
    refine q_zret cx hr hlk hB dX10_isWaitingAt_28 (by omega) (by omega) ?_
    exact ⟨rfl, (by omega), (by omega)⟩
  have J27 : ∀  (H : Heap) (locs : List Loc) (hB : q_B g K L (fun q => q ∈ L) [] f f s H locs) (ls : Array Slot) (hl : lv_has ls 3 []), W p l e { frames := 1, cells := 0, slots := 0, locals := 21 } s m ([.ref v, .int (q_i p0), .int (q_i p1)] : List Value).toArray below meth c H locs 0 0 (MQ below (q_Q g K L [] f (q_Pi (fun (z : Int) (f1 : Nat → va_E) => f = f1 ∧ 0 ≤ z ∧ z ≤ 1))) ([.ref v, .int (q_i p0), .int (q_i p1)] : List Value).toArray s 0 0 (fun q => q ∈ L)) (F0 m 27 ls []) := by
    intro  H locs hB ls hl
    refine q_iconst cx dX10_isWaitingAt_27 ?_
    exact J28 0 (by decide) (by decide) H locs hB ls (lv_sub hl [] rfl)
  obtain ⟨H, hH⟩ : ∃ H : Heap, H = s.heap := ⟨_, rfl⟩
  obtain ⟨locs, hlocs⟩ : ∃ z : List Loc, z = [] := ⟨_, rfl⟩
  rw [← hH, ← hlocs] at hB
  rw [← hH, ← hlocs]
  refine q_ald_n cx dX10_isWaitingAt_0 rfl (lv_at hl 0 rfl) ?_
  refine q_ild_n cx dX10_isWaitingAt_1 rfl (lv_at hl 1 rfl) ?_
  refine q_cVr (As := [.int (q_i p0)]) (rest := []) cx hB (fun _ h => h) hN hv kv (by decide) rfl (g_X10_messageAt l g hN hB.2.1 v hv kv p0 (by omega) (by omega)) q_cX10_81 q_dX10_messageAt (by decide) rfl rfl hl.1 rfl (Nat.le_of_ble_eq_true rfl) dX10_isWaitingAt_2 (fun y14 H locs f13 h15 hF hB => ?_)
  obtain ⟨rfl, hy14, ky14⟩ := h15
  obtain ⟨x16, ex16⟩ : ∃ zz, q_is (q_z f y14 3) zz := ⟨_, q_isr _⟩
  refine q_gX10_140 cx hB hy14 ky14 ex16 dX10_isWaitingAt_5 (fun lb17 ub17 => ?_)
  refine q_ifne (tgt := 27) cx ⟨by omega, by omega⟩ dX10_isWaitingAt_8 (by decide) (fun c18 => ?_) (fun c18 => ?_)
  · exact J27  H locs hB ls (lv_sub hl [] rfl)
  · refine q_ald_n cx dX10_isWaitingAt_11 rfl (lv_at hl 0 rfl) ?_
    refine q_ild_n cx dX10_isWaitingAt_12 rfl (lv_at hl 1 rfl) ?_
    refine q_cVr (As := [.int (q_i p0)]) (rest := []) cx hB (fun _ h => h) hN hv kv (by decide) rfl (g_X10_messageAt l g hN hB.2.1 v hv kv p0 (by omega) (by omega)) q_cX10_81 q_dX10_messageAt (by decide) rfl rfl hl.1 rfl (Nat.le_of_ble_eq_true rfl) dX10_isWaitingAt_13 (fun y20 H locs f19 h21 hF hB => ?_)
    obtain ⟨rfl, hy20, ky20⟩ := h21
    obtain ⟨x22, ex22⟩ : ∃ zz, q_is (q_z f y20 2) zz := ⟨_, q_isr _⟩
    refine q_gX10_137 cx hB hy20 ky20 ex22 dX10_isWaitingAt_16 (fun lb23 ub23 => ?_)
    refine q_ild_n cx dX10_isWaitingAt_19 rfl (lv_at hl 2 rfl) ?_
    refine q_icne (tgt := 27) cx ⟨by omega, by omega⟩ ⟨by omega, by omega⟩ dX10_isWaitingAt_20 (by decide) (fun c24 => ?_) (fun c24 => ?_)
    · exact J27  H locs hB ls (lv_sub hl [] rfl)
    · refine q_iconst cx dX10_isWaitingAt_23 ?_
      refine lv_goto (tgt := 28) cx.1 cx.2.1 dX10_isWaitingAt_24 (by decide) ?_
      exact J28 1 (by decide) (by decide) H locs hB ls (lv_sub hl [] rfl)
set_option maxHeartbeats 4000000 in
set_option maxRecDepth 100000 in
theorem g_X10_isWaitingAt_1 (l : Launch) (g : q_G) {K : Nat → Nat} {L : List Nat} (hN : L.Nodup) {f : Nat → va_E} (hT : q_Ty g K L f) (v : Nat) (hv : v ∈ L) (kv : K v = 13) (p0 : Int) (lp0 : (-2147483648) ≤ p0) (up0 : p0 ≤ 2147483647) (p1 : Int) (lp1 : (-2147483648) ≤ p1) (up1 : p1 ≤ 2147483647) : q_Ct l g K L yX10_isWaitingAt cX10_isWaitingAt 3 (some .boolean) 1 21 [.ref v, .int (q_i p0), .int (q_i p1)] f [] (q_Pi (fun (z : Int) (f1 : Nat → va_E) => f = f1 ∧ 0 ≤ z ∧ z ≤ 1)) := by
  refine q_ofb (by decide +kernel) hN hT (Nat.le_of_ble_eq_true rfl) ?_
  intro p e s m below meth c ls cx hr hlk hB hl
  have hl : lv_has ls 3 [(0, .ref v), (1, .int (q_i p0)), (2, .int (q_i p1))] := hl
  have J28 : ∀ (t28_0 : Int) (lt28_0 : 0 ≤ t28_0) (ut28_0 : t28_0 ≤ 1) (H : Heap) (locs : List Loc) (hB : q_B g K L (fun q => q ∈ L) [] f f s H locs) (ls : Array Slot) (hl : lv_has ls 3 []), W p l e { frames := 1, cells := 0, slots := 0, locals := 21 } s m ([.ref v, .int (q_i p0), .int (q_i p1)] : List Value).toArray below meth c H locs 0 0 (MQ below (q_Q g K L [] f (q_Pi (fun (z : Int) (f1 : Nat → va_E) => f = f1 ∧ 0 ≤ z ∧ z ≤ 1))) ([.ref v, .int (q_i p0), .int (q_i p1)] : List Value).toArray s 0 0 (fun q => q ∈ L)) (F0 m 28 ls [.int (q_i t28_0)]) := by
    intro t28_0 lt28_0 ut28_0 H locs hB ls hl
    refine q_zret cx hr hlk hB dX10_isWaitingAt_28 (by omega) (by omega) ?_
    exact ⟨rfl, (by omega), (by omega)⟩
  have J27 : ∀  (H : Heap) (locs : List Loc) (hB : q_B g K L (fun q => q ∈ L) [] f f s H locs) (ls : Array Slot) (hl : lv_has ls 3 []), W p l e { frames := 1, cells := 0, slots := 0, locals := 21 } s m ([.ref v, .int (q_i p0), .int (q_i p1)] : List Value).toArray below meth c H locs 0 0 (MQ below (q_Q g K L [] f (q_Pi (fun (z : Int) (f1 : Nat → va_E) => f = f1 ∧ 0 ≤ z ∧ z ≤ 1))) ([.ref v, .int (q_i p0), .int (q_i p1)] : List Value).toArray s 0 0 (fun q => q ∈ L)) (F0 m 27 ls []) := by
    intro  H locs hB ls hl
    refine q_iconst cx dX10_isWaitingAt_27 ?_
    exact J28 0 (by decide) (by decide) H locs hB ls (lv_sub hl [] rfl)
  obtain ⟨H, hH⟩ : ∃ H : Heap, H = s.heap := ⟨_, rfl⟩
  obtain ⟨locs, hlocs⟩ : ∃ z : List Loc, z = [] := ⟨_, rfl⟩
  rw [← hH, ← hlocs] at hB
  rw [← hH, ← hlocs]
  refine q_ald_n cx dX10_isWaitingAt_0 rfl (lv_at hl 0 rfl) ?_
  refine q_ild_n cx dX10_isWaitingAt_1 rfl (lv_at hl 1 rfl) ?_
  refine q_cVr (As := [.int (q_i p0)]) (rest := []) cx hB (fun _ h => h) hN hv kv (by decide) rfl (g_X10_messageAt_1 l g hN hB.2.1 v hv kv p0 (by omega) (by omega)) q_cX10_81 q_dX10_messageAt (by decide) rfl rfl hl.1 rfl (Nat.le_of_ble_eq_true rfl) dX10_isWaitingAt_2 (fun y14 H locs f13 h15 hF hB => ?_)
  obtain ⟨rfl, hy14, ky14⟩ := h15
  obtain ⟨x16, ex16⟩ : ∃ zz, q_is (q_z f y14 3) zz := ⟨_, q_isr _⟩
  refine q_gX10_140_25 cx hB hy14 ky14 ex16 dX10_isWaitingAt_5 (fun lb17 ub17 => ?_)
  refine q_ifne (tgt := 27) cx ⟨by omega, by omega⟩ dX10_isWaitingAt_8 (by decide) (fun c18 => ?_) (fun c18 => ?_)
  · exact J27  H locs hB ls (lv_sub hl [] rfl)
  · refine q_ald_n cx dX10_isWaitingAt_11 rfl (lv_at hl 0 rfl) ?_
    refine q_ild_n cx dX10_isWaitingAt_12 rfl (lv_at hl 1 rfl) ?_
    refine q_cVr (As := [.int (q_i p0)]) (rest := []) cx hB (fun _ h => h) hN hv kv (by decide) rfl (g_X10_messageAt_1 l g hN hB.2.1 v hv kv p0 (by omega) (by omega)) q_cX10_81 q_dX10_messageAt (by decide) rfl rfl hl.1 rfl (Nat.le_of_ble_eq_true rfl) dX10_isWaitingAt_13 (fun y20 H locs f19 h21 hF hB => ?_)
    obtain ⟨rfl, hy20, ky20⟩ := h21
    obtain ⟨x22, ex22⟩ : ∃ zz, q_is (q_z f y20 2) zz := ⟨_, q_isr _⟩
    refine q_gX10_137_25 cx hB hy20 ky20 ex22 dX10_isWaitingAt_16 (fun lb23 ub23 => ?_)
    refine q_ild_n cx dX10_isWaitingAt_19 rfl (lv_at hl 2 rfl) ?_
    refine q_icne (tgt := 27) cx ⟨by omega, by omega⟩ ⟨by omega, by omega⟩ dX10_isWaitingAt_20 (by decide) (fun c24 => ?_) (fun c24 => ?_)
    · exact J27  H locs hB ls (lv_sub hl [] rfl)
    · refine q_iconst cx dX10_isWaitingAt_23 ?_
      refine lv_goto (tgt := 28) cx.1 cx.2.1 dX10_isWaitingAt_24 (by decide) ?_
      exact J28 1 (by decide) (by decide) H locs hB ls (lv_sub hl [] rfl)
set_option maxHeartbeats 4000000 in
set_option maxRecDepth 100000 in
theorem g_X10_isWaitingAt_2 (l : Launch) (g : q_G) {K : Nat → Nat} {L : List Nat} (hN : L.Nodup) {f : Nat → va_E} (hT : q_Ty g K L f) (v : Nat) (hv : v ∈ L) (kv : K v = 14) (p0 : Int) (lp0 : (-2147483648) ≤ p0) (up0 : p0 ≤ 2147483647) (p1 : Int) (lp1 : (-2147483648) ≤ p1) (up1 : p1 ≤ 2147483647) : q_Ct l g K L yX10_isWaitingAt cX10_isWaitingAt 3 (some .boolean) 1 21 [.ref v, .int (q_i p0), .int (q_i p1)] f [] (q_Pi (fun (z : Int) (f1 : Nat → va_E) => f = f1 ∧ 0 ≤ z ∧ z ≤ 1)) := by
  refine q_ofb (by decide +kernel) hN hT (Nat.le_of_ble_eq_true rfl) ?_
  intro p e s m below meth c ls cx hr hlk hB hl
  have hl : lv_has ls 3 [(0, .ref v), (1, .int (q_i p0)), (2, .int (q_i p1))] := hl
  have J28 : ∀ (t28_0 : Int) (lt28_0 : 0 ≤ t28_0) (ut28_0 : t28_0 ≤ 1) (H : Heap) (locs : List Loc) (hB : q_B g K L (fun q => q ∈ L) [] f f s H locs) (ls : Array Slot) (hl : lv_has ls 3 []), W p l e { frames := 1, cells := 0, slots := 0, locals := 21 } s m ([.ref v, .int (q_i p0), .int (q_i p1)] : List Value).toArray below meth c H locs 0 0 (MQ below (q_Q g K L [] f (q_Pi (fun (z : Int) (f1 : Nat → va_E) => f = f1 ∧ 0 ≤ z ∧ z ≤ 1))) ([.ref v, .int (q_i p0), .int (q_i p1)] : List Value).toArray s 0 0 (fun q => q ∈ L)) (F0 m 28 ls [.int (q_i t28_0)]) := by
    intro t28_0 lt28_0 ut28_0 H locs hB ls hl
    refine q_zret cx hr hlk hB dX10_isWaitingAt_28 (by omega) (by omega) ?_
    exact ⟨rfl, (by omega), (by omega)⟩
  have J27 : ∀  (H : Heap) (locs : List Loc) (hB : q_B g K L (fun q => q ∈ L) [] f f s H locs) (ls : Array Slot) (hl : lv_has ls 3 []), W p l e { frames := 1, cells := 0, slots := 0, locals := 21 } s m ([.ref v, .int (q_i p0), .int (q_i p1)] : List Value).toArray below meth c H locs 0 0 (MQ below (q_Q g K L [] f (q_Pi (fun (z : Int) (f1 : Nat → va_E) => f = f1 ∧ 0 ≤ z ∧ z ≤ 1))) ([.ref v, .int (q_i p0), .int (q_i p1)] : List Value).toArray s 0 0 (fun q => q ∈ L)) (F0 m 27 ls []) := by
    intro  H locs hB ls hl
    refine q_iconst cx dX10_isWaitingAt_27 ?_
    exact J28 0 (by decide) (by decide) H locs hB ls (lv_sub hl [] rfl)
  obtain ⟨H, hH⟩ : ∃ H : Heap, H = s.heap := ⟨_, rfl⟩
  obtain ⟨locs, hlocs⟩ : ∃ z : List Loc, z = [] := ⟨_, rfl⟩
  rw [← hH, ← hlocs] at hB
  rw [← hH, ← hlocs]
  refine q_ald_n cx dX10_isWaitingAt_0 rfl (lv_at hl 0 rfl) ?_
  refine q_ild_n cx dX10_isWaitingAt_1 rfl (lv_at hl 1 rfl) ?_
  refine q_cVr (As := [.int (q_i p0)]) (rest := []) cx hB (fun _ h => h) hN hv kv (by decide) rfl (g_X10_messageAt_2 l g hN hB.2.1 v hv kv p0 (by omega) (by omega)) q_cX10_81 q_dX10_messageAt (by decide) rfl rfl hl.1 rfl (Nat.le_of_ble_eq_true rfl) dX10_isWaitingAt_2 (fun y14 H locs f13 h15 hF hB => ?_)
  obtain ⟨rfl, hy14, ky14⟩ := h15
  obtain ⟨x16, ex16⟩ : ∃ zz, q_is (q_z f y14 3) zz := ⟨_, q_isr _⟩
  refine q_gX10_140_26 cx hB hy14 ky14 ex16 dX10_isWaitingAt_5 (fun lb17 ub17 => ?_)
  refine q_ifne (tgt := 27) cx ⟨by omega, by omega⟩ dX10_isWaitingAt_8 (by decide) (fun c18 => ?_) (fun c18 => ?_)
  · exact J27  H locs hB ls (lv_sub hl [] rfl)
  · refine q_ald_n cx dX10_isWaitingAt_11 rfl (lv_at hl 0 rfl) ?_
    refine q_ild_n cx dX10_isWaitingAt_12 rfl (lv_at hl 1 rfl) ?_
    refine q_cVr (As := [.int (q_i p0)]) (rest := []) cx hB (fun _ h => h) hN hv kv (by decide) rfl (g_X10_messageAt_2 l g hN hB.2.1 v hv kv p0 (by omega) (by omega)) q_cX10_81 q_dX10_messageAt (by decide) rfl rfl hl.1 rfl (Nat.le_of_ble_eq_true rfl) dX10_isWaitingAt_13 (fun y20 H locs f19 h21 hF hB => ?_)
    obtain ⟨rfl, hy20, ky20⟩ := h21
    obtain ⟨x22, ex22⟩ : ∃ zz, q_is (q_z f y20 2) zz := ⟨_, q_isr _⟩
    refine q_gX10_137_26 cx hB hy20 ky20 ex22 dX10_isWaitingAt_16 (fun lb23 ub23 => ?_)
    refine q_ild_n cx dX10_isWaitingAt_19 rfl (lv_at hl 2 rfl) ?_
    refine q_icne (tgt := 27) cx ⟨by omega, by omega⟩ ⟨by omega, by omega⟩ dX10_isWaitingAt_20 (by decide) (fun c24 => ?_) (fun c24 => ?_)
    · exact J27  H locs hB ls (lv_sub hl [] rfl)
    · refine q_iconst cx dX10_isWaitingAt_23 ?_
      refine lv_goto (tgt := 28) cx.1 cx.2.1 dX10_isWaitingAt_24 (by decide) ?_
      exact J28 1 (by decide) (by decide) H locs hB ls (lv_sub hl [] rfl)
set_option maxHeartbeats 4000000 in
set_option maxRecDepth 100000 in
theorem g_X10_isWaitingAt_3 (l : Launch) (g : q_G) {K : Nat → Nat} {L : List Nat} (hN : L.Nodup) {f : Nat → va_E} (hT : q_Ty g K L f) (v : Nat) (hv : v ∈ L) (kv : K v = 15) (p0 : Int) (lp0 : (-2147483648) ≤ p0) (up0 : p0 ≤ 2147483647) (p1 : Int) (lp1 : (-2147483648) ≤ p1) (up1 : p1 ≤ 2147483647) : q_Ct l g K L yX10_isWaitingAt cX10_isWaitingAt 3 (some .boolean) 1 21 [.ref v, .int (q_i p0), .int (q_i p1)] f [] (q_Pi (fun (z : Int) (f1 : Nat → va_E) => f = f1 ∧ 0 ≤ z ∧ z ≤ 1)) := by
  refine q_ofb (by decide +kernel) hN hT (Nat.le_of_ble_eq_true rfl) ?_
  intro p e s m below meth c ls cx hr hlk hB hl
  have hl : lv_has ls 3 [(0, .ref v), (1, .int (q_i p0)), (2, .int (q_i p1))] := hl
  have J28 : ∀ (t28_0 : Int) (lt28_0 : 0 ≤ t28_0) (ut28_0 : t28_0 ≤ 1) (H : Heap) (locs : List Loc) (hB : q_B g K L (fun q => q ∈ L) [] f f s H locs) (ls : Array Slot) (hl : lv_has ls 3 []), W p l e { frames := 1, cells := 0, slots := 0, locals := 21 } s m ([.ref v, .int (q_i p0), .int (q_i p1)] : List Value).toArray below meth c H locs 0 0 (MQ below (q_Q g K L [] f (q_Pi (fun (z : Int) (f1 : Nat → va_E) => f = f1 ∧ 0 ≤ z ∧ z ≤ 1))) ([.ref v, .int (q_i p0), .int (q_i p1)] : List Value).toArray s 0 0 (fun q => q ∈ L)) (F0 m 28 ls [.int (q_i t28_0)]) := by
    intro t28_0 lt28_0 ut28_0 H locs hB ls hl
    refine q_zret cx hr hlk hB dX10_isWaitingAt_28 (by omega) (by omega) ?_
    exact ⟨rfl, (by omega), (by omega)⟩
  have J27 : ∀  (H : Heap) (locs : List Loc) (hB : q_B g K L (fun q => q ∈ L) [] f f s H locs) (ls : Array Slot) (hl : lv_has ls 3 []), W p l e { frames := 1, cells := 0, slots := 0, locals := 21 } s m ([.ref v, .int (q_i p0), .int (q_i p1)] : List Value).toArray below meth c H locs 0 0 (MQ below (q_Q g K L [] f (q_Pi (fun (z : Int) (f1 : Nat → va_E) => f = f1 ∧ 0 ≤ z ∧ z ≤ 1))) ([.ref v, .int (q_i p0), .int (q_i p1)] : List Value).toArray s 0 0 (fun q => q ∈ L)) (F0 m 27 ls []) := by
    intro  H locs hB ls hl
    refine q_iconst cx dX10_isWaitingAt_27 ?_
    exact J28 0 (by decide) (by decide) H locs hB ls (lv_sub hl [] rfl)
  obtain ⟨H, hH⟩ : ∃ H : Heap, H = s.heap := ⟨_, rfl⟩
  obtain ⟨locs, hlocs⟩ : ∃ z : List Loc, z = [] := ⟨_, rfl⟩
  rw [← hH, ← hlocs] at hB
  rw [← hH, ← hlocs]
  refine q_ald_n cx dX10_isWaitingAt_0 rfl (lv_at hl 0 rfl) ?_
  refine q_ild_n cx dX10_isWaitingAt_1 rfl (lv_at hl 1 rfl) ?_
  refine q_cVr (As := [.int (q_i p0)]) (rest := []) cx hB (fun _ h => h) hN hv kv (by decide) rfl (g_X10_messageAt_3 l g hN hB.2.1 v hv kv p0 (by omega) (by omega)) q_cX10_81 q_dX10_messageAt (by decide) rfl rfl hl.1 rfl (Nat.le_of_ble_eq_true rfl) dX10_isWaitingAt_2 (fun y14 H locs f13 h15 hF hB => ?_)
  obtain ⟨rfl, hy14, ky14⟩ := h15
  obtain ⟨x16, ex16⟩ : ∃ zz, q_is (q_z f y14 3) zz := ⟨_, q_isr _⟩
  refine q_gX10_140_27 cx hB hy14 ky14 ex16 dX10_isWaitingAt_5 (fun lb17 ub17 => ?_)
  refine q_ifne (tgt := 27) cx ⟨by omega, by omega⟩ dX10_isWaitingAt_8 (by decide) (fun c18 => ?_) (fun c18 => ?_)
  · exact J27  H locs hB ls (lv_sub hl [] rfl)
  · refine q_ald_n cx dX10_isWaitingAt_11 rfl (lv_at hl 0 rfl) ?_
    refine q_ild_n cx dX10_isWaitingAt_12 rfl (lv_at hl 1 rfl) ?_
    refine q_cVr (As := [.int (q_i p0)]) (rest := []) cx hB (fun _ h => h) hN hv kv (by decide) rfl (g_X10_messageAt_3 l g hN hB.2.1 v hv kv p0 (by omega) (by omega)) q_cX10_81 q_dX10_messageAt (by decide) rfl rfl hl.1 rfl (Nat.le_of_ble_eq_true rfl) dX10_isWaitingAt_13 (fun y20 H locs f19 h21 hF hB => ?_)
    obtain ⟨rfl, hy20, ky20⟩ := h21
    obtain ⟨x22, ex22⟩ : ∃ zz, q_is (q_z f y20 2) zz := ⟨_, q_isr _⟩
    refine q_gX10_137_27 cx hB hy20 ky20 ex22 dX10_isWaitingAt_16 (fun lb23 ub23 => ?_)
    refine q_ild_n cx dX10_isWaitingAt_19 rfl (lv_at hl 2 rfl) ?_
    refine q_icne (tgt := 27) cx ⟨by omega, by omega⟩ ⟨by omega, by omega⟩ dX10_isWaitingAt_20 (by decide) (fun c24 => ?_) (fun c24 => ?_)
    · exact J27  H locs hB ls (lv_sub hl [] rfl)
    · refine q_iconst cx dX10_isWaitingAt_23 ?_
      refine lv_goto (tgt := 28) cx.1 cx.2.1 dX10_isWaitingAt_24 (by decide) ?_
      exact J28 1 (by decide) (by decide) H locs hB ls (lv_sub hl [] rfl)
set_option maxHeartbeats 4000000 in
set_option maxRecDepth 100000 in
theorem g_X10_isWaitingAt_4 (l : Launch) (g : q_G) {K : Nat → Nat} {L : List Nat} (hN : L.Nodup) {f : Nat → va_E} (hT : q_Ty g K L f) (v : Nat) (hv : v ∈ L) (kv : K v = 16) (p0 : Int) (lp0 : (-2147483648) ≤ p0) (up0 : p0 ≤ 2147483647) (p1 : Int) (lp1 : (-2147483648) ≤ p1) (up1 : p1 ≤ 2147483647) : q_Ct l g K L yX10_isWaitingAt cX10_isWaitingAt 3 (some .boolean) 1 21 [.ref v, .int (q_i p0), .int (q_i p1)] f [] (q_Pi (fun (z : Int) (f1 : Nat → va_E) => f = f1 ∧ 0 ≤ z ∧ z ≤ 1)) := by
  refine q_ofb (by decide +kernel) hN hT (Nat.le_of_ble_eq_true rfl) ?_
  intro p e s m below meth c ls cx hr hlk hB hl
  have hl : lv_has ls 3 [(0, .ref v), (1, .int (q_i p0)), (2, .int (q_i p1))] := hl
  have J28 : ∀ (t28_0 : Int) (lt28_0 : 0 ≤ t28_0) (ut28_0 : t28_0 ≤ 1) (H : Heap) (locs : List Loc) (hB : q_B g K L (fun q => q ∈ L) [] f f s H locs) (ls : Array Slot) (hl : lv_has ls 3 []), W p l e { frames := 1, cells := 0, slots := 0, locals := 21 } s m ([.ref v, .int (q_i p0), .int (q_i p1)] : List Value).toArray below meth c H locs 0 0 (MQ below (q_Q g K L [] f (q_Pi (fun (z : Int) (f1 : Nat → va_E) => f = f1 ∧ 0 ≤ z ∧ z ≤ 1))) ([.ref v, .int (q_i p0), .int (q_i p1)] : List Value).toArray s 0 0 (fun q => q ∈ L)) (F0 m 28 ls [.int (q_i t28_0)]) := by
    intro t28_0 lt28_0 ut28_0 H locs hB ls hl
    refine q_zret cx hr hlk hB dX10_isWaitingAt_28 (by omega) (by omega) ?_
    exact ⟨rfl, (by omega), (by omega)⟩
  have J27 : ∀  (H : Heap) (locs : List Loc) (hB : q_B g K L (fun q => q ∈ L) [] f f s H locs) (ls : Array Slot) (hl : lv_has ls 3 []), W p l e { frames := 1, cells := 0, slots := 0, locals := 21 } s m ([.ref v, .int (q_i p0), .int (q_i p1)] : List Value).toArray below meth c H locs 0 0 (MQ below (q_Q g K L [] f (q_Pi (fun (z : Int) (f1 : Nat → va_E) => f = f1 ∧ 0 ≤ z ∧ z ≤ 1))) ([.ref v, .int (q_i p0), .int (q_i p1)] : List Value).toArray s 0 0 (fun q => q ∈ L)) (F0 m 27 ls []) := by
    intro  H locs hB ls hl
    refine q_iconst cx dX10_isWaitingAt_27 ?_
    exact J28 0 (by decide) (by decide) H locs hB ls (lv_sub hl [] rfl)
  obtain ⟨H, hH⟩ : ∃ H : Heap, H = s.heap := ⟨_, rfl⟩
  obtain ⟨locs, hlocs⟩ : ∃ z : List Loc, z = [] := ⟨_, rfl⟩
  rw [← hH, ← hlocs] at hB
  rw [← hH, ← hlocs]
  refine q_ald_n cx dX10_isWaitingAt_0 rfl (lv_at hl 0 rfl) ?_
  refine q_ild_n cx dX10_isWaitingAt_1 rfl (lv_at hl 1 rfl) ?_
  refine q_cVr (As := [.int (q_i p0)]) (rest := []) cx hB (fun _ h => h) hN hv kv (by decide) rfl (g_X10_messageAt_4 l g hN hB.2.1 v hv kv p0 (by omega) (by omega)) q_cX10_81 q_dX10_messageAt (by decide) rfl rfl hl.1 rfl (Nat.le_of_ble_eq_true rfl) dX10_isWaitingAt_2 (fun y14 H locs f13 h15 hF hB => ?_)
  obtain ⟨rfl, hy14, ky14⟩ := h15
  obtain ⟨x16, ex16⟩ : ∃ zz, q_is (q_z f y14 3) zz := ⟨_, q_isr _⟩
  refine q_gX10_140_28 cx hB hy14 ky14 ex16 dX10_isWaitingAt_5 (fun lb17 ub17 => ?_)
  refine q_ifne (tgt := 27) cx ⟨by omega, by omega⟩ dX10_isWaitingAt_8 (by decide) (fun c18 => ?_) (fun c18 => ?_)
  · exact J27  H locs hB ls (lv_sub hl [] rfl)
  · refine q_ald_n cx dX10_isWaitingAt_11 rfl (lv_at hl 0 rfl) ?_
    refine q_ild_n cx dX10_isWaitingAt_12 rfl (lv_at hl 1 rfl) ?_
    refine q_cVr (As := [.int (q_i p0)]) (rest := []) cx hB (fun _ h => h) hN hv kv (by decide) rfl (g_X10_messageAt_4 l g hN hB.2.1 v hv kv p0 (by omega) (by omega)) q_cX10_81 q_dX10_messageAt (by decide) rfl rfl hl.1 rfl (Nat.le_of_ble_eq_true rfl) dX10_isWaitingAt_13 (fun y20 H locs f19 h21 hF hB => ?_)
    obtain ⟨rfl, hy20, ky20⟩ := h21
    obtain ⟨x22, ex22⟩ : ∃ zz, q_is (q_z f y20 2) zz := ⟨_, q_isr _⟩
    refine q_gX10_137_28 cx hB hy20 ky20 ex22 dX10_isWaitingAt_16 (fun lb23 ub23 => ?_)
    refine q_ild_n cx dX10_isWaitingAt_19 rfl (lv_at hl 2 rfl) ?_
    refine q_icne (tgt := 27) cx ⟨by omega, by omega⟩ ⟨by omega, by omega⟩ dX10_isWaitingAt_20 (by decide) (fun c24 => ?_) (fun c24 => ?_)
    · exact J27  H locs hB ls (lv_sub hl [] rfl)
    · refine q_iconst cx dX10_isWaitingAt_23 ?_
      refine lv_goto (tgt := 28) cx.1 cx.2.1 dX10_isWaitingAt_24 (by decide) ?_
      exact J28 1 (by decide) (by decide) H locs hB ls (lv_sub hl [] rfl)
set_option maxHeartbeats 4000000 in
set_option maxRecDepth 100000 in
theorem g_X6_writeNode (l : Launch) (g : q_G) {K : Nat → Nat} {L : List Nat} (hN : L.Nodup) {f : Nat → va_E} (hT : q_Ty g K L f) (v : Nat) (hv : v ∈ L) (kv : K v = 6) (p0 : Nat) (hp0 : p0 ∈ L) (kp0 : K p0 = 10) (p1 : Int) (lp1 : (-2147483648) ≤ p1) (up1 : p1 ≤ 2147483647) : q_Ct l g K L yX6_writeNode cX6_writeNode 4 none 3 67 [.ref v, .ref p0, .int (q_i p1)] f [(6, 1, 1), (143, 0, 599)] (q_Pv (fun (f1 : Nat → va_E) => True)) := by
  refine q_ofb (by decide +kernel) hN hT (Nat.le_of_ble_eq_true rfl) ?_
  intro p e s m below meth c ls cx hr hlk hB hl
  have hl : lv_has ls 4 [(0, .ref v), (1, .ref p0), (2, .int (q_i p1))] := hl
  have J61 : ∀ (n : Nat) (f61 : Nat → va_E) (v61_3 : Int) (lv61_3 : 0 ≤ v61_3) (uv61_3 : v61_3 ≤ 61) (hmu : (Int.toNat (2147483647 - v61_3)) < n) (H : Heap) (locs : List Loc) (hB : q_B g K L (fun q => q ∈ L) [(6, 1, 1), (143, 0, 599)] f f61 s H locs) (ls : Array Slot) (hl : lv_has ls 4 [(0, .ref v), (1, .ref p0), (2, .int (q_i p1)), (3, .int (q_i v61_3))]), W p l e { frames := 3, cells := 0, slots := 0, locals := 67 } s m ([.ref v, .ref p0, .int (q_i p1)] : List Value).toArray below meth c H locs 0 0 (MQ below (q_Q g K L [(6, 1, 1), (143, 0, 599)] f (q_Pv (fun (f1 : Nat → va_E) => True))) ([.ref v, .ref p0, .int (q_i p1)] : List Value).toArray s 0 0 (fun q => q ∈ L)) (F0 m 61 ls []) := by
    intro n
    induction n with
    | zero =>
      intro f61 v61_3 lv61_3 uv61_3 hmu
      exact absurd hmu (Nat.not_lt_zero _)
    | succ n ih61 =>
      intro f61 v61_3 lv61_3 uv61_3 hmu H locs hB ls hl
      have J106 : ∀ (f106 : Nat → va_E) (buv61_3 : v61_3 ≤ 60) (H : Heap) (locs : List Loc) (hB : q_B g K L (fun q => q ∈ L) [(6, 1, 1), (143, 0, 599)] f f106 s H locs) (ls : Array Slot) (hl : lv_has ls 4 [(0, .ref v), (1, .ref p0), (2, .int (q_i p1)), (3, .int (q_i v61_3))]), W p l e { frames := 3, cells := 0, slots := 0, locals := 67 } s m ([.ref v, .ref p0, .int (q_i p1)] : List Value).toArray below meth c H locs 0 0 (MQ below (q_Q g K L [(6, 1, 1), (143, 0, 599)] f (q_Pv (fun (f1 : Nat → va_E) => True))) ([.ref v, .ref p0, .int (q_i p1)] : List Value).toArray s 0 0 (fun q => q ∈ L)) (F0 m 106 ls []) := by
        intro f106 buv61_3 H locs hB ls hl
        refine q_iinc (lv' := [(3, .int (q_i (v61_3 + 1))), (0, .ref v), (1, .ref p0), (2, .int (q_i p1))]) cx dX6_writeNode_106 hl (k := 3) rfl (by decide) rfl (fun ls hl => ?_)
        refine lv_goto (tgt := 61) cx.1 cx.2.1 dX6_writeNode_109 (by decide) ?_
        exact ih61 f106 (v61_3 + 1) (by omega) (by omega) (by omega) H locs hB ls (lv_sub hl [1, 2, 3, 0] rfl)
      refine q_ild_n cx dX6_writeNode_61 rfl (lv_at hl 3 rfl) ?_
      refine q_ald_n cx dX6_writeNode_62 rfl (lv_at hl 1 rfl) ?_
      obtain ⟨x560, ex560⟩ : ∃ zz, q_is (q_z f61 p0 5) zz := ⟨_, q_isr _⟩
      refine q_gX6_58 cx hB hp0 kp0 ex560 dX6_writeNode_63 (fun lb561 ub561 => ?_)
      refine q_icge (tgt := 112) cx ⟨by omega, by omega⟩ ⟨by omega, by omega⟩ dX6_writeNode_66 (by decide) (fun c562 => ?_) (fun c562 => ?_)
      · refine q_ald_n cx dX6_writeNode_112 rfl (lv_at hl 0 rfl) ?_
        refine q_bipush cx dX6_writeNode_113 rfl ?_
        refine q_cVv (As := [.int (q_i 10)]) (rest := []) cx hB (fun _ h => h) hN hv kv (by decide) rfl (g_X6_put l g hN hB.2.1 v hv kv 10 (by decide) (by decide)) q_cX6_40 q_dX6_put (by decide) rfl rfl hl.1 rfl (Nat.le_of_ble_eq_true rfl) dX6_writeNode_115 (fun H locs f563 h565 hF hB => ?_)
        refine q_vret cx hr hlk hB dX6_writeNode_118 ?_
        trivial
      · refine q_ald_n cx dX6_writeNode_69 rfl (lv_at hl 1 rfl) ?_
        refine q_ild_n cx dX6_writeNode_70 rfl (lv_at hl 3 rfl) ?_
        refine q_ild_n cx dX6_writeNode_71 rfl (lv_at hl 2 rfl) ?_
        refine q_cVi (As := [.int (q_i v61_3), .int (q_i p1)]) (rest := []) cx hB (fun _ h => h) hN hp0 kp0 (by decide) rfl (g_X10_isWaitingAt l g hN hB.2.1 p0 hp0 kp0 v61_3 (by omega) (by omega) p1 (by omega) (by omega)) q_cX6_61 q_dX10_isWaitingAt (by decide) rfl rfl hl.1 rfl (Nat.le_of_ble_eq_true rfl) dX6_writeNode_72 (fun y567 H locs f566 ry567 h568 hF hB => ?_)
        obtain ⟨rfl, ly567, uy567⟩ := h568
        refine q_ifeq (tgt := 106) cx ⟨by omega, by omega⟩ dX6_writeNode_75 (by decide) (fun c569 => ?_) (fun c569 => ?_)
        · exact J106 f61 (by omega) H locs hB ls (lv_sub hl [0, 1, 2, 3] rfl)
        · refine q_ald_n cx dX6_writeNode_78 rfl (lv_at hl 0 rfl) ?_
          refine q_bipush cx dX6_writeNode_79 rfl ?_
          refine q_cVv (As := [.int (q_i 32)]) (rest := []) cx hB (fun _ h => h) hN hv kv (by decide) rfl (g_X6_put l g hN hB.2.1 v hv kv 32 (by decide) (by decide)) q_cX6_40 q_dX6_put (by decide) rfl rfl hl.1 rfl (Nat.le_of_ble_eq_true rfl) dX6_writeNode_81 (fun H locs f570 h572 hF hB => ?_)
          refine q_ald_n cx dX6_writeNode_84 rfl (lv_at hl 0 rfl) ?_
          refine q_ild_n cx dX6_writeNode_85 rfl (lv_at hl 3 rfl) ?_
          refine q_cVv (As := [.int (q_i v61_3)]) (rest := []) cx hB (fun _ h => h) hN hv kv (by decide) rfl (g_X6_putNumber l g hN hB.2.1 v hv kv v61_3 (by omega) (by omega)) q_cX6_48 q_dX6_putNumber (by decide) rfl rfl hl.1 rfl (Nat.le_of_ble_eq_true rfl) dX6_writeNode_86 (fun H locs f573 h575 hF hB => ?_)
          refine q_ald_n cx dX6_writeNode_89 rfl (lv_at hl 1 rfl) ?_
          refine q_ild_n cx dX6_writeNode_90 rfl (lv_at hl 3 rfl) ?_
          refine q_cVr (As := [.int (q_i v61_3)]) (rest := []) cx hB (fun _ h => h) hN hp0 kp0 (by decide) rfl (g_X10_messageAt l g hN hB.2.1 p0 hp0 kp0 v61_3 (by omega) (by omega)) q_cX6_65 q_dX10_messageAt (by decide) rfl rfl hl.1 rfl (Nat.le_of_ble_eq_true rfl) dX6_writeNode_91 (fun y577 H locs f576 h578 hF hB => ?_)
          obtain ⟨rfl, hy577, ky577⟩ := h578
          obtain ⟨x579, ex579⟩ : ∃ zz, q_is (q_z f573 y577 7) zz := ⟨_, q_isr _⟩
          refine q_gX6_69 cx hB hy577 ky577 ex579 dX6_writeNode_94 (fun lb580 ub580 => ?_)
          refine q_ifeq (tgt := 106) cx ⟨by omega, by omega⟩ dX6_writeNode_97 (by decide) (fun c581 => ?_) (fun c581 => ?_)
          · exact J106 f573 (by omega) H locs hB ls (lv_sub hl [0, 1, 2, 3] rfl)
          · refine q_ald_n cx dX6_writeNode_100 rfl (lv_at hl 0 rfl) ?_
            refine q_bipush cx dX6_writeNode_101 rfl ?_
            refine q_cVv (As := [.int (q_i 33)]) (rest := []) cx hB (fun _ h => h) hN hv kv (by decide) rfl (g_X6_put l g hN hB.2.1 v hv kv 33 (by decide) (by decide)) q_cX6_40 q_dX6_put (by decide) rfl rfl hl.1 rfl (Nat.le_of_ble_eq_true rfl) dX6_writeNode_103 (fun H locs f582 h584 hF hB => ?_)
            exact J106 f582 (by omega) H locs hB ls (lv_sub hl [0, 1, 2, 3] rfl)
  have J59 : ∀ (f59 : Nat → va_E) (H : Heap) (locs : List Loc) (hB : q_B g K L (fun q => q ∈ L) [(6, 1, 1), (143, 0, 599)] f f59 s H locs) (ls : Array Slot) (hl : lv_has ls 4 [(0, .ref v), (1, .ref p0), (2, .int (q_i p1))]), W p l e { frames := 3, cells := 0, slots := 0, locals := 67 } s m ([.ref v, .ref p0, .int (q_i p1)] : List Value).toArray below meth c H locs 0 0 (MQ below (q_Q g K L [(6, 1, 1), (143, 0, 599)] f (q_Pv (fun (f1 : Nat → va_E) => True))) ([.ref v, .ref p0, .int (q_i p1)] : List Value).toArray s 0 0 (fun q => q ∈ L)) (F0 m 59 ls []) := by
    intro f59 H locs hB ls hl
    refine q_iconst cx dX6_writeNode_59 ?_
    refine lv_istore_n (lv' := [(3, .int (q_i 0)), (0, .ref v), (1, .ref p0), (2, .int (q_i p1))]) cx.1 cx.2.1 dX6_writeNode_60 rfl hl (by decide) rfl (fun ls hl => ?_)
    exact J61 ((Int.toNat (2147483647 - 0)) + 1) f59 0 (by decide) (by decide) (Nat.lt_succ_self _) H locs hB ls (lv_sub hl [1, 2, 3, 0] rfl)
  obtain ⟨H, hH⟩ : ∃ H : Heap, H = s.heap := ⟨_, rfl⟩
  obtain ⟨locs, hlocs⟩ : ∃ z : List Loc, z = [] := ⟨_, rfl⟩
  rw [← hH, ← hlocs] at hB
  rw [← hH, ← hlocs]
  refine q_ald_n cx dX6_writeNode_0 rfl (lv_at hl 0 rfl) ?_
  refine q_ald_n cx dX6_writeNode_1 rfl (lv_at hl 1 rfl) ?_
  refine q_ild_n cx dX6_writeNode_2 rfl (lv_at hl 2 rfl) ?_
  refine q_cVr (As := [.int (q_i p1)]) (rest := [.ref v]) cx hB (fun _ h => h) hN hp0 kp0 (by decide) rfl (g_X10_nodeAt l g hN hB.2.1 p0 hp0 kp0 p1 (by omega) (by omega)) q_cX6_26 q_dX10_nodeAt (by decide) rfl rfl hl.1 rfl (Nat.le_of_ble_eq_true rfl) dX6_writeNode_3 (fun y586 H locs f585 h587 hF hB => ?_)
  obtain ⟨rfl, hy586, ky586⟩ := h587
  obtain ⟨j588, ej588⟩ : ∃ zz, q_j f y586 0 = zz := ⟨_, rfl⟩
  refine q_gX6_30 cx hB hy586 ky586 ej588 dX6_writeNode_6 ?_
  refine q_cVv (As := [.long j588]) (rest := []) cx hB (fun _ h => h) hN hv kv (by decide) rfl (g_X6_writeName l g hN hB.2.1 v hv kv j588) q_cX6_36 q_dX6_writeName (by decide) rfl rfl hl.1 rfl (Nat.le_of_ble_eq_true rfl) dX6_writeNode_9 (fun H locs f589 h591 hF hB => ?_)
  refine q_ald_n cx dX6_writeNode_12 rfl (lv_at hl 0 rfl) ?_
  refine q_bipush cx dX6_writeNode_13 rfl ?_
  refine q_cVv (As := [.int (q_i 32)]) (rest := []) cx hB (fun _ h => h) hN hv kv (by decide) rfl (g_X6_put l g hN hB.2.1 v hv kv 32 (by decide) (by decide)) q_cX6_40 q_dX6_put (by decide) rfl rfl hl.1 rfl (Nat.le_of_ble_eq_true rfl) dX6_writeNode_15 (fun H locs f592 h594 hF hB => ?_)
  refine q_ald_n cx dX6_writeNode_18 rfl (lv_at hl 0 rfl) ?_
  refine q_ald_n cx dX6_writeNode_19 rfl (lv_at hl 1 rfl) ?_
  refine q_ild_n cx dX6_writeNode_20 rfl (lv_at hl 2 rfl) ?_
  refine q_cVi (As := [.int (q_i p1)]) (rest := [.ref v]) cx hB (fun _ h => h) hN hp0 kp0 (by decide) rfl (g_X10_dayOf l g hN hB.2.1 p0 hp0 kp0 p1 (by omega) (by omega)) q_cX6_44 q_dX10_dayOf (by decide) rfl rfl hl.1 rfl (Nat.le_of_ble_eq_true rfl) dX6_writeNode_21 (fun y596 H locs f595 ry596 h597 hF hB => ?_)
  obtain ⟨rfl, ly596, uy596⟩ := h597
  refine q_cVv (As := [.int (q_i y596)]) (rest := []) cx hB (fun _ h => h) hN hv kv (by decide) rfl (g_X6_putNumber l g hN hB.2.1 v hv kv y596 (by omega) (by omega)) q_cX6_48 q_dX6_putNumber (by decide) rfl rfl hl.1 rfl (Nat.le_of_ble_eq_true rfl) dX6_writeNode_24 (fun H locs f598 h600 hF hB => ?_)
  refine q_ald_n cx dX6_writeNode_27 rfl (lv_at hl 0 rfl) ?_
  refine q_bipush cx dX6_writeNode_28 rfl ?_
  refine q_cVv (As := [.int (q_i 47)]) (rest := []) cx hB (fun _ h => h) hN hv kv (by decide) rfl (g_X6_put l g hN hB.2.1 v hv kv 47 (by decide) (by decide)) q_cX6_40 q_dX6_put (by decide) rfl rfl hl.1 rfl (Nat.le_of_ble_eq_true rfl) dX6_writeNode_30 (fun H locs f601 h603 hF hB => ?_)
  refine q_ald_n cx dX6_writeNode_33 rfl (lv_at hl 0 rfl) ?_
  refine q_ald_n cx dX6_writeNode_34 rfl (lv_at hl 1 rfl) ?_
  refine q_ild_n cx dX6_writeNode_35 rfl (lv_at hl 2 rfl) ?_
  refine q_cVr (As := [.int (q_i p1)]) (rest := [.ref v]) cx hB (fun _ h => h) hN hp0 kp0 (by decide) rfl (g_X10_nodeAt l g hN hB.2.1 p0 hp0 kp0 p1 (by omega) (by omega)) q_cX6_26 q_dX10_nodeAt (by decide) rfl rfl hl.1 rfl (Nat.le_of_ble_eq_true rfl) dX6_writeNode_36 (fun y605 H locs f604 h606 hF hB => ?_)
  obtain ⟨rfl, hy605, ky605⟩ := h606
  obtain ⟨x607, ex607⟩ : ∃ zz, q_is (q_z f601 y605 4) zz := ⟨_, q_isr _⟩
  refine q_gX6_51 cx hB hy605 ky605 ex607 dX6_writeNode_39 (fun lb608 ub608 => ?_)
  refine q_cVv (As := [.int (q_i x607)]) (rest := []) cx hB (fun _ h => h) hN hv kv (by decide) rfl (g_X6_putNumber l g hN hB.2.1 v hv kv x607 (by omega) (by omega)) q_cX6_48 q_dX6_putNumber (by decide) rfl rfl hl.1 rfl (Nat.le_of_ble_eq_true rfl) dX6_writeNode_42 (fun H locs f609 h611 hF hB => ?_)
  refine q_ald_n cx dX6_writeNode_45 rfl (lv_at hl 1 rfl) ?_
  refine q_ild_n cx dX6_writeNode_46 rfl (lv_at hl 2 rfl) ?_
  refine q_cVi (As := [.int (q_i p1)]) (rest := []) cx hB (fun _ h => h) hN hp0 kp0 (by decide) rfl (g_X10_isAwake l g hN hB.2.1 p0 hp0 kp0 p1 (by omega) (by omega)) q_cX6_54 q_dX10_isAwake (by decide) rfl rfl hl.1 rfl (Nat.le_of_ble_eq_true rfl) dX6_writeNode_47 (fun y613 H locs f612 ry613 h614 hF hB => ?_)
  obtain ⟨rfl, ly613, uy613⟩ := h614
  refine q_ifeq (tgt := 59) cx ⟨by omega, by omega⟩ dX6_writeNode_50 (by decide) (fun c615 => ?_) (fun c615 => ?_)
  · exact J59 f609 H locs hB ls (lv_sub hl [0, 1, 2] rfl)
  · refine q_ald_n cx dX6_writeNode_53 rfl (lv_at hl 0 rfl) ?_
    refine q_bipush cx dX6_writeNode_54 rfl ?_
    refine q_cVv (As := [.int (q_i 42)]) (rest := []) cx hB (fun _ h => h) hN hv kv (by decide) rfl (g_X6_put l g hN hB.2.1 v hv kv 42 (by decide) (by decide)) q_cX6_40 q_dX6_put (by decide) rfl rfl hl.1 rfl (Nat.le_of_ble_eq_true rfl) dX6_writeNode_56 (fun H locs f616 h618 hF hB => ?_)
    exact J59 f616 H locs hB ls (lv_sub hl [0, 1, 2] rfl)
set_option maxHeartbeats 4000000 in
set_option maxRecDepth 100000 in
theorem g_X6_writeOf (l : Launch) (g : q_G) {K : Nat → Nat} {L : List Nat} (hN : L.Nodup) {f : Nat → va_E} (hT : q_Ty g K L f) (v : Nat) (hv : v ∈ L) (kv : K v = 6) (p0 : Nat) (hp0 : p0 ∈ L) (kp0 : K p0 = 10) : q_Ct l g K L yX6_writeOf cX6_writeOf 3 (some .int) 4 90 [.ref v, .ref p0] f [(6, 1, 1), (143, 0, 599)] (q_Pi (fun (z : Int) (f1 : Nat → va_E) => True)) := by
  refine q_ofb (by decide +kernel) hN hT (Nat.le_of_ble_eq_true rfl) ?_
  intro p e s m below meth c ls cx hr hlk hB hl
  have hl : lv_has ls 3 [(0, .ref v), (1, .ref p0)] := hl
  have J7 : ∀ (n : Nat) (f7 : Nat → va_E) (v7_2 : Int) (lv7_2 : 0 ≤ v7_2) (uv7_2 : v7_2 ≤ 10) (hmu : (Int.toNat (2147483647 - v7_2)) < n) (H : Heap) (locs : List Loc) (hB : q_B g K L (fun q => q ∈ L) [(6, 1, 1), (143, 0, 599)] f f7 s H locs) (ls : Array Slot) (hl : lv_has ls 3 [(0, .ref v), (1, .ref p0), (2, .int (q_i v7_2))]), W p l e { frames := 4, cells := 0, slots := 0, locals := 90 } s m ([.ref v, .ref p0] : List Value).toArray below meth c H locs 0 0 (MQ below (q_Q g K L [(6, 1, 1), (143, 0, 599)] f (q_Pi (fun (z : Int) (f1 : Nat → va_E) => True))) ([.ref v, .ref p0] : List Value).toArray s 0 0 (fun q => q ∈ L)) (F0 m 7 ls []) := by
    intro n
    induction n with
    | zero =>
      intro f7 v7_2 lv7_2 uv7_2 hmu
      exact absurd hmu (Nat.not_lt_zero _)
    | succ n ih7 =>
      intro f7 v7_2 lv7_2 uv7_2 hmu H locs hB ls hl
      refine q_ild_n cx dX6_writeOf_7 rfl (lv_at hl 2 rfl) ?_
      refine q_ald_n cx dX6_writeOf_8 rfl (lv_at hl 1 rfl) ?_
      obtain ⟨x83, ex83⟩ : ∃ zz, q_is (q_z f7 p0 3) zz := ⟨_, q_isr _⟩
      refine q_gX6_17 cx hB hp0 kp0 ex83 dX6_writeOf_9 (fun lb84 ub84 => ?_)
      refine q_icge (tgt := 27) cx ⟨by omega, by omega⟩ ⟨by omega, by omega⟩ dX6_writeOf_12 (by decide) (fun c85 => ?_) (fun c85 => ?_)
      · refine q_ald_n cx dX6_writeOf_27 rfl (lv_at hl 0 rfl) ?_
        obtain ⟨x86, ex86⟩ : ∃ zz, q_is (q_z f7 v 1) zz := ⟨_, q_isr _⟩
        refine q_gX6_13 cx hB hv kv ex86 dX6_writeOf_28 (fun lb87 ub87 => ?_)
        refine q_iret cx hr hlk hB dX6_writeOf_31 ⟨by omega, by omega⟩ ?_
        trivial
      · refine q_ald_n cx dX6_writeOf_15 rfl (lv_at hl 0 rfl) ?_
        refine q_ald_n cx dX6_writeOf_16 rfl (lv_at hl 1 rfl) ?_
        refine q_ild_n cx dX6_writeOf_17 rfl (lv_at hl 2 rfl) ?_
        refine q_cVv (As := [.ref p0, .int (q_i v7_2)]) (rest := []) cx hB (fun _ h => h) hN hv kv (by decide) rfl (g_X6_writeNode l g hN hB.2.1 v hv kv p0 hp0 kp0 v7_2 (by omega) (by omega)) q_cX6_22 q_dX6_writeNode (by decide) rfl rfl hl.1 rfl (Nat.le_of_ble_eq_true rfl) dX6_writeOf_18 (fun H locs f88 h90 hF hB => ?_)
        refine q_iinc (lv' := [(2, .int (q_i (v7_2 + 1))), (0, .ref v), (1, .ref p0)]) cx dX6_writeOf_21 hl (k := 2) rfl (by decide) rfl (fun ls hl => ?_)
        refine lv_goto (tgt := 7) cx.1 cx.2.1 dX6_writeOf_24 (by decide) ?_
        exact ih7 f88 (v7_2 + 1) (by omega) (by omega) (by omega) H locs hB ls (lv_sub hl [1, 2, 0] rfl)
  obtain ⟨H, hH⟩ : ∃ H : Heap, H = s.heap := ⟨_, rfl⟩
  obtain ⟨locs, hlocs⟩ : ∃ z : List Loc, z = [] := ⟨_, rfl⟩
  rw [← hH, ← hlocs] at hB
  rw [← hH, ← hlocs]
  refine q_ald_n cx dX6_writeOf_0 rfl (lv_at hl 0 rfl) ?_
  refine q_iconst cx dX6_writeOf_1 ?_
  refine q_pX6_13 cx hB hv kv ⟨by decide, by decide⟩ (by decide) (by decide) rfl dX6_writeOf_2 (fun H locs f91 ef91 z92 hB => ?_)
  refine q_iconst cx dX6_writeOf_5 ?_
  refine lv_istore_n (lv' := [(2, .int (q_i 0)), (0, .ref v), (1, .ref p0)]) cx.1 cx.2.1 dX6_writeOf_6 rfl hl (by decide) rfl (fun ls hl => ?_)
  exact J7 ((Int.toNat (2147483647 - 0)) + 1) f91 0 (by decide) (by decide) (Nat.lt_succ_self _) H locs hB ls (lv_sub hl [1, 2, 0] rfl)
set_option maxHeartbeats 4000000 in
set_option maxRecDepth 100000 in
theorem g_X7_commandAt (l : Launch) (g : q_G) {K : Nat → Nat} {L : List Nat} (hN : L.Nodup) {f : Nat → va_E} (hT : q_Ty g K L f) (v : Nat) (hv : v ∈ L) (kv : K v = 7) (p0 : Int) (lp0 : (-2147483648) ≤ p0) (up0 : p0 ≤ 2147483647) : q_Ct l g K L yX7_commandAt cX7_commandAt 2 (some (.object "WakeVillage$Command")) 0 0 [.ref v, .int (q_i p0)] f [] (q_Pr (fun (z : Nat) (f1 : Nat → va_E) => f = f1 ∧ z ∈ L ∧ K z = 0)) := by
  refine q_ofb (by decide +kernel) hN hT (Nat.le_of_ble_eq_true rfl) ?_
  intro p e s m below meth c ls cx hr hlk hB hl
  have hl : lv_has ls 2 [(0, .ref v), (1, .int (q_i p0))] := hl
  have J22 : ∀ (t22_0 : Int) (lt22_0 : 0 ≤ t22_0) (ut22_0 : t22_0 ≤ 29) (t22_1 : Nat) (ht22_1 : t22_1 ∈ L) (kt22_1 : K t22_1 = 141) (H : Heap) (locs : List Loc) (hB : q_B g K L (fun q => q ∈ L) [] f f s H locs) (ls : Array Slot) (hl : lv_has ls 2 []), W p l e { frames := 0, cells := 0, slots := 0, locals := 0 } s m ([.ref v, .int (q_i p0)] : List Value).toArray below meth c H locs 0 0 (MQ below (q_Q g K L [] f (q_Pr (fun (z : Nat) (f1 : Nat → va_E) => f = f1 ∧ z ∈ L ∧ K z = 0))) ([.ref v, .int (q_i p0)] : List Value).toArray s 0 0 (fun q => q ∈ L)) (F0 m 22 ls [.int (q_i t22_0), .ref t22_1]) := by
    intro t22_0 lt22_0 ut22_0 t22_1 ht22_1 kt22_1 H locs hB ls hl
    obtain ⟨p8, ep8⟩ : ∃ zz, q_ir (q_r f t22_1 (Int.toNat t22_0)) zz := ⟨_, q_irr _⟩
    refine q_aald (k2 := 0) (n := 30) cx hB ht22_1 kt22_1 (by decide) rfl 4 rfl (by decide) rfl (by omega) (by omega) (by decide) rfl ep8 dX7_commandAt_22 (fun hb9 kb9 => ?_)
    refine q_aret cx hr (Or.inl ⟨_, rfl⟩) hlk hB dX7_commandAt_23 ?_
    exact ⟨rfl, hb9, kb9⟩
  have J21 : ∀ (t21_0 : Nat) (ht21_0 : t21_0 ∈ L) (kt21_0 : K t21_0 = 141) (H : Heap) (locs : List Loc) (hB : q_B g K L (fun q => q ∈ L) [] f f s H locs) (ls : Array Slot) (hl : lv_has ls 2 []), W p l e { frames := 0, cells := 0, slots := 0, locals := 0 } s m ([.ref v, .int (q_i p0)] : List Value).toArray below meth c H locs 0 0 (MQ below (q_Q g K L [] f (q_Pr (fun (z : Nat) (f1 : Nat → va_E) => f = f1 ∧ z ∈ L ∧ K z = 0))) ([.ref v, .int (q_i p0)] : List Value).toArray s 0 0 (fun q => q ∈ L)) (F0 m 21 ls [.ref t21_0]) := by
    intro t21_0 ht21_0 kt21_0 H locs hB ls hl
    refine q_iconst cx dX7_commandAt_21 ?_
    exact J22 0 (by decide) (by decide) t21_0 ht21_0 kt21_0 H locs hB ls (lv_sub hl [] rfl)
  obtain ⟨H, hH⟩ : ∃ H : Heap, H = s.heap := ⟨_, rfl⟩
  obtain ⟨locs, hlocs⟩ : ∃ z : List Loc, z = [] := ⟨_, rfl⟩
  rw [← hH, ← hlocs] at hB
  rw [← hH, ← hlocs]
  refine q_ald_n cx dX7_commandAt_0 rfl (lv_at hl 0 rfl) ?_
  obtain ⟨p10, ep10⟩ : ∃ zz, q_ir (q_r f v 0) zz := ⟨_, q_irr _⟩
  refine q_gX7_13 cx hB hv kv ep10 dX7_commandAt_1 (fun hb11 kb11 => ?_)
  refine q_ild_n cx dX7_commandAt_4 rfl (lv_at hl 1 rfl) ?_
  refine q_iflt (tgt := 21) cx ⟨by omega, by omega⟩ dX7_commandAt_5 (by decide) (fun c12 => ?_) (fun c12 => ?_)
  · exact J21 p10 hb11 kb11 H locs hB ls (lv_sub hl [] rfl)
  · refine q_ild_n cx dX7_commandAt_8 rfl (lv_at hl 1 rfl) ?_
    refine q_ald_n cx dX7_commandAt_9 rfl (lv_at hl 0 rfl) ?_
    refine q_gX7_13 cx hB hv kv ep10 dX7_commandAt_10 (fun hb13 kb13 => ?_)
    refine q_alen (n := 30) cx hB hb11 kb11 (by decide) rfl 4 rfl rfl dX7_commandAt_13 ?_
    refine q_icge (tgt := 21) cx ⟨by omega, by omega⟩ ⟨by decide, by decide⟩ dX7_commandAt_14 (by decide) (fun c14 => ?_) (fun c14 => ?_)
    · exact J21 p10 hb11 kb11 H locs hB ls (lv_sub hl [] rfl)
    · refine q_ild_n cx dX7_commandAt_17 rfl (lv_at hl 1 rfl) ?_
      refine lv_goto (tgt := 22) cx.1 cx.2.1 dX7_commandAt_18 (by decide) ?_
      exact J22 p0 (by omega) (by omega) p10 hb11 kb11 H locs hB ls (lv_sub hl [] rfl)
set_option maxHeartbeats 4000000 in
set_option maxRecDepth 100000 in
theorem g_X8_byteAt (l : Launch) (g : q_G) {K : Nat → Nat} {L : List Nat} (hN : L.Nodup) {f : Nat → va_E} (hT : q_Ty g K L f) (v : Nat) (hv : v ∈ L) (kv : K v = 8) (p0 : Int) (lp0 : (-2147483648) ≤ p0) (up0 : p0 ≤ 2147483647) : q_Ct l g K L yX8_byteAt cX8_byteAt 2 (some .int) 0 0 [.ref v, .int (q_i p0)] f [] (q_Pi (fun (z : Int) (f1 : Nat → va_E) => f = f1 ∧ (-128) ≤ z ∧ z ≤ 127)) := by
  refine q_ofb (by decide +kernel) hN hT (Nat.le_of_ble_eq_true rfl) ?_
  intro p e s m below meth c ls cx hr hlk hB hl
  have hl : lv_has ls 2 [(0, .ref v), (1, .int (q_i p0))] := hl
  have J23 : ∀ (t23_0 : Int) (lt23_0 : (-128) ≤ t23_0) (ut23_0 : t23_0 ≤ 127) (H : Heap) (locs : List Loc) (hB : q_B g K L (fun q => q ∈ L) [] f f s H locs) (ls : Array Slot) (hl : lv_has ls 2 []), W p l e { frames := 0, cells := 0, slots := 0, locals := 0 } s m ([.ref v, .int (q_i p0)] : List Value).toArray below meth c H locs 0 0 (MQ below (q_Q g K L [] f (q_Pi (fun (z : Int) (f1 : Nat → va_E) => f = f1 ∧ (-128) ≤ z ∧ z ≤ 127))) ([.ref v, .int (q_i p0)] : List Value).toArray s 0 0 (fun q => q ∈ L)) (F0 m 23 ls [.int (q_i t23_0)]) := by
    intro t23_0 lt23_0 ut23_0 H locs hB ls hl
    refine q_iret cx hr hlk hB dX8_byteAt_23 ⟨by omega, by omega⟩ ?_
    exact ⟨rfl, (by omega), (by omega)⟩
  have J22 : ∀  (H : Heap) (locs : List Loc) (hB : q_B g K L (fun q => q ∈ L) [] f f s H locs) (ls : Array Slot) (hl : lv_has ls 2 []), W p l e { frames := 0, cells := 0, slots := 0, locals := 0 } s m ([.ref v, .int (q_i p0)] : List Value).toArray below meth c H locs 0 0 (MQ below (q_Q g K L [] f (q_Pi (fun (z : Int) (f1 : Nat → va_E) => f = f1 ∧ (-128) ≤ z ∧ z ≤ 127))) ([.ref v, .int (q_i p0)] : List Value).toArray s 0 0 (fun q => q ∈ L)) (F0 m 22 ls []) := by
    intro  H locs hB ls hl
    refine q_iconst cx dX8_byteAt_22 ?_
    exact J23 0 (by decide) (by decide) H locs hB ls (lv_sub hl [] rfl)
  obtain ⟨H, hH⟩ : ∃ H : Heap, H = s.heap := ⟨_, rfl⟩
  obtain ⟨locs, hlocs⟩ : ∃ z : List Loc, z = [] := ⟨_, rfl⟩
  rw [← hH, ← hlocs] at hB
  rw [← hH, ← hlocs]
  refine q_ild_n cx dX8_byteAt_0 rfl (lv_at hl 1 rfl) ?_
  refine q_iflt (tgt := 22) cx ⟨by omega, by omega⟩ dX8_byteAt_1 (by decide) (fun c8 => ?_) (fun c8 => ?_)
  · exact J22  H locs hB ls (lv_sub hl [] rfl)
  · refine q_ild_n cx dX8_byteAt_4 rfl (lv_at hl 1 rfl) ?_
    refine q_ald_n cx dX8_byteAt_5 rfl (lv_at hl 0 rfl) ?_
    obtain ⟨p9, ep9⟩ : ∃ zz, q_ir (q_r f v 0) zz := ⟨_, q_irr _⟩
    refine q_gX8_11 cx hB hv kv ep9 dX8_byteAt_6 (fun hb10 kb10 => ?_)
    refine q_alen (n := 600) cx hB hb10 kb10 (by decide) rfl 0 rfl rfl dX8_byteAt_9 ?_
    refine q_icge (tgt := 22) cx ⟨by omega, by omega⟩ ⟨by decide, by decide⟩ dX8_byteAt_10 (by decide) (fun c11 => ?_) (fun c11 => ?_)
    · exact J22  H locs hB ls (lv_sub hl [] rfl)
    · refine q_ald_n cx dX8_byteAt_13 rfl (lv_at hl 0 rfl) ?_
      refine q_gX8_11 cx hB hv kv ep9 dX8_byteAt_14 (fun hb12 kb12 => ?_)
      refine q_ild_n cx dX8_byteAt_17 rfl (lv_at hl 1 rfl) ?_
      obtain ⟨x13, ex13⟩ : ∃ zz, q_is (q_z f p9 (Int.toNat p0)) zz := ⟨_, q_isr _⟩
      refine q_bald (lo := (-128)) (hi := 127) (n := 600) cx hB hb10 kb10 (by decide) rfl rfl (by omega) (by omega) (by decide) rfl ex13 dX8_byteAt_18 (fun lb14 ub14 => ?_)
      refine lv_goto (tgt := 23) cx.1 cx.2.1 dX8_byteAt_19 (by decide) ?_
      exact J23 x13 (by omega) (by omega) H locs hB ls (lv_sub hl [] rfl)
set_option maxHeartbeats 4000000 in
set_option maxRecDepth 100000 in
theorem g_X8_isLetter (l : Launch) (g : q_G) {K : Nat → Nat} {L : List Nat} (hN : L.Nodup) {f : Nat → va_E} (hT : q_Ty g K L f) (p0 : Int) (lp0 : (-2147483648) ≤ p0) (up0 : p0 ≤ 2147483647) : q_Ct l g K L yX8_isLetter cX8_isLetter 1 (some .boolean) 0 0 [.int (q_i p0)] f [] (q_Pi (fun (z : Int) (f1 : Nat → va_E) => f = f1 ∧ 0 ≤ z ∧ z ≤ 1)) := by
  refine q_ofb (by decide +kernel) hN hT (Nat.le_of_ble_eq_true rfl) ?_
  intro p e s m below meth c ls cx hr hlk hB hl
  have hl : lv_has ls 1 [(0, .int (q_i p0))] := hl
  have J17 : ∀ (t17_0 : Int) (lt17_0 : 0 ≤ t17_0) (ut17_0 : t17_0 ≤ 1) (H : Heap) (locs : List Loc) (hB : q_B g K L (fun q => q ∈ L) [] f f s H locs) (ls : Array Slot) (hl : lv_has ls 1 []), W p l e { frames := 0, cells := 0, slots := 0, locals := 0 } s m ([.int (q_i p0)] : List Value).toArray below meth c H locs 0 0 (MQ below (q_Q g K L [] f (q_Pi (fun (z : Int) (f1 : Nat → va_E) => f = f1 ∧ 0 ≤ z ∧ z ≤ 1))) ([.int (q_i p0)] : List Value).toArray s 0 0 (fun q => q ∈ L)) (F0 m 17 ls [.int (q_i t17_0)]) := by
    intro t17_0 lt17_0 ut17_0 H locs hB ls hl
    refine q_zret cx hr hlk hB dX8_isLetter_17 (by omega) (by omega) ?_
    exact ⟨rfl, (by omega), (by omega)⟩
  have J16 : ∀  (H : Heap) (locs : List Loc) (hB : q_B g K L (fun q => q ∈ L) [] f f s H locs) (ls : Array Slot) (hl : lv_has ls 1 []), W p l e { frames := 0, cells := 0, slots := 0, locals := 0 } s m ([.int (q_i p0)] : List Value).toArray below meth c H locs 0 0 (MQ below (q_Q g K L [] f (q_Pi (fun (z : Int) (f1 : Nat → va_E) => f = f1 ∧ 0 ≤ z ∧ z ≤ 1))) ([.int (q_i p0)] : List Value).toArray s 0 0 (fun q => q ∈ L)) (F0 m 16 ls []) := by
    intro  H locs hB ls hl
    refine q_iconst cx dX8_isLetter_16 ?_
    exact J17 0 (by decide) (by decide) H locs hB ls (lv_sub hl [] rfl)
  obtain ⟨H, hH⟩ : ∃ H : Heap, H = s.heap := ⟨_, rfl⟩
  obtain ⟨locs, hlocs⟩ : ∃ z : List Loc, z = [] := ⟨_, rfl⟩
  rw [← hH, ← hlocs] at hB
  rw [← hH, ← hlocs]
  refine q_ild_n cx dX8_isLetter_0 rfl (lv_at hl 0 rfl) ?_
  refine q_bipush cx dX8_isLetter_1 rfl ?_
  refine q_iclt (tgt := 16) cx ⟨by omega, by omega⟩ ⟨by decide, by decide⟩ dX8_isLetter_3 (by decide) (fun c3 => ?_) (fun c3 => ?_)
  · exact J16  H locs hB ls (lv_sub hl [] rfl)
  · refine q_ild_n cx dX8_isLetter_6 rfl (lv_at hl 0 rfl) ?_
    refine q_bipush cx dX8_isLetter_7 rfl ?_
    refine q_icgt (tgt := 16) cx ⟨by omega, by omega⟩ ⟨by decide, by decide⟩ dX8_isLetter_9 (by decide) (fun c4 => ?_) (fun c4 => ?_)
    · exact J16  H locs hB ls (lv_sub hl [] rfl)
    · refine q_iconst cx dX8_isLetter_12 ?_
      refine lv_goto (tgt := 17) cx.1 cx.2.1 dX8_isLetter_13 (by decide) ?_
      exact J17 1 (by decide) (by decide) H locs hB ls (lv_sub hl [] rfl)
set_option maxHeartbeats 4000000 in
set_option maxRecDepth 100000 in
theorem g_X8_scanWord (l : Launch) (g : q_G) {K : Nat → Nat} {L : List Nat} (hN : L.Nodup) {f : Nat → va_E} (hT : q_Ty g K L f) (v : Nat) (hv : v ∈ L) (kv : K v = 8) : q_Ct l g K L yX8_scanWord cX8_scanWord 1 none 1 21 [.ref v] f [(8, 4, 4), (8, 6, 6), (8, 9, 9)] (q_Pv (fun (f1 : Nat → va_E) => True)) := by
  refine q_ofb (by decide +kernel) hN hT (Nat.le_of_ble_eq_true rfl) ?_
  intro p e s m below meth c ls cx hr hlk hB hl
  have hl : lv_has ls 1 [(0, .ref v)] := hl
  obtain ⟨k_v_1, ek_v_1⟩ : ∃ zz, q_is (q_z f v 1) zz := ⟨_, q_isr _⟩
  obtain ⟨_, _, _, _, l0k_v_1, u0k_v_1⟩ := q_fi (j := 1) hB.2.1 hv kv (by decide) rfl
  obtain ⟨lk_v_1, uk_v_1⟩ := q_isb ek_v_1 ⟨l0k_v_1, u0k_v_1⟩
  clear l0k_v_1 u0k_v_1
  obtain ⟨k_v_9, ek_v_9⟩ : ∃ zz, q_is (q_z f v 9) zz := ⟨_, q_isr _⟩
  obtain ⟨_, _, _, _, l0k_v_9, u0k_v_9⟩ := q_fi (j := 9) hB.2.1 hv kv (by decide) rfl
  obtain ⟨lk_v_9, uk_v_9⟩ := q_isb ek_v_9 ⟨l0k_v_9, u0k_v_9⟩
  clear l0k_v_9 u0k_v_9
  have J5 : ∀ (n : Nat) (f5 : Nat → va_E) (w5_v_1 : Int) (lw5_v_1 : 0 ≤ w5_v_1) (uw5_v_1 : w5_v_1 ≤ 600) (w5_v_9 : Int) (lw5_v_9 : (-2147483648) ≤ w5_v_9) (uw5_v_9 : w5_v_9 ≤ 2147483647) (hj_v_1 : q_is (q_z f5 v 1) w5_v_1) (hj_v_9 : q_is (q_z f5 v 9) w5_v_9) (hmu : (Int.toNat (w5_v_1 - w5_v_9)) < n) (H : Heap) (locs : List Loc) (hB : q_B g K L (fun q => q ∈ L) [(8, 4, 4), (8, 6, 6), (8, 9, 9)] f f5 s H locs) (ls : Array Slot) (hl : lv_has ls 1 [(0, .ref v)]), W p l e { frames := 1, cells := 0, slots := 0, locals := 21 } s m ([.ref v] : List Value).toArray below meth c H locs 0 0 (MQ below (q_Q g K L [(8, 4, 4), (8, 6, 6), (8, 9, 9)] f (q_Pv (fun (f1 : Nat → va_E) => True))) ([.ref v] : List Value).toArray s 0 0 (fun q => q ∈ L)) (F0 m 5 ls []) := by
    intro n
    induction n with
    | zero =>
      intro f5 w5_v_1 lw5_v_1 uw5_v_1 w5_v_9 lw5_v_9 uw5_v_9 hj_v_1 hj_v_9 hmu
      exact absurd hmu (Nat.not_lt_zero _)
    | succ n ih5 =>
      intro f5 w5_v_1 lw5_v_1 uw5_v_1 w5_v_9 lw5_v_9 uw5_v_9 hj_v_1 hj_v_9 hmu H locs hB ls hl
      refine q_ald_n cx dX8_scanWord_5 rfl (lv_at hl 0 rfl) ?_
      refine q_gX8_27 cx hB hv kv hj_v_9 dX8_scanWord_6 (fun lb70 ub70 => ?_)
      refine q_ald_n cx dX8_scanWord_9 rfl (lv_at hl 0 rfl) ?_
      refine q_gX8_19 cx hB hv kv hj_v_1 dX8_scanWord_10 (fun lb71 ub71 => ?_)
      refine q_icge (tgt := 88) cx ⟨by omega, by omega⟩ ⟨by omega, by omega⟩ dX8_scanWord_13 (by decide) (fun c72 => ?_) (fun c72 => ?_)
      · refine q_ald_n cx dX8_scanWord_88 rfl (lv_at hl 0 rfl) ?_
        refine q_ald_n cx dX8_scanWord_89 rfl (lv_at hl 0 rfl) ?_
        refine q_gX8_27 cx hB hv kv hj_v_9 dX8_scanWord_90 (fun lb73 ub73 => ?_)
        refine q_ald_n cx dX8_scanWord_93 rfl (lv_at hl 0 rfl) ?_
        obtain ⟨x74, ex74⟩ : ∃ zz, q_is (q_z f5 v 8) zz := ⟨_, q_isr _⟩
        refine q_gX8_33 cx hB hv kv ex74 dX8_scanWord_94 (fun lb75 ub75 => ?_)
        refine q_isub cx dX8_scanWord_97 ?_
        refine q_any (fun y76 ry76 ey76 => ?_)
        refine q_bipush cx dX8_scanWord_98 rfl ?_
        refine q_icgt (tgt := 107) cx ⟨by omega, by omega⟩ ⟨by decide, by decide⟩ dX8_scanWord_100 (by decide) (fun c77 => ?_) (fun c77 => ?_)
        · refine q_iconst cx dX8_scanWord_107 ?_
          refine q_pX8_40 cx hB hv kv ⟨by decide, by decide⟩ (by decide) (by decide) rfl dX8_scanWord_108 (fun H locs f78 ef78 z79 hB => ?_)
          have z80 : q_is (q_z f78 v 1) w5_v_1 := by rw [ef78, q_setz (Or.inr (by decide))]; exact hj_v_1
          have z81 : q_is (q_z f78 v 9) w5_v_9 := by rw [ef78, q_setz (Or.inr (by decide))]; exact hj_v_9
          refine q_vret cx hr hlk hB dX8_scanWord_111 ?_
          trivial
        · refine q_iconst cx dX8_scanWord_103 ?_
          refine lv_goto (tgt := 108) cx.1 cx.2.1 dX8_scanWord_104 (by decide) ?_
          refine q_pX8_40 cx hB hv kv ⟨by decide, by decide⟩ (by decide) (by decide) rfl dX8_scanWord_108 (fun H locs f82 ef82 z83 hB => ?_)
          have z84 : q_is (q_z f82 v 1) w5_v_1 := by rw [ef82, q_setz (Or.inr (by decide))]; exact hj_v_1
          have z85 : q_is (q_z f82 v 9) w5_v_9 := by rw [ef82, q_setz (Or.inr (by decide))]; exact hj_v_9
          refine q_vret cx hr hlk hB dX8_scanWord_111 ?_
          trivial
      · refine q_ald_n cx dX8_scanWord_16 rfl (lv_at hl 0 rfl) ?_
        refine q_ald_n cx dX8_scanWord_17 rfl (lv_at hl 0 rfl) ?_
        refine q_gX8_27 cx hB hv kv hj_v_9 dX8_scanWord_18 (fun lb86 ub86 => ?_)
        refine q_cVi (As := [.int (q_i w5_v_9)]) (rest := []) cx hB (fun _ h => h) hN hv kv (by decide) rfl (g_X8_byteAt l g hN hB.2.1 v hv kv w5_v_9 (by omega) (by omega)) q_cX8_36 q_dX8_byteAt (by decide) rfl rfl hl.1 rfl (Nat.le_of_ble_eq_true rfl) dX8_scanWord_21 (fun y88 H locs f87 ry88 h89 hF hB => ?_)
        obtain ⟨rfl, ly88, uy88⟩ := h89
        refine q_cSi (As := [.int (q_i y88)]) (rest := []) cx hB (fun _ h => h) hN (g_X8_isLetter l g hN hB.2.1 y88 (by omega) (by omega)) q_cX8_43 q_dX8_isLetter (by decide) rfl rfl hl.1 rfl (Nat.le_of_ble_eq_true rfl) dX8_scanWord_24 (fun y91 H locs f90 ry91 h92 hF hB => ?_)
        obtain ⟨rfl, ly91, uy91⟩ := h92
        refine q_ifeq (tgt := 88) cx ⟨by omega, by omega⟩ dX8_scanWord_27 (by decide) (fun c93 => ?_) (fun c93 => ?_)
        · refine q_ald_n cx dX8_scanWord_88 rfl (lv_at hl 0 rfl) ?_
          refine q_ald_n cx dX8_scanWord_89 rfl (lv_at hl 0 rfl) ?_
          refine q_gX8_27 cx hB hv kv hj_v_9 dX8_scanWord_90 (fun lb94 ub94 => ?_)
          refine q_ald_n cx dX8_scanWord_93 rfl (lv_at hl 0 rfl) ?_
          obtain ⟨x95, ex95⟩ : ∃ zz, q_is (q_z f5 v 8) zz := ⟨_, q_isr _⟩
          refine q_gX8_33 cx hB hv kv ex95 dX8_scanWord_94 (fun lb96 ub96 => ?_)
          refine q_isub cx dX8_scanWord_97 ?_
          refine q_any (fun y97 ry97 ey97 => ?_)
          refine q_bipush cx dX8_scanWord_98 rfl ?_
          refine q_icgt (tgt := 107) cx ⟨by omega, by omega⟩ ⟨by decide, by decide⟩ dX8_scanWord_100 (by decide) (fun c98 => ?_) (fun c98 => ?_)
          · refine q_iconst cx dX8_scanWord_107 ?_
            refine q_pX8_40 cx hB hv kv ⟨by decide, by decide⟩ (by decide) (by decide) rfl dX8_scanWord_108 (fun H locs f99 ef99 z100 hB => ?_)
            have z101 : q_is (q_z f99 v 1) w5_v_1 := by rw [ef99, q_setz (Or.inr (by decide))]; exact hj_v_1
            have z102 : q_is (q_z f99 v 9) w5_v_9 := by rw [ef99, q_setz (Or.inr (by decide))]; exact hj_v_9
            refine q_vret cx hr hlk hB dX8_scanWord_111 ?_
            trivial
          · refine q_iconst cx dX8_scanWord_103 ?_
            refine lv_goto (tgt := 108) cx.1 cx.2.1 dX8_scanWord_104 (by decide) ?_
            refine q_pX8_40 cx hB hv kv ⟨by decide, by decide⟩ (by decide) (by decide) rfl dX8_scanWord_108 (fun H locs f103 ef103 z104 hB => ?_)
            have z105 : q_is (q_z f103 v 1) w5_v_1 := by rw [ef103, q_setz (Or.inr (by decide))]; exact hj_v_1
            have z106 : q_is (q_z f103 v 9) w5_v_9 := by rw [ef103, q_setz (Or.inr (by decide))]; exact hj_v_9
            refine q_vret cx hr hlk hB dX8_scanWord_111 ?_
            trivial
        · refine q_ald_n cx dX8_scanWord_30 rfl (lv_at hl 0 rfl) ?_
          refine q_gX8_27 cx hB hv kv hj_v_9 dX8_scanWord_31 (fun lb107 ub107 => ?_)
          refine q_ald_n cx dX8_scanWord_34 rfl (lv_at hl 0 rfl) ?_
          obtain ⟨x108, ex108⟩ : ∃ zz, q_is (q_z f5 v 8) zz := ⟨_, q_isr _⟩
          refine q_gX8_33 cx hB hv kv ex108 dX8_scanWord_35 (fun lb109 ub109 => ?_)
          refine q_isub cx dX8_scanWord_38 ?_
          refine q_any (fun y110 ry110 ey110 => ?_)
          refine q_bipush cx dX8_scanWord_39 rfl ?_
          refine q_icge (tgt := 75) cx ⟨by omega, by omega⟩ ⟨by decide, by decide⟩ dX8_scanWord_41 (by decide) (fun c111 => ?_) (fun c111 => ?_)
          · refine q_ald_n cx dX8_scanWord_75 rfl (lv_at hl 0 rfl) ?_
            refine lv_dup cx.1 cx.2.1 dX8_scanWord_76 rfl ?_
            refine q_gX8_27 cx hB hv kv hj_v_9 dX8_scanWord_77 (fun lb112 ub112 => ?_)
            refine q_iconst cx dX8_scanWord_80 ?_
            refine q_iadd cx dX8_scanWord_81 ?_
            refine q_pX8_27 cx hB hv kv ⟨by omega, by omega⟩ (by omega) (by omega) rfl dX8_scanWord_82 (fun H locs f113 ef113 z114 hB => ?_)
            have z115 : q_is (q_z f113 v 1) w5_v_1 := by rw [ef113, q_setz (Or.inr (by decide))]; exact hj_v_1
            refine lv_goto (tgt := 5) cx.1 cx.2.1 dX8_scanWord_85 (by decide) ?_
            exact ih5 f113 w5_v_1 (by omega) (by omega) (w5_v_9 + 1) (by omega) (by omega) z115 z114 (by omega) H locs hB ls (lv_sub hl [0] rfl)
          · refine q_ald_n cx dX8_scanWord_44 rfl (lv_at hl 0 rfl) ?_
            refine lv_dup cx.1 cx.2.1 dX8_scanWord_45 rfl ?_
            obtain ⟨j116, ej116⟩ : ∃ zz, q_j f5 v 4 = zz := ⟨_, rfl⟩
            refine q_gX8_56 cx hB hv kv ej116 dX8_scanWord_46 ?_
            refine q_ald_n cx dX8_scanWord_49 rfl (lv_at hl 0 rfl) ?_
            refine q_ald_n cx dX8_scanWord_50 rfl (lv_at hl 0 rfl) ?_
            refine q_gX8_27 cx hB hv kv hj_v_9 dX8_scanWord_51 (fun lb117 ub117 => ?_)
            refine q_cVi (As := [.int (q_i w5_v_9)]) (rest := [.long j116, .ref v]) cx hB (fun _ h => h) hN hv kv (by decide) rfl (g_X8_byteAt l g hN hB.2.1 v hv kv w5_v_9 (by omega) (by omega)) q_cX8_36 q_dX8_byteAt (by decide) rfl rfl hl.1 rfl (Nat.le_of_ble_eq_true rfl) dX8_scanWord_54 (fun y119 H locs f118 ry119 h120 hF hB => ?_)
            obtain ⟨rfl, ly119, uy119⟩ := h120
            refine q_i2l cx ⟨by omega, by omega⟩ dX8_scanWord_57 ?_
            refine q_bipush cx dX8_scanWord_58 rfl ?_
            refine q_ald_n cx dX8_scanWord_60 rfl (lv_at hl 0 rfl) ?_
            refine q_gX8_27 cx hB hv kv hj_v_9 dX8_scanWord_61 (fun lb121 ub121 => ?_)
            refine q_ald_n cx dX8_scanWord_64 rfl (lv_at hl 0 rfl) ?_
            refine q_gX8_33 cx hB hv kv ex108 dX8_scanWord_65 (fun lb122 ub122 => ?_)
            refine q_isub cx dX8_scanWord_68 ?_
            refine q_any (fun y123 ry123 ey123 => ?_)
            refine q_imul cx dX8_scanWord_69 ?_
            refine q_any (fun y124 ry124 ey124 => ?_)
            refine lv_lshl cx.1 cx.2.1 dX8_scanWord_70 rfl ?_
            refine lv_topl (fun j125 ej125 => ?_)
            refine lv_lor cx.1 cx.2.1 dX8_scanWord_71 ?_
            refine lv_topl (fun j126 ej126 => ?_)
            refine q_pX8_56 cx hB hv kv rfl dX8_scanWord_72 (fun H locs f127 ef127 z128 hB => ?_)
            have z129 : q_is (q_z f127 v 1) w5_v_1 := by rw [ef127, q_setz (Or.inr (by decide))]; exact hj_v_1
            have z130 : q_is (q_z f127 v 9) w5_v_9 := by rw [ef127, q_setz (Or.inr (by decide))]; exact hj_v_9
            refine q_ald_n cx dX8_scanWord_75 rfl (lv_at hl 0 rfl) ?_
            refine lv_dup cx.1 cx.2.1 dX8_scanWord_76 rfl ?_
            refine q_gX8_27 cx hB hv kv z130 dX8_scanWord_77 (fun lb131 ub131 => ?_)
            refine q_iconst cx dX8_scanWord_80 ?_
            refine q_iadd cx dX8_scanWord_81 ?_
            refine q_pX8_27 cx hB hv kv ⟨by omega, by omega⟩ (by omega) (by omega) rfl dX8_scanWord_82 (fun H locs f132 ef132 z133 hB => ?_)
            have z134 : q_is (q_z f132 v 1) w5_v_1 := by rw [ef132, q_setz (Or.inr (by decide))]; exact z129
            refine lv_goto (tgt := 5) cx.1 cx.2.1 dX8_scanWord_85 (by decide) ?_
            exact ih5 f132 w5_v_1 (by omega) (by omega) (w5_v_9 + 1) (by omega) (by omega) z134 z133 (by omega) H locs hB ls (lv_sub hl [0] rfl)
  obtain ⟨H, hH⟩ : ∃ H : Heap, H = s.heap := ⟨_, rfl⟩
  obtain ⟨locs, hlocs⟩ : ∃ z : List Loc, z = [] := ⟨_, rfl⟩
  rw [← hH, ← hlocs] at hB
  rw [← hH, ← hlocs]
  refine q_ald_n cx dX8_scanWord_0 rfl (lv_at hl 0 rfl) ?_
  refine q_lconst (z := 0) cx (by decide) dX8_scanWord_1 ?_
  refine q_pX8_56 cx hB hv kv rfl dX8_scanWord_2 (fun H locs f135 ef135 z136 hB => ?_)
  have z137 : q_is (q_z f135 v 1) k_v_1 := by rw [ef135, q_setz (Or.inr (by decide))]; exact ek_v_1
  have z138 : q_is (q_z f135 v 9) k_v_9 := by rw [ef135, q_setz (Or.inr (by decide))]; exact ek_v_9
  exact J5 ((Int.toNat (k_v_1 - k_v_9)) + 1) f135 k_v_1 (by omega) (by omega) k_v_9 (by omega) (by omega) z137 z138 (Nat.lt_succ_self _) H locs hB ls (lv_sub hl [0] rfl)
set_option maxHeartbeats 4000000 in
set_option maxRecDepth 100000 in
theorem g_X8_isDigit (l : Launch) (g : q_G) {K : Nat → Nat} {L : List Nat} (hN : L.Nodup) {f : Nat → va_E} (hT : q_Ty g K L f) (p0 : Int) (lp0 : (-2147483648) ≤ p0) (up0 : p0 ≤ 2147483647) : q_Ct l g K L yX8_isDigit cX8_isDigit 1 (some .boolean) 0 0 [.int (q_i p0)] f [] (q_Pi (fun (z : Int) (f1 : Nat → va_E) => f = f1 ∧ 0 ≤ z ∧ z ≤ 1)) := by
  refine q_ofb (by decide +kernel) hN hT (Nat.le_of_ble_eq_true rfl) ?_
  intro p e s m below meth c ls cx hr hlk hB hl
  have hl : lv_has ls 1 [(0, .int (q_i p0))] := hl
  have J17 : ∀ (t17_0 : Int) (lt17_0 : 0 ≤ t17_0) (ut17_0 : t17_0 ≤ 1) (H : Heap) (locs : List Loc) (hB : q_B g K L (fun q => q ∈ L) [] f f s H locs) (ls : Array Slot) (hl : lv_has ls 1 []), W p l e { frames := 0, cells := 0, slots := 0, locals := 0 } s m ([.int (q_i p0)] : List Value).toArray below meth c H locs 0 0 (MQ below (q_Q g K L [] f (q_Pi (fun (z : Int) (f1 : Nat → va_E) => f = f1 ∧ 0 ≤ z ∧ z ≤ 1))) ([.int (q_i p0)] : List Value).toArray s 0 0 (fun q => q ∈ L)) (F0 m 17 ls [.int (q_i t17_0)]) := by
    intro t17_0 lt17_0 ut17_0 H locs hB ls hl
    refine q_zret cx hr hlk hB dX8_isDigit_17 (by omega) (by omega) ?_
    exact ⟨rfl, (by omega), (by omega)⟩
  have J16 : ∀  (H : Heap) (locs : List Loc) (hB : q_B g K L (fun q => q ∈ L) [] f f s H locs) (ls : Array Slot) (hl : lv_has ls 1 []), W p l e { frames := 0, cells := 0, slots := 0, locals := 0 } s m ([.int (q_i p0)] : List Value).toArray below meth c H locs 0 0 (MQ below (q_Q g K L [] f (q_Pi (fun (z : Int) (f1 : Nat → va_E) => f = f1 ∧ 0 ≤ z ∧ z ≤ 1))) ([.int (q_i p0)] : List Value).toArray s 0 0 (fun q => q ∈ L)) (F0 m 16 ls []) := by
    intro  H locs hB ls hl
    refine q_iconst cx dX8_isDigit_16 ?_
    exact J17 0 (by decide) (by decide) H locs hB ls (lv_sub hl [] rfl)
  obtain ⟨H, hH⟩ : ∃ H : Heap, H = s.heap := ⟨_, rfl⟩
  obtain ⟨locs, hlocs⟩ : ∃ z : List Loc, z = [] := ⟨_, rfl⟩
  rw [← hH, ← hlocs] at hB
  rw [← hH, ← hlocs]
  refine q_ild_n cx dX8_isDigit_0 rfl (lv_at hl 0 rfl) ?_
  refine q_bipush cx dX8_isDigit_1 rfl ?_
  refine q_iclt (tgt := 16) cx ⟨by omega, by omega⟩ ⟨by decide, by decide⟩ dX8_isDigit_3 (by decide) (fun c3 => ?_) (fun c3 => ?_)
  · exact J16  H locs hB ls (lv_sub hl [] rfl)
  · refine q_ild_n cx dX8_isDigit_6 rfl (lv_at hl 0 rfl) ?_
    refine q_bipush cx dX8_isDigit_7 rfl ?_
    refine q_icgt (tgt := 16) cx ⟨by omega, by omega⟩ ⟨by decide, by decide⟩ dX8_isDigit_9 (by decide) (fun c4 => ?_) (fun c4 => ?_)
    · exact J16  H locs hB ls (lv_sub hl [] rfl)
    · refine q_iconst cx dX8_isDigit_12 ?_
      refine lv_goto (tgt := 17) cx.1 cx.2.1 dX8_isDigit_13 (by decide) ?_
      exact J17 1 (by decide) (by decide) H locs hB ls (lv_sub hl [] rfl)
