set_option maxHeartbeats 4000000 in
set_option maxRecDepth 100000 in
theorem g_X10_isAwake (l : Launch) (g : q_G) {K : Nat → Nat} {L : List Nat} (hN : L.Nodup) {f : Nat → va_E} (hT : q_Ty g K L f) (v : Nat) (hv : v ∈ L) (kv : K v = 10) (p0 : Int) (lp0 : (-2147483648) ≤ p0) (up0 : p0 ≤ 2147483647) : q_Ct l g K L yX10_isAwake cX10_isAwake 2 (some .boolean) 2 46 [.ref v, .int (q_i p0)] f [] (q_Pi (fun (z : Int) (f1 : Nat → va_E) => f = f1 ∧ 0 ≤ z ∧ z ≤ 1)) := by
  refine q_ofb (by decide +kernel) hN hT (Nat.le_of_ble_eq_true rfl) ?_
  intro p e s m below meth c ls cx hr hlk hB hl
  have hl : lv_has ls 2 [(0, .ref v), (1, .int (q_i p0))] := hl
  have J29 : ∀ (t29_0 : Int) (lt29_0 : 0 ≤ t29_0) (ut29_0 : t29_0 ≤ 1) (H : Heap) (locs : List Loc) (hB : q_B g K L (fun q => q ∈ L) [] f f s H locs) (ls : Array Slot) (hl : lv_has ls 2 []), W p l e { frames := 2, cells := 0, slots := 0, locals := 46 } s m ([.ref v, .int (q_i p0)] : List Value).toArray below meth c H locs 0 0 (MQ below (q_Q g K L [] f (q_Pi (fun (z : Int) (f1 : Nat → va_E) => f = f1 ∧ 0 ≤ z ∧ z ≤ 1))) ([.ref v, .int (q_i p0)] : List Value).toArray s 0 0 (fun q => q ∈ L)) (F0 m 29 ls [.int (q_i t29_0)]) := by
    intro t29_0 lt29_0 ut29_0 H locs hB ls hl
    refine q_zret cx hr hlk hB dX10_isAwake_29 (by omega) (by omega) ?_
    exact ⟨rfl, (by omega), (by omega)⟩
  have J28 : ∀  (H : Heap) (locs : List Loc) (hB : q_B g K L (fun q => q ∈ L) [] f f s H locs) (ls : Array Slot) (hl : lv_has ls 2 []), W p l e { frames := 2, cells := 0, slots := 0, locals := 46 } s m ([.ref v, .int (q_i p0)] : List Value).toArray below meth c H locs 0 0 (MQ below (q_Q g K L [] f (q_Pi (fun (z : Int) (f1 : Nat → va_E) => f = f1 ∧ 0 ≤ z ∧ z ≤ 1))) ([.ref v, .int (q_i p0)] : List Value).toArray s 0 0 (fun q => q ∈ L)) (F0 m 28 ls []) := by
    intro  H locs hB ls hl
    refine q_iconst cx dX10_isAwake_28 ?_
    exact J29 0 (by decide) (by decide) H locs hB ls (lv_sub hl [] rfl)
  obtain ⟨H, hH⟩ : ∃ H : Heap, H = s.heap := ⟨_, rfl⟩
  obtain ⟨locs, hlocs⟩ : ∃ z : List Loc, z = [] := ⟨_, rfl⟩
  rw [← hH, ← hlocs] at hB
  rw [← hH, ← hlocs]
  refine q_ald_n cx dX10_isAwake_0 rfl (lv_at hl 0 rfl) ?_
  refine q_ild_n cx dX10_isAwake_1 rfl (lv_at hl 1 rfl) ?_
  refine q_cVi (As := [.int (q_i p0)]) (rest := []) cx hB (fun _ h => h) hN hv kv (by decide) rfl (g_X10_isOut l g hN hB.2.1 v hv kv p0 (by omega) (by omega)) q_cX10_160 q_dX10_isOut (by decide) rfl rfl hl.1 rfl (Nat.le_of_ble_eq_true rfl) dX10_isAwake_2 (fun y16 H locs f15 ry16 h17 hF hB => ?_)
  obtain ⟨rfl, ly16, uy16⟩ := h17
  refine q_ifne (tgt := 28) cx ⟨by omega, by omega⟩ dX10_isAwake_5 (by decide) (fun c18 => ?_) (fun c18 => ?_)
  · exact J28  H locs hB ls (lv_sub hl [] rfl)
  · refine q_ald_n cx dX10_isAwake_8 rfl (lv_at hl 0 rfl) ?_
    refine q_ild_n cx dX10_isAwake_9 rfl (lv_at hl 1 rfl) ?_
    refine q_cVl (As := [.int (q_i p0)]) (rest := []) cx hB (fun _ h => h) hN hv kv (by decide) rfl (g_X10_tableOf l g hN hB.2.1 v hv kv p0 (by omega) (by omega)) q_cX10_174 q_dX10_tableOf (by decide) rfl rfl hl.1 rfl (Nat.le_of_ble_eq_true rfl) dX10_isAwake_10 (fun y20 H locs f19 h21 hF hB => ?_)
    obtain rfl := h21
    refine q_ald_n cx dX10_isAwake_13 rfl (lv_at hl 0 rfl) ?_
    refine q_ild_n cx dX10_isAwake_14 rfl (lv_at hl 1 rfl) ?_
    refine q_cVi (As := [.int (q_i p0)]) (rest := [.long y20]) cx hB (fun _ h => h) hN hv kv (by decide) rfl (g_X10_dayOf l g hN hB.2.1 v hv kv p0 (by omega) (by omega)) q_cX10_178 q_dX10_dayOf (by decide) rfl rfl hl.1 rfl (Nat.le_of_ble_eq_true rfl) dX10_isAwake_15 (fun y23 H locs f22 ry23 h24 hF hB => ?_)
    obtain ⟨rfl, ly23, uy23⟩ := h24
    refine q_cSi (As := [.long y20, .int (q_i y23)]) (rest := []) cx hB (fun _ h => h) hN (g_X10_hasDay l g hN hB.2.1 y20 y23 (by omega) (by omega)) q_cX10_170 q_dX10_hasDay (by decide) rfl rfl hl.1 rfl (Nat.le_of_ble_eq_true rfl) dX10_isAwake_18 (fun y26 H locs f25 ry26 h27 hF hB => ?_)
    obtain ⟨rfl, ly26, uy26⟩ := h27
    refine q_ifeq (tgt := 28) cx ⟨by omega, by omega⟩ dX10_isAwake_21 (by decide) (fun c28 => ?_) (fun c28 => ?_)
    · exact J28  H locs hB ls (lv_sub hl [] rfl)
    · refine q_iconst cx dX10_isAwake_24 ?_
      refine lv_goto (tgt := 29) cx.1 cx.2.1 dX10_isAwake_25 (by decide) ?_
      exact J29 1 (by decide) (by decide) H locs hB ls (lv_sub hl [] rfl)
set_option maxHeartbeats 4000000 in
set_option maxRecDepth 100000 in
theorem g_X10_isAwake_1 (l : Launch) (g : q_G) {K : Nat → Nat} {L : List Nat} (hN : L.Nodup) {f : Nat → va_E} (hT : q_Ty g K L f) (v : Nat) (hv : v ∈ L) (kv : K v = 13) (p0 : Int) (lp0 : (-2147483648) ≤ p0) (up0 : p0 ≤ 2147483647) : q_Ct l g K L yX10_isAwake cX10_isAwake 2 (some .boolean) 2 46 [.ref v, .int (q_i p0)] f [] (q_Pi (fun (z : Int) (f1 : Nat → va_E) => f = f1 ∧ 0 ≤ z ∧ z ≤ 1)) := by
  refine q_ofb (by decide +kernel) hN hT (Nat.le_of_ble_eq_true rfl) ?_
  intro p e s m below meth c ls cx hr hlk hB hl
  have hl : lv_has ls 2 [(0, .ref v), (1, .int (q_i p0))] := hl
  have J29 : ∀ (t29_0 : Int) (lt29_0 : 0 ≤ t29_0) (ut29_0 : t29_0 ≤ 1) (H : Heap) (locs : List Loc) (hB : q_B g K L (fun q => q ∈ L) [] f f s H locs) (ls : Array Slot) (hl : lv_has ls 2 []), W p l e { frames := 2, cells := 0, slots := 0, locals := 46 } s m ([.ref v, .int (q_i p0)] : List Value).toArray below meth c H locs 0 0 (MQ below (q_Q g K L [] f (q_Pi (fun (z : Int) (f1 : Nat → va_E) => f = f1 ∧ 0 ≤ z ∧ z ≤ 1))) ([.ref v, .int (q_i p0)] : List Value).toArray s 0 0 (fun q => q ∈ L)) (F0 m 29 ls [.int (q_i t29_0)]) := by
    intro t29_0 lt29_0 ut29_0 H locs hB ls hl
    refine q_zret cx hr hlk hB dX10_isAwake_29 (by omega) (by omega) ?_
    exact ⟨rfl, (by omega), (by omega)⟩
  have J28 : ∀  (H : Heap) (locs : List Loc) (hB : q_B g K L (fun q => q ∈ L) [] f f s H locs) (ls : Array Slot) (hl : lv_has ls 2 []), W p l e { frames := 2, cells := 0, slots := 0, locals := 46 } s m ([.ref v, .int (q_i p0)] : List Value).toArray below meth c H locs 0 0 (MQ below (q_Q g K L [] f (q_Pi (fun (z : Int) (f1 : Nat → va_E) => f = f1 ∧ 0 ≤ z ∧ z ≤ 1))) ([.ref v, .int (q_i p0)] : List Value).toArray s 0 0 (fun q => q ∈ L)) (F0 m 28 ls []) := by
    intro  H locs hB ls hl
    refine q_iconst cx dX10_isAwake_28 ?_
    exact J29 0 (by decide) (by decide) H locs hB ls (lv_sub hl [] rfl)
  obtain ⟨H, hH⟩ : ∃ H : Heap, H = s.heap := ⟨_, rfl⟩
  obtain ⟨locs, hlocs⟩ : ∃ z : List Loc, z = [] := ⟨_, rfl⟩
  rw [← hH, ← hlocs] at hB
  rw [← hH, ← hlocs]
  refine q_ald_n cx dX10_isAwake_0 rfl (lv_at hl 0 rfl) ?_
  refine q_ild_n cx dX10_isAwake_1 rfl (lv_at hl 1 rfl) ?_
  refine q_cVi (As := [.int (q_i p0)]) (rest := []) cx hB (fun _ h => h) hN hv kv (by decide) rfl (g_X10_isOut_1 l g hN hB.2.1 v hv kv p0 (by omega) (by omega)) q_cX10_160 q_dX10_isOut (by decide) rfl rfl hl.1 rfl (Nat.le_of_ble_eq_true rfl) dX10_isAwake_2 (fun y16 H locs f15 ry16 h17 hF hB => ?_)
  obtain ⟨rfl, ly16, uy16⟩ := h17
  refine q_ifne (tgt := 28) cx ⟨by omega, by omega⟩ dX10_isAwake_5 (by decide) (fun c18 => ?_) (fun c18 => ?_)
  · exact J28  H locs hB ls (lv_sub hl [] rfl)
  · refine q_ald_n cx dX10_isAwake_8 rfl (lv_at hl 0 rfl) ?_
    refine q_ild_n cx dX10_isAwake_9 rfl (lv_at hl 1 rfl) ?_
    refine q_cVl (As := [.int (q_i p0)]) (rest := []) cx hB (fun _ h => h) hN hv kv (by decide) rfl (g_X10_tableOf_1 l g hN hB.2.1 v hv kv p0 (by omega) (by omega)) q_cX10_174 q_dX10_tableOf (by decide) rfl rfl hl.1 rfl (Nat.le_of_ble_eq_true rfl) dX10_isAwake_10 (fun y20 H locs f19 h21 hF hB => ?_)
    obtain rfl := h21
    refine q_ald_n cx dX10_isAwake_13 rfl (lv_at hl 0 rfl) ?_
    refine q_ild_n cx dX10_isAwake_14 rfl (lv_at hl 1 rfl) ?_
    refine q_cVi (As := [.int (q_i p0)]) (rest := [.long y20]) cx hB (fun _ h => h) hN hv kv (by decide) rfl (g_X10_dayOf_1 l g hN hB.2.1 v hv kv p0 (by omega) (by omega)) q_cX10_178 q_dX10_dayOf (by decide) rfl rfl hl.1 rfl (Nat.le_of_ble_eq_true rfl) dX10_isAwake_15 (fun y23 H locs f22 ry23 h24 hF hB => ?_)
    obtain ⟨rfl, ly23, uy23⟩ := h24
    refine q_cSi (As := [.long y20, .int (q_i y23)]) (rest := []) cx hB (fun _ h => h) hN (g_X10_hasDay l g hN hB.2.1 y20 y23 (by omega) (by omega)) q_cX10_170 q_dX10_hasDay (by decide) rfl rfl hl.1 rfl (Nat.le_of_ble_eq_true rfl) dX10_isAwake_18 (fun y26 H locs f25 ry26 h27 hF hB => ?_)
    obtain ⟨rfl, ly26, uy26⟩ := h27
    refine q_ifeq (tgt := 28) cx ⟨by omega, by omega⟩ dX10_isAwake_21 (by decide) (fun c28 => ?_) (fun c28 => ?_)
    · exact J28  H locs hB ls (lv_sub hl [] rfl)
    · refine q_iconst cx dX10_isAwake_24 ?_
      refine lv_goto (tgt := 29) cx.1 cx.2.1 dX10_isAwake_25 (by decide) ?_
      exact J29 1 (by decide) (by decide) H locs hB ls (lv_sub hl [] rfl)
set_option maxHeartbeats 4000000 in
set_option maxRecDepth 100000 in
theorem g_X10_isAwake_2 (l : Launch) (g : q_G) {K : Nat → Nat} {L : List Nat} (hN : L.Nodup) {f : Nat → va_E} (hT : q_Ty g K L f) (v : Nat) (hv : v ∈ L) (kv : K v = 14) (p0 : Int) (lp0 : (-2147483648) ≤ p0) (up0 : p0 ≤ 2147483647) : q_Ct l g K L yX10_isAwake cX10_isAwake 2 (some .boolean) 2 46 [.ref v, .int (q_i p0)] f [] (q_Pi (fun (z : Int) (f1 : Nat → va_E) => f = f1 ∧ 0 ≤ z ∧ z ≤ 1)) := by
  refine q_ofb (by decide +kernel) hN hT (Nat.le_of_ble_eq_true rfl) ?_
  intro p e s m below meth c ls cx hr hlk hB hl
  have hl : lv_has ls 2 [(0, .ref v), (1, .int (q_i p0))] := hl
  have J29 : ∀ (t29_0 : Int) (lt29_0 : 0 ≤ t29_0) (ut29_0 : t29_0 ≤ 1) (H : Heap) (locs : List Loc) (hB : q_B g K L (fun q => q ∈ L) [] f f s H locs) (ls : Array Slot) (hl : lv_has ls 2 []), W p l e { frames := 2, cells := 0, slots := 0, locals := 46 } s m ([.ref v, .int (q_i p0)] : List Value).toArray below meth c H locs 0 0 (MQ below (q_Q g K L [] f (q_Pi (fun (z : Int) (f1 : Nat → va_E) => f = f1 ∧ 0 ≤ z ∧ z ≤ 1))) ([.ref v, .int (q_i p0)] : List Value).toArray s 0 0 (fun q => q ∈ L)) (F0 m 29 ls [.int (q_i t29_0)]) := by
    intro t29_0 lt29_0 ut29_0 H locs hB ls hl
    refine q_zret cx hr hlk hB dX10_isAwake_29 (by omega) (by omega) ?_
    exact ⟨rfl, (by omega), (by omega)⟩
  have J28 : ∀  (H : Heap) (locs : List Loc) (hB : q_B g K L (fun q => q ∈ L) [] f f s H locs) (ls : Array Slot) (hl : lv_has ls 2 []), W p l e { frames := 2, cells := 0, slots := 0, locals := 46 } s m ([.ref v, .int (q_i p0)] : List Value).toArray below meth c H locs 0 0 (MQ below (q_Q g K L [] f (q_Pi (fun (z : Int) (f1 : Nat → va_E) => f = f1 ∧ 0 ≤ z ∧ z ≤ 1))) ([.ref v, .int (q_i p0)] : List Value).toArray s 0 0 (fun q => q ∈ L)) (F0 m 28 ls []) := by
    intro  H locs hB ls hl
    refine q_iconst cx dX10_isAwake_28 ?_
    exact J29 0 (by decide) (by decide) H locs hB ls (lv_sub hl [] rfl)
  obtain ⟨H, hH⟩ : ∃ H : Heap, H = s.heap := ⟨_, rfl⟩
  obtain ⟨locs, hlocs⟩ : ∃ z : List Loc, z = [] := ⟨_, rfl⟩
  rw [← hH, ← hlocs] at hB
  rw [← hH, ← hlocs]
  refine q_ald_n cx dX10_isAwake_0 rfl (lv_at hl 0 rfl) ?_
  refine q_ild_n cx dX10_isAwake_1 rfl (lv_at hl 1 rfl) ?_
  refine q_cVi (As := [.int (q_i p0)]) (rest := []) cx hB (fun _ h => h) hN hv kv (by decide) rfl (g_X10_isOut_2 l g hN hB.2.1 v hv kv p0 (by omega) (by omega)) q_cX10_160 q_dX10_isOut (by decide) rfl rfl hl.1 rfl (Nat.le_of_ble_eq_true rfl) dX10_isAwake_2 (fun y16 H locs f15 ry16 h17 hF hB => ?_)
  obtain ⟨rfl, ly16, uy16⟩ := h17
  refine q_ifne (tgt := 28) cx ⟨by omega, by omega⟩ dX10_isAwake_5 (by decide) (fun c18 => ?_) (fun c18 => ?_)
  · exact J28  H locs hB ls (lv_sub hl [] rfl)
  · refine q_ald_n cx dX10_isAwake_8 rfl (lv_at hl 0 rfl) ?_
    refine q_ild_n cx dX10_isAwake_9 rfl (lv_at hl 1 rfl) ?_
    refine q_cVl (As := [.int (q_i p0)]) (rest := []) cx hB (fun _ h => h) hN hv kv (by decide) rfl (g_X10_tableOf_2 l g hN hB.2.1 v hv kv p0 (by omega) (by omega)) q_cX10_174 q_dX10_tableOf (by decide) rfl rfl hl.1 rfl (Nat.le_of_ble_eq_true rfl) dX10_isAwake_10 (fun y20 H locs f19 h21 hF hB => ?_)
    obtain rfl := h21
    refine q_ald_n cx dX10_isAwake_13 rfl (lv_at hl 0 rfl) ?_
    refine q_ild_n cx dX10_isAwake_14 rfl (lv_at hl 1 rfl) ?_
    refine q_cVi (As := [.int (q_i p0)]) (rest := [.long y20]) cx hB (fun _ h => h) hN hv kv (by decide) rfl (g_X10_dayOf_2 l g hN hB.2.1 v hv kv p0 (by omega) (by omega)) q_cX10_178 q_dX10_dayOf (by decide) rfl rfl hl.1 rfl (Nat.le_of_ble_eq_true rfl) dX10_isAwake_15 (fun y23 H locs f22 ry23 h24 hF hB => ?_)
    obtain ⟨rfl, ly23, uy23⟩ := h24
    refine q_cSi (As := [.long y20, .int (q_i y23)]) (rest := []) cx hB (fun _ h => h) hN (g_X10_hasDay l g hN hB.2.1 y20 y23 (by omega) (by omega)) q_cX10_170 q_dX10_hasDay (by decide) rfl rfl hl.1 rfl (Nat.le_of_ble_eq_true rfl) dX10_isAwake_18 (fun y26 H locs f25 ry26 h27 hF hB => ?_)
    obtain ⟨rfl, ly26, uy26⟩ := h27
    refine q_ifeq (tgt := 28) cx ⟨by omega, by omega⟩ dX10_isAwake_21 (by decide) (fun c28 => ?_) (fun c28 => ?_)
    · exact J28  H locs hB ls (lv_sub hl [] rfl)
    · refine q_iconst cx dX10_isAwake_24 ?_
      refine lv_goto (tgt := 29) cx.1 cx.2.1 dX10_isAwake_25 (by decide) ?_
      exact J29 1 (by decide) (by decide) H locs hB ls (lv_sub hl [] rfl)
set_option maxHeartbeats 4000000 in
set_option maxRecDepth 100000 in
theorem g_X10_isAwake_3 (l : Launch) (g : q_G) {K : Nat → Nat} {L : List Nat} (hN : L.Nodup) {f : Nat → va_E} (hT : q_Ty g K L f) (v : Nat) (hv : v ∈ L) (kv : K v = 15) (p0 : Int) (lp0 : (-2147483648) ≤ p0) (up0 : p0 ≤ 2147483647) : q_Ct l g K L yX10_isAwake cX10_isAwake 2 (some .boolean) 2 46 [.ref v, .int (q_i p0)] f [] (q_Pi (fun (z : Int) (f1 : Nat → va_E) => f = f1 ∧ 0 ≤ z ∧ z ≤ 1)) := by
  refine q_ofb (by decide +kernel) hN hT (Nat.le_of_ble_eq_true rfl) ?_
  intro p e s m below meth c ls cx hr hlk hB hl
  have hl : lv_has ls 2 [(0, .ref v), (1, .int (q_i p0))] := hl
  have J29 : ∀ (t29_0 : Int) (lt29_0 : 0 ≤ t29_0) (ut29_0 : t29_0 ≤ 1) (H : Heap) (locs : List Loc) (hB : q_B g K L (fun q => q ∈ L) [] f f s H locs) (ls : Array Slot) (hl : lv_has ls 2 []), W p l e { frames := 2, cells := 0, slots := 0, locals := 46 } s m ([.ref v, .int (q_i p0)] : List Value).toArray below meth c H locs 0 0 (MQ below (q_Q g K L [] f (q_Pi (fun (z : Int) (f1 : Nat → va_E) => f = f1 ∧ 0 ≤ z ∧ z ≤ 1))) ([.ref v, .int (q_i p0)] : List Value).toArray s 0 0 (fun q => q ∈ L)) (F0 m 29 ls [.int (q_i t29_0)]) := by
    intro t29_0 lt29_0 ut29_0 H locs hB ls hl
    refine q_zret cx hr hlk hB dX10_isAwake_29 (by omega) (by omega) ?_
    exact ⟨rfl, (by omega), (by omega)⟩
  have J28 : ∀  (H : Heap) (locs : List Loc) (hB : q_B g K L (fun q => q ∈ L) [] f f s H locs) (ls : Array Slot) (hl : lv_has ls 2 []), W p l e { frames := 2, cells := 0, slots := 0, locals := 46 } s m ([.ref v, .int (q_i p0)] : List Value).toArray below meth c H locs 0 0 (MQ below (q_Q g K L [] f (q_Pi (fun (z : Int) (f1 : Nat → va_E) => f = f1 ∧ 0 ≤ z ∧ z ≤ 1))) ([.ref v, .int (q_i p0)] : List Value).toArray s 0 0 (fun q => q ∈ L)) (F0 m 28 ls []) := by
    intro  H locs hB ls hl
    refine q_iconst cx dX10_isAwake_28 ?_
    exact J29 0 (by decide) (by decide) H locs hB ls (lv_sub hl [] rfl)
  obtain ⟨H, hH⟩ : ∃ H : Heap, H = s.heap := ⟨_, rfl⟩
  obtain ⟨locs, hlocs⟩ : ∃ z : List Loc, z = [] := ⟨_, rfl⟩
  rw [← hH, ← hlocs] at hB
  rw [← hH, ← hlocs]
  refine q_ald_n cx dX10_isAwake_0 rfl (lv_at hl 0 rfl) ?_
  refine q_ild_n cx dX10_isAwake_1 rfl (lv_at hl 1 rfl) ?_
  refine q_cVi (As := [.int (q_i p0)]) (rest := []) cx hB (fun _ h => h) hN hv kv (by decide) rfl (g_X10_isOut_3 l g hN hB.2.1 v hv kv p0 (by omega) (by omega)) q_cX10_160 q_dX10_isOut (by decide) rfl rfl hl.1 rfl (Nat.le_of_ble_eq_true rfl) dX10_isAwake_2 (fun y16 H locs f15 ry16 h17 hF hB => ?_)
  obtain ⟨rfl, ly16, uy16⟩ := h17
  refine q_ifne (tgt := 28) cx ⟨by omega, by omega⟩ dX10_isAwake_5 (by decide) (fun c18 => ?_) (fun c18 => ?_)
  · exact J28  H locs hB ls (lv_sub hl [] rfl)
  · refine q_ald_n cx dX10_isAwake_8 rfl (lv_at hl 0 rfl) ?_
    refine q_ild_n cx dX10_isAwake_9 rfl (lv_at hl 1 rfl) ?_
    refine q_cVl (As := [.int (q_i p0)]) (rest := []) cx hB (fun _ h => h) hN hv kv (by decide) rfl (g_X10_tableOf_3 l g hN hB.2.1 v hv kv p0 (by omega) (by omega)) q_cX10_174 q_dX10_tableOf (by decide) rfl rfl hl.1 rfl (Nat.le_of_ble_eq_true rfl) dX10_isAwake_10 (fun y20 H locs f19 h21 hF hB => ?_)
    obtain rfl := h21
    refine q_ald_n cx dX10_isAwake_13 rfl (lv_at hl 0 rfl) ?_
    refine q_ild_n cx dX10_isAwake_14 rfl (lv_at hl 1 rfl) ?_
    refine q_cVi (As := [.int (q_i p0)]) (rest := [.long y20]) cx hB (fun _ h => h) hN hv kv (by decide) rfl (g_X10_dayOf_3 l g hN hB.2.1 v hv kv p0 (by omega) (by omega)) q_cX10_178 q_dX10_dayOf (by decide) rfl rfl hl.1 rfl (Nat.le_of_ble_eq_true rfl) dX10_isAwake_15 (fun y23 H locs f22 ry23 h24 hF hB => ?_)
    obtain ⟨rfl, ly23, uy23⟩ := h24
    refine q_cSi (As := [.long y20, .int (q_i y23)]) (rest := []) cx hB (fun _ h => h) hN (g_X10_hasDay l g hN hB.2.1 y20 y23 (by omega) (by omega)) q_cX10_170 q_dX10_hasDay (by decide) rfl rfl hl.1 rfl (Nat.le_of_ble_eq_true rfl) dX10_isAwake_18 (fun y26 H locs f25 ry26 h27 hF hB => ?_)
    obtain ⟨rfl, ly26, uy26⟩ := h27
    refine q_ifeq (tgt := 28) cx ⟨by omega, by omega⟩ dX10_isAwake_21 (by decide) (fun c28 => ?_) (fun c28 => ?_)
    · exact J28  H locs hB ls (lv_sub hl [] rfl)
    · refine q_iconst cx dX10_isAwake_24 ?_
      refine lv_goto (tgt := 29) cx.1 cx.2.1 dX10_isAwake_25 (by decide) ?_
      exact J29 1 (by decide) (by decide) H locs hB ls (lv_sub hl [] rfl)
set_option maxHeartbeats 4000000 in
set_option maxRecDepth 100000 in
theorem g_X10_isAwake_4 (l : Launch) (g : q_G) {K : Nat → Nat} {L : List Nat} (hN : L.Nodup) {f : Nat → va_E} (hT : q_Ty g K L f) (v : Nat) (hv : v ∈ L) (kv : K v = 16) (p0 : Int) (lp0 : (-2147483648) ≤ p0) (up0 : p0 ≤ 2147483647) : q_Ct l g K L yX10_isAwake cX10_isAwake 2 (some .boolean) 2 46 [.ref v, .int (q_i p0)] f [] (q_Pi (fun (z : Int) (f1 : Nat → va_E) => f = f1 ∧ 0 ≤ z ∧ z ≤ 1)) := by
  refine q_ofb (by decide +kernel) hN hT (Nat.le_of_ble_eq_true rfl) ?_
  intro p e s m below meth c ls cx hr hlk hB hl
  have hl : lv_has ls 2 [(0, .ref v), (1, .int (q_i p0))] := hl
  have J29 : ∀ (t29_0 : Int) (lt29_0 : 0 ≤ t29_0) (ut29_0 : t29_0 ≤ 1) (H : Heap) (locs : List Loc) (hB : q_B g K L (fun q => q ∈ L) [] f f s H locs) (ls : Array Slot) (hl : lv_has ls 2 []), W p l e { frames := 2, cells := 0, slots := 0, locals := 46 } s m ([.ref v, .int (q_i p0)] : List Value).toArray below meth c H locs 0 0 (MQ below (q_Q g K L [] f (q_Pi (fun (z : Int) (f1 : Nat → va_E) => f = f1 ∧ 0 ≤ z ∧ z ≤ 1))) ([.ref v, .int (q_i p0)] : List Value).toArray s 0 0 (fun q => q ∈ L)) (F0 m 29 ls [.int (q_i t29_0)]) := by
    intro t29_0 lt29_0 ut29_0 H locs hB ls hl
    refine q_zret cx hr hlk hB dX10_isAwake_29 (by omega) (by omega) ?_
    exact ⟨rfl, (by omega), (by omega)⟩
  have J28 : ∀  (H : Heap) (locs : List Loc) (hB : q_B g K L (fun q => q ∈ L) [] f f s H locs) (ls : Array Slot) (hl : lv_has ls 2 []), W p l e { frames := 2, cells := 0, slots := 0, locals := 46 } s m ([.ref v, .int (q_i p0)] : List Value).toArray below meth c H locs 0 0 (MQ below (q_Q g K L [] f (q_Pi (fun (z : Int) (f1 : Nat → va_E) => f = f1 ∧ 0 ≤ z ∧ z ≤ 1))) ([.ref v, .int (q_i p0)] : List Value).toArray s 0 0 (fun q => q ∈ L)) (F0 m 28 ls []) := by
    intro  H locs hB ls hl
    refine q_iconst cx dX10_isAwake_28 ?_
    exact J29 0 (by decide) (by decide) H locs hB ls (lv_sub hl [] rfl)
  obtain ⟨H, hH⟩ : ∃ H : Heap, H = s.heap := ⟨_, rfl⟩
  obtain ⟨locs, hlocs⟩ : ∃ z : List Loc, z = [] := ⟨_, rfl⟩
  rw [← hH, ← hlocs] at hB
  rw [← hH, ← hlocs]
  refine q_ald_n cx dX10_isAwake_0 rfl (lv_at hl 0 rfl) ?_
  refine q_ild_n cx dX10_isAwake_1 rfl (lv_at hl 1 rfl) ?_
  refine q_cVi (As := [.int (q_i p0)]) (rest := []) cx hB (fun _ h => h) hN hv kv (by decide) rfl (g_X10_isOut_4 l g hN hB.2.1 v hv kv p0 (by omega) (by omega)) q_cX10_160 q_dX10_isOut (by decide) rfl rfl hl.1 rfl (Nat.le_of_ble_eq_true rfl) dX10_isAwake_2 (fun y16 H locs f15 ry16 h17 hF hB => ?_)
  obtain ⟨rfl, ly16, uy16⟩ := h17
  refine q_ifne (tgt := 28) cx ⟨by omega, by omega⟩ dX10_isAwake_5 (by decide) (fun c18 => ?_) (fun c18 => ?_)
  · exact J28  H locs hB ls (lv_sub hl [] rfl)
  · refine q_ald_n cx dX10_isAwake_8 rfl (lv_at hl 0 rfl) ?_
    refine q_ild_n cx dX10_isAwake_9 rfl (lv_at hl 1 rfl) ?_
    refine q_cVl (As := [.int (q_i p0)]) (rest := []) cx hB (fun _ h => h) hN hv kv (by decide) rfl (g_X10_tableOf_4 l g hN hB.2.1 v hv kv p0 (by omega) (by omega)) q_cX10_174 q_dX10_tableOf (by decide) rfl rfl hl.1 rfl (Nat.le_of_ble_eq_true rfl) dX10_isAwake_10 (fun y20 H locs f19 h21 hF hB => ?_)
    obtain rfl := h21
    refine q_ald_n cx dX10_isAwake_13 rfl (lv_at hl 0 rfl) ?_
    refine q_ild_n cx dX10_isAwake_14 rfl (lv_at hl 1 rfl) ?_
    refine q_cVi (As := [.int (q_i p0)]) (rest := [.long y20]) cx hB (fun _ h => h) hN hv kv (by decide) rfl (g_X10_dayOf_4 l g hN hB.2.1 v hv kv p0 (by omega) (by omega)) q_cX10_178 q_dX10_dayOf (by decide) rfl rfl hl.1 rfl (Nat.le_of_ble_eq_true rfl) dX10_isAwake_15 (fun y23 H locs f22 ry23 h24 hF hB => ?_)
    obtain ⟨rfl, ly23, uy23⟩ := h24
    refine q_cSi (As := [.long y20, .int (q_i y23)]) (rest := []) cx hB (fun _ h => h) hN (g_X10_hasDay l g hN hB.2.1 y20 y23 (by omega) (by omega)) q_cX10_170 q_dX10_hasDay (by decide) rfl rfl hl.1 rfl (Nat.le_of_ble_eq_true rfl) dX10_isAwake_18 (fun y26 H locs f25 ry26 h27 hF hB => ?_)
    obtain ⟨rfl, ly26, uy26⟩ := h27
    refine q_ifeq (tgt := 28) cx ⟨by omega, by omega⟩ dX10_isAwake_21 (by decide) (fun c28 => ?_) (fun c28 => ?_)
    · exact J28  H locs hB ls (lv_sub hl [] rfl)
    · refine q_iconst cx dX10_isAwake_24 ?_
      refine lv_goto (tgt := 29) cx.1 cx.2.1 dX10_isAwake_25 (by decide) ?_
      exact J29 1 (by decide) (by decide) H locs hB ls (lv_sub hl [] rfl)
set_option maxHeartbeats 4000000 in
set_option maxRecDepth 100000 in
theorem g_X10_wakeNodes (l : Launch) (g : q_G) {K : Nat → Nat} {L : List Nat} (hN : L.Nodup) {f : Nat → va_E} (hT : q_Ty g K L f) (v : Nat) (hv : v ∈ L) (kv : K v = 10) : q_Ct l g K L yX10_wakeNodes cX10_wakeNodes 3 none 3 67 [.ref v] f [(5, 4, 4), (5, 6, 6), (5, 9, 9), (10, 13, 13)] (q_Pv (fun (f1 : Nat → va_E) => True)) := by
  refine q_ofb (by decide +kernel) hN hT (Nat.le_of_ble_eq_true rfl) ?_
  intro p e s m below meth c ls cx hr hlk hB hl
  have hl : lv_has ls 3 [(0, .ref v)] := hl
  have J7 : ∀ (n : Nat) (f7 : Nat → va_E) (v7_1 : Int) (lv7_1 : 0 ≤ v7_1) (uv7_1 : v7_1 ≤ 10) (hmu : (Int.toNat (2147483647 - v7_1)) < n) (H : Heap) (locs : List Loc) (hB : q_B g K L (fun q => q ∈ L) [(5, 4, 4), (5, 6, 6), (5, 9, 9), (10, 13, 13)] f f7 s H locs) (ls : Array Slot) (hl : lv_has ls 3 [(0, .ref v), (1, .int (q_i v7_1))]), W p l e { frames := 3, cells := 0, slots := 0, locals := 67 } s m ([.ref v] : List Value).toArray below meth c H locs 0 0 (MQ below (q_Q g K L [(5, 4, 4), (5, 6, 6), (5, 9, 9), (10, 13, 13)] f (q_Pv (fun (f1 : Nat → va_E) => True))) ([.ref v] : List Value).toArray s 0 0 (fun q => q ∈ L)) (F0 m 7 ls []) := by
    intro n
    induction n with
    | zero =>
      intro f7 v7_1 lv7_1 uv7_1 hmu
      exact absurd hmu (Nat.not_lt_zero _)
    | succ n ih7 =>
      intro f7 v7_1 lv7_1 uv7_1 hmu H locs hB ls hl
      have J84 : ∀ (f84 : Nat → va_E) (buv7_1 : v7_1 ≤ 9) (H : Heap) (locs : List Loc) (hB : q_B g K L (fun q => q ∈ L) [(5, 4, 4), (5, 6, 6), (5, 9, 9), (10, 13, 13)] f f84 s H locs) (ls : Array Slot) (hl : lv_has ls 3 [(0, .ref v), (1, .int (q_i v7_1))]), W p l e { frames := 3, cells := 0, slots := 0, locals := 67 } s m ([.ref v] : List Value).toArray below meth c H locs 0 0 (MQ below (q_Q g K L [(5, 4, 4), (5, 6, 6), (5, 9, 9), (10, 13, 13)] f (q_Pv (fun (f1 : Nat → va_E) => True))) ([.ref v] : List Value).toArray s 0 0 (fun q => q ∈ L)) (F0 m 84 ls []) := by
        intro f84 buv7_1 H locs hB ls hl
        refine q_iinc (lv' := [(1, .int (q_i (v7_1 + 1))), (0, .ref v)]) cx dX10_wakeNodes_84 hl (k := 1) rfl (by decide) rfl (fun ls hl => ?_)
        refine lv_goto (tgt := 7) cx.1 cx.2.1 dX10_wakeNodes_87 (by decide) ?_
        exact ih7 f84 (v7_1 + 1) (by omega) (by omega) (by omega) H locs hB ls (lv_sub hl [1, 0] rfl)
      refine q_ild_n cx dX10_wakeNodes_7 rfl (lv_at hl 1 rfl) ?_
      refine q_ald_n cx dX10_wakeNodes_8 rfl (lv_at hl 0 rfl) ?_
      obtain ⟨x363, ex363⟩ : ∃ zz, q_is (q_z f7 v 3) zz := ⟨_, q_isr _⟩
      refine q_gX10_35 cx hB hv kv ex363 dX10_wakeNodes_9 (fun lb364 ub364 => ?_)
      refine q_icge (tgt := 90) cx ⟨by omega, by omega⟩ ⟨by omega, by omega⟩ dX10_wakeNodes_12 (by decide) (fun c365 => ?_) (fun c365 => ?_)
      · refine q_vret cx hr hlk hB dX10_wakeNodes_90 ?_
        trivial
      · refine q_ald_n cx dX10_wakeNodes_15 rfl (lv_at hl 0 rfl) ?_
        refine q_ild_n cx dX10_wakeNodes_16 rfl (lv_at hl 1 rfl) ?_
        refine q_cVr (As := [.int (q_i v7_1)]) (rest := []) cx hB (fun _ h => h) hN hv kv (by decide) rfl (g_X10_nodeAt l g hN hB.2.1 v hv kv v7_1 (by omega) (by omega)) q_cX10_66 q_dX10_nodeAt (by decide) rfl rfl hl.1 rfl (Nat.le_of_ble_eq_true rfl) dX10_wakeNodes_17 (fun y367 H locs f366 h368 hF hB => ?_)
        obtain ⟨rfl, hy367, ky367⟩ := h368
        refine lv_astore_n (lv' := [(2, .ref y367), (0, .ref v), (1, .int (q_i v7_1))]) cx.1 cx.2.1 dX10_wakeNodes_20 rfl hl (by decide) rfl (fun ls hl => ?_)
        refine q_ald_n cx dX10_wakeNodes_21 rfl (lv_at hl 0 rfl) ?_
        refine q_ald_n cx dX10_wakeNodes_22 rfl (lv_at hl 1 rfl) ?_
        refine q_ild_n cx dX10_wakeNodes_23 rfl (lv_at hl 2 rfl) ?_
        refine q_cVi (As := [.int (q_i v7_1)]) (rest := [.ref y367]) cx hB (fun _ h => h) hN hv kv (by decide) rfl (g_X10_dayOf l g hN hB.2.1 v hv kv v7_1 (by omega) (by omega)) q_cX10_178 q_dX10_dayOf (by decide) rfl rfl hl.1 rfl (Nat.le_of_ble_eq_true rfl) dX10_wakeNodes_24 (fun y370 H locs f369 ry370 h371 hF hB => ?_)
        obtain ⟨rfl, ly370, uy370⟩ := h371
        refine q_pX10_265 cx hB hy367 ky367 ⟨by omega, by omega⟩ (by omega) (by omega) rfl dX10_wakeNodes_27 (fun H locs f372 ef372 z373 hB => ?_)
        refine q_ald_n cx dX10_wakeNodes_30 rfl (lv_at hl 1 rfl) ?_
        refine q_ild_n cx dX10_wakeNodes_31 rfl (lv_at hl 2 rfl) ?_
        refine q_cVi (As := [.int (q_i v7_1)]) (rest := []) cx hB (fun _ h => h) hN hv kv (by decide) rfl (g_X10_isAwake l g hN hB.2.1 v hv kv v7_1 (by omega) (by omega)) q_cX10_203 q_dX10_isAwake (by decide) rfl rfl hl.1 rfl (Nat.le_of_ble_eq_true rfl) dX10_wakeNodes_32 (fun y375 H locs f374 ry375 h376 hF hB => ?_)
        obtain ⟨rfl, ly375, uy375⟩ := h376
        refine q_ifeq (tgt := 84) cx ⟨by omega, by omega⟩ dX10_wakeNodes_35 (by decide) (fun c377 => ?_) (fun c377 => ?_)
        · exact J84 f372 (by omega) H locs hB ls (lv_sub hl [1, 2] rfl)
        · refine q_ald_n cx dX10_wakeNodes_38 rfl (lv_at hl 0 rfl) ?_
          refine q_iconst cx dX10_wakeNodes_39 ?_
          refine q_ald_n cx dX10_wakeNodes_40 rfl (lv_at hl 0 rfl) ?_
          obtain ⟨x378, ex378⟩ : ∃ zz, q_is (q_z f372 y367 4) zz := ⟨_, q_isr _⟩
          refine q_gX10_101 cx hB hy367 ky367 ex378 dX10_wakeNodes_41 (fun lb379 ub379 => ?_)
          refine q_ald_n cx dX10_wakeNodes_44 rfl (lv_at hl 1 rfl) ?_
          obtain ⟨x380, ex380⟩ : ∃ zz, q_is (q_z f372 v 7) zz := ⟨_, q_isr _⟩
          refine q_gX10_48 cx hB hv kv ex380 dX10_wakeNodes_45 (fun lb381 ub381 => ?_)
          refine q_isub cx dX10_wakeNodes_48 ?_
          refine q_any (fun y382 ry382 ey382 => ?_)
          refine q_mmax (rest := [.ref y367]) cx hl.1 q_h658 q_h659 q_h157 q_h660 (by decide) (Nat.le_of_ble_eq_true rfl) (by decide) (by decide) ⟨by decide, by decide⟩ ⟨by omega, by omega⟩ dX10_wakeNodes_49 (fun y383 ay383 by383 ey383 => ?_)
          refine q_pX10_101 cx hB hy367 ky367 ⟨by omega, by omega⟩ (by omega) (by omega) rfl dX10_wakeNodes_52 (fun H locs f384 ef384 z385 hB => ?_)
          refine q_ald_n cx dX10_wakeNodes_55 rfl (lv_at hl 0 rfl) ?_
          refine q_gX10_101 cx hB hy367 ky367 z385 dX10_wakeNodes_56 (fun lb386 ub386 => ?_)
          refine q_ifle (tgt := 84) cx ⟨by omega, by omega⟩ dX10_wakeNodes_59 (by decide) (fun c387 => ?_) (fun c387 => ?_)
          · exact J84 f384 (by omega) H locs hB ls (lv_sub hl [1, 2] rfl)
          · refine q_ald_n cx dX10_wakeNodes_62 rfl (lv_at hl 1 rfl) ?_
            refine lv_dup cx.1 cx.2.1 dX10_wakeNodes_63 rfl ?_
            obtain ⟨x388, ex388⟩ : ∃ zz, q_is (q_z f384 v 13) zz := ⟨_, q_isr _⟩
            refine q_gX10_262 cx hB hv kv ex388 dX10_wakeNodes_64 (fun lb389 ub389 => ?_)
            refine q_iconst cx dX10_wakeNodes_67 ?_
            refine q_ild_n cx dX10_wakeNodes_68 rfl (lv_at hl 2 rfl) ?_
            refine q_ishl cx dX10_wakeNodes_69 (fun y390 ry390 ey390 => ?_)
            refine q_ior cx dX10_wakeNodes_70 (fun y391 ry391 ey391 => ?_)
            refine q_pX10_262 cx hB hv kv ⟨by omega, by omega⟩ (by omega) (by omega) rfl dX10_wakeNodes_71 (fun H locs f392 ef392 z393 hB => ?_)
            refine q_ald_n cx dX10_wakeNodes_74 rfl (lv_at hl 0 rfl) ?_
            refine lv_dup cx.1 cx.2.1 dX10_wakeNodes_75 rfl ?_
            obtain ⟨x394, ex394⟩ : ∃ zz, q_is (q_z f392 y367 6) zz := ⟨_, q_isr _⟩
            refine q_gX10_107 cx hB hy367 ky367 ex394 dX10_wakeNodes_76 (fun lb395 ub395 => ?_)
            refine q_iconst cx dX10_wakeNodes_79 ?_
            refine q_iadd cx dX10_wakeNodes_80 ?_
            refine q_any (fun y396 ry396 ey396 => ?_)
            refine q_pX10_107 cx hB hy367 ky367 ⟨by omega, by omega⟩ (by omega) (by omega) rfl dX10_wakeNodes_81 (fun H locs f397 ef397 z398 hB => ?_)
            exact J84 f397 (by omega) H locs hB ls (lv_sub hl [1, 2] rfl)
  obtain ⟨H, hH⟩ : ∃ H : Heap, H = s.heap := ⟨_, rfl⟩
  obtain ⟨locs, hlocs⟩ : ∃ z : List Loc, z = [] := ⟨_, rfl⟩
  rw [← hH, ← hlocs] at hB
  rw [← hH, ← hlocs]
  refine q_ald_n cx dX10_wakeNodes_0 rfl (lv_at hl 0 rfl) ?_
  refine q_iconst cx dX10_wakeNodes_1 ?_
  refine q_pX10_262 cx hB hv kv ⟨by decide, by decide⟩ (by decide) (by decide) rfl dX10_wakeNodes_2 (fun H locs f399 ef399 z400 hB => ?_)
  refine q_iconst cx dX10_wakeNodes_5 ?_
  refine lv_istore_n (lv' := [(1, .int (q_i 0)), (0, .ref v)]) cx.1 cx.2.1 dX10_wakeNodes_6 rfl hl (by decide) rfl (fun ls hl => ?_)
  exact J7 ((Int.toNat (2147483647 - 0)) + 1) f399 0 (by decide) (by decide) (Nat.lt_succ_self _) H locs hB ls (lv_sub hl [1, 0] rfl)
set_option maxHeartbeats 4000000 in
set_option maxRecDepth 100000 in
theorem g_X10_wakeNodes_1 (l : Launch) (g : q_G) {K : Nat → Nat} {L : List Nat} (hN : L.Nodup) {f : Nat → va_E} (hT : q_Ty g K L f) (v : Nat) (hv : v ∈ L) (kv : K v = 13) : q_Ct l g K L yX10_wakeNodes cX10_wakeNodes 3 none 3 67 [.ref v] f [(13, 13, 13), (17, 4, 4), (17, 6, 6), (17, 9, 9)] (q_Pv (fun (f1 : Nat → va_E) => True)) := by
  refine q_ofb (by decide +kernel) hN hT (Nat.le_of_ble_eq_true rfl) ?_
  intro p e s m below meth c ls cx hr hlk hB hl
  have hl : lv_has ls 3 [(0, .ref v)] := hl
  have J7 : ∀ (n : Nat) (f7 : Nat → va_E) (v7_1 : Int) (lv7_1 : 0 ≤ v7_1) (uv7_1 : v7_1 ≤ 10) (hmu : (Int.toNat (2147483647 - v7_1)) < n) (H : Heap) (locs : List Loc) (hB : q_B g K L (fun q => q ∈ L) [(13, 13, 13), (17, 4, 4), (17, 6, 6), (17, 9, 9)] f f7 s H locs) (ls : Array Slot) (hl : lv_has ls 3 [(0, .ref v), (1, .int (q_i v7_1))]), W p l e { frames := 3, cells := 0, slots := 0, locals := 67 } s m ([.ref v] : List Value).toArray below meth c H locs 0 0 (MQ below (q_Q g K L [(13, 13, 13), (17, 4, 4), (17, 6, 6), (17, 9, 9)] f (q_Pv (fun (f1 : Nat → va_E) => True))) ([.ref v] : List Value).toArray s 0 0 (fun q => q ∈ L)) (F0 m 7 ls []) := by
    intro n
    induction n with
    | zero =>
      intro f7 v7_1 lv7_1 uv7_1 hmu
      exact absurd hmu (Nat.not_lt_zero _)
    | succ n ih7 =>
      intro f7 v7_1 lv7_1 uv7_1 hmu H locs hB ls hl
      have J84 : ∀ (f84 : Nat → va_E) (buv7_1 : v7_1 ≤ 9) (H : Heap) (locs : List Loc) (hB : q_B g K L (fun q => q ∈ L) [(13, 13, 13), (17, 4, 4), (17, 6, 6), (17, 9, 9)] f f84 s H locs) (ls : Array Slot) (hl : lv_has ls 3 [(0, .ref v), (1, .int (q_i v7_1))]), W p l e { frames := 3, cells := 0, slots := 0, locals := 67 } s m ([.ref v] : List Value).toArray below meth c H locs 0 0 (MQ below (q_Q g K L [(13, 13, 13), (17, 4, 4), (17, 6, 6), (17, 9, 9)] f (q_Pv (fun (f1 : Nat → va_E) => True))) ([.ref v] : List Value).toArray s 0 0 (fun q => q ∈ L)) (F0 m 84 ls []) := by
        intro f84 buv7_1 H locs hB ls hl
        refine q_iinc (lv' := [(1, .int (q_i (v7_1 + 1))), (0, .ref v)]) cx dX10_wakeNodes_84 hl (k := 1) rfl (by decide) rfl (fun ls hl => ?_)
        refine lv_goto (tgt := 7) cx.1 cx.2.1 dX10_wakeNodes_87 (by decide) ?_
        exact ih7 f84 (v7_1 + 1) (by omega) (by omega) (by omega) H locs hB ls (lv_sub hl [1, 0] rfl)
      refine q_ild_n cx dX10_wakeNodes_7 rfl (lv_at hl 1 rfl) ?_
      refine q_ald_n cx dX10_wakeNodes_8 rfl (lv_at hl 0 rfl) ?_
      obtain ⟨x363, ex363⟩ : ∃ zz, q_is (q_z f7 v 3) zz := ⟨_, q_isr _⟩
      refine q_gX10_35_13 cx hB hv kv ex363 dX10_wakeNodes_9 (fun lb364 ub364 => ?_)
      refine q_icge (tgt := 90) cx ⟨by omega, by omega⟩ ⟨by omega, by omega⟩ dX10_wakeNodes_12 (by decide) (fun c365 => ?_) (fun c365 => ?_)
      · refine q_vret cx hr hlk hB dX10_wakeNodes_90 ?_
        trivial
      · refine q_ald_n cx dX10_wakeNodes_15 rfl (lv_at hl 0 rfl) ?_
        refine q_ild_n cx dX10_wakeNodes_16 rfl (lv_at hl 1 rfl) ?_
        refine q_cVr (As := [.int (q_i v7_1)]) (rest := []) cx hB (fun _ h => h) hN hv kv (by decide) rfl (g_X10_nodeAt_1 l g hN hB.2.1 v hv kv v7_1 (by omega) (by omega)) q_cX10_66 q_dX10_nodeAt (by decide) rfl rfl hl.1 rfl (Nat.le_of_ble_eq_true rfl) dX10_wakeNodes_17 (fun y367 H locs f366 h368 hF hB => ?_)
        obtain ⟨rfl, hy367, ky367⟩ := h368
        refine lv_astore_n (lv' := [(2, .ref y367), (0, .ref v), (1, .int (q_i v7_1))]) cx.1 cx.2.1 dX10_wakeNodes_20 rfl hl (by decide) rfl (fun ls hl => ?_)
        refine q_ald_n cx dX10_wakeNodes_21 rfl (lv_at hl 0 rfl) ?_
        refine q_ald_n cx dX10_wakeNodes_22 rfl (lv_at hl 1 rfl) ?_
        refine q_ild_n cx dX10_wakeNodes_23 rfl (lv_at hl 2 rfl) ?_
        refine q_cVi (As := [.int (q_i v7_1)]) (rest := [.ref y367]) cx hB (fun _ h => h) hN hv kv (by decide) rfl (g_X10_dayOf_1 l g hN hB.2.1 v hv kv v7_1 (by omega) (by omega)) q_cX10_178 q_dX10_dayOf (by decide) rfl rfl hl.1 rfl (Nat.le_of_ble_eq_true rfl) dX10_wakeNodes_24 (fun y370 H locs f369 ry370 h371 hF hB => ?_)
        obtain ⟨rfl, ly370, uy370⟩ := h371
        refine q_pX10_265_17 cx hB hy367 ky367 ⟨by omega, by omega⟩ (by omega) (by omega) rfl dX10_wakeNodes_27 (fun H locs f372 ef372 z373 hB => ?_)
        refine q_ald_n cx dX10_wakeNodes_30 rfl (lv_at hl 1 rfl) ?_
        refine q_ild_n cx dX10_wakeNodes_31 rfl (lv_at hl 2 rfl) ?_
        refine q_cVi (As := [.int (q_i v7_1)]) (rest := []) cx hB (fun _ h => h) hN hv kv (by decide) rfl (g_X10_isAwake_1 l g hN hB.2.1 v hv kv v7_1 (by omega) (by omega)) q_cX10_203 q_dX10_isAwake (by decide) rfl rfl hl.1 rfl (Nat.le_of_ble_eq_true rfl) dX10_wakeNodes_32 (fun y375 H locs f374 ry375 h376 hF hB => ?_)
        obtain ⟨rfl, ly375, uy375⟩ := h376
        refine q_ifeq (tgt := 84) cx ⟨by omega, by omega⟩ dX10_wakeNodes_35 (by decide) (fun c377 => ?_) (fun c377 => ?_)
        · exact J84 f372 (by omega) H locs hB ls (lv_sub hl [1, 2] rfl)
        · refine q_ald_n cx dX10_wakeNodes_38 rfl (lv_at hl 0 rfl) ?_
          refine q_iconst cx dX10_wakeNodes_39 ?_
          refine q_ald_n cx dX10_wakeNodes_40 rfl (lv_at hl 0 rfl) ?_
          obtain ⟨x378, ex378⟩ : ∃ zz, q_is (q_z f372 y367 4) zz := ⟨_, q_isr _⟩
          refine q_gX10_101_17 cx hB hy367 ky367 ex378 dX10_wakeNodes_41 (fun lb379 ub379 => ?_)
          refine q_ald_n cx dX10_wakeNodes_44 rfl (lv_at hl 1 rfl) ?_
          obtain ⟨x380, ex380⟩ : ∃ zz, q_is (q_z f372 v 7) zz := ⟨_, q_isr _⟩
          refine q_gX10_48_13 cx hB hv kv ex380 dX10_wakeNodes_45 (fun lb381 ub381 => ?_)
          refine q_isub cx dX10_wakeNodes_48 ?_
          refine q_any (fun y382 ry382 ey382 => ?_)
          refine q_mmax (rest := [.ref y367]) cx hl.1 q_h658 q_h659 q_h157 q_h660 (by decide) (Nat.le_of_ble_eq_true rfl) (by decide) (by decide) ⟨by decide, by decide⟩ ⟨by omega, by omega⟩ dX10_wakeNodes_49 (fun y383 ay383 by383 ey383 => ?_)
          refine q_pX10_101_17 cx hB hy367 ky367 ⟨by omega, by omega⟩ (by omega) (by omega) rfl dX10_wakeNodes_52 (fun H locs f384 ef384 z385 hB => ?_)
          refine q_ald_n cx dX10_wakeNodes_55 rfl (lv_at hl 0 rfl) ?_
          refine q_gX10_101_17 cx hB hy367 ky367 z385 dX10_wakeNodes_56 (fun lb386 ub386 => ?_)
          refine q_ifle (tgt := 84) cx ⟨by omega, by omega⟩ dX10_wakeNodes_59 (by decide) (fun c387 => ?_) (fun c387 => ?_)
          · exact J84 f384 (by omega) H locs hB ls (lv_sub hl [1, 2] rfl)
          · refine q_ald_n cx dX10_wakeNodes_62 rfl (lv_at hl 1 rfl) ?_
            refine lv_dup cx.1 cx.2.1 dX10_wakeNodes_63 rfl ?_
            obtain ⟨x388, ex388⟩ : ∃ zz, q_is (q_z f384 v 13) zz := ⟨_, q_isr _⟩
            refine q_gX10_262_13 cx hB hv kv ex388 dX10_wakeNodes_64 (fun lb389 ub389 => ?_)
            refine q_iconst cx dX10_wakeNodes_67 ?_
            refine q_ild_n cx dX10_wakeNodes_68 rfl (lv_at hl 2 rfl) ?_
            refine q_ishl cx dX10_wakeNodes_69 (fun y390 ry390 ey390 => ?_)
            refine q_ior cx dX10_wakeNodes_70 (fun y391 ry391 ey391 => ?_)
            refine q_pX10_262_13 cx hB hv kv ⟨by omega, by omega⟩ (by omega) (by omega) rfl dX10_wakeNodes_71 (fun H locs f392 ef392 z393 hB => ?_)
            refine q_ald_n cx dX10_wakeNodes_74 rfl (lv_at hl 0 rfl) ?_
            refine lv_dup cx.1 cx.2.1 dX10_wakeNodes_75 rfl ?_
            obtain ⟨x394, ex394⟩ : ∃ zz, q_is (q_z f392 y367 6) zz := ⟨_, q_isr _⟩
            refine q_gX10_107_17 cx hB hy367 ky367 ex394 dX10_wakeNodes_76 (fun lb395 ub395 => ?_)
            refine q_iconst cx dX10_wakeNodes_79 ?_
            refine q_iadd cx dX10_wakeNodes_80 ?_
            refine q_any (fun y396 ry396 ey396 => ?_)
            refine q_pX10_107_17 cx hB hy367 ky367 ⟨by omega, by omega⟩ (by omega) (by omega) rfl dX10_wakeNodes_81 (fun H locs f397 ef397 z398 hB => ?_)
            exact J84 f397 (by omega) H locs hB ls (lv_sub hl [1, 2] rfl)
  obtain ⟨H, hH⟩ : ∃ H : Heap, H = s.heap := ⟨_, rfl⟩
  obtain ⟨locs, hlocs⟩ : ∃ z : List Loc, z = [] := ⟨_, rfl⟩
  rw [← hH, ← hlocs] at hB
  rw [← hH, ← hlocs]
  refine q_ald_n cx dX10_wakeNodes_0 rfl (lv_at hl 0 rfl) ?_
  refine q_iconst cx dX10_wakeNodes_1 ?_
  refine q_pX10_262_13 cx hB hv kv ⟨by decide, by decide⟩ (by decide) (by decide) rfl dX10_wakeNodes_2 (fun H locs f399 ef399 z400 hB => ?_)
  refine q_iconst cx dX10_wakeNodes_5 ?_
  refine lv_istore_n (lv' := [(1, .int (q_i 0)), (0, .ref v)]) cx.1 cx.2.1 dX10_wakeNodes_6 rfl hl (by decide) rfl (fun ls hl => ?_)
  exact J7 ((Int.toNat (2147483647 - 0)) + 1) f399 0 (by decide) (by decide) (Nat.lt_succ_self _) H locs hB ls (lv_sub hl [1, 0] rfl)
set_option maxHeartbeats 4000000 in
set_option maxRecDepth 100000 in
theorem g_X10_wakeNodes_2 (l : Launch) (g : q_G) {K : Nat → Nat} {L : List Nat} (hN : L.Nodup) {f : Nat → va_E} (hT : q_Ty g K L f) (v : Nat) (hv : v ∈ L) (kv : K v = 14) : q_Ct l g K L yX10_wakeNodes cX10_wakeNodes 3 none 3 67 [.ref v] f [(14, 13, 13), (18, 4, 4), (18, 6, 6), (18, 9, 9)] (q_Pv (fun (f1 : Nat → va_E) => True)) := by
  refine q_ofb (by decide +kernel) hN hT (Nat.le_of_ble_eq_true rfl) ?_
  intro p e s m below meth c ls cx hr hlk hB hl
  have hl : lv_has ls 3 [(0, .ref v)] := hl
  have J7 : ∀ (n : Nat) (f7 : Nat → va_E) (v7_1 : Int) (lv7_1 : 0 ≤ v7_1) (uv7_1 : v7_1 ≤ 10) (hmu : (Int.toNat (2147483647 - v7_1)) < n) (H : Heap) (locs : List Loc) (hB : q_B g K L (fun q => q ∈ L) [(14, 13, 13), (18, 4, 4), (18, 6, 6), (18, 9, 9)] f f7 s H locs) (ls : Array Slot) (hl : lv_has ls 3 [(0, .ref v), (1, .int (q_i v7_1))]), W p l e { frames := 3, cells := 0, slots := 0, locals := 67 } s m ([.ref v] : List Value).toArray below meth c H locs 0 0 (MQ below (q_Q g K L [(14, 13, 13), (18, 4, 4), (18, 6, 6), (18, 9, 9)] f (q_Pv (fun (f1 : Nat → va_E) => True))) ([.ref v] : List Value).toArray s 0 0 (fun q => q ∈ L)) (F0 m 7 ls []) := by
    intro n
    induction n with
    | zero =>
      intro f7 v7_1 lv7_1 uv7_1 hmu
      exact absurd hmu (Nat.not_lt_zero _)
    | succ n ih7 =>
      intro f7 v7_1 lv7_1 uv7_1 hmu H locs hB ls hl
      have J84 : ∀ (f84 : Nat → va_E) (buv7_1 : v7_1 ≤ 9) (H : Heap) (locs : List Loc) (hB : q_B g K L (fun q => q ∈ L) [(14, 13, 13), (18, 4, 4), (18, 6, 6), (18, 9, 9)] f f84 s H locs) (ls : Array Slot) (hl : lv_has ls 3 [(0, .ref v), (1, .int (q_i v7_1))]), W p l e { frames := 3, cells := 0, slots := 0, locals := 67 } s m ([.ref v] : List Value).toArray below meth c H locs 0 0 (MQ below (q_Q g K L [(14, 13, 13), (18, 4, 4), (18, 6, 6), (18, 9, 9)] f (q_Pv (fun (f1 : Nat → va_E) => True))) ([.ref v] : List Value).toArray s 0 0 (fun q => q ∈ L)) (F0 m 84 ls []) := by
        intro f84 buv7_1 H locs hB ls hl
        refine q_iinc (lv' := [(1, .int (q_i (v7_1 + 1))), (0, .ref v)]) cx dX10_wakeNodes_84 hl (k := 1) rfl (by decide) rfl (fun ls hl => ?_)
        refine lv_goto (tgt := 7) cx.1 cx.2.1 dX10_wakeNodes_87 (by decide) ?_
        exact ih7 f84 (v7_1 + 1) (by omega) (by omega) (by omega) H locs hB ls (lv_sub hl [1, 0] rfl)
      refine q_ild_n cx dX10_wakeNodes_7 rfl (lv_at hl 1 rfl) ?_
      refine q_ald_n cx dX10_wakeNodes_8 rfl (lv_at hl 0 rfl) ?_
      obtain ⟨x363, ex363⟩ : ∃ zz, q_is (q_z f7 v 3) zz := ⟨_, q_isr _⟩
      refine q_gX10_35_14 cx hB hv kv ex363 dX10_wakeNodes_9 (fun lb364 ub364 => ?_)
      refine q_icge (tgt := 90) cx ⟨by omega, by omega⟩ ⟨by omega, by omega⟩ dX10_wakeNodes_12 (by decide) (fun c365 => ?_) (fun c365 => ?_)
      · refine q_vret cx hr hlk hB dX10_wakeNodes_90 ?_
        trivial
      · refine q_ald_n cx dX10_wakeNodes_15 rfl (lv_at hl 0 rfl) ?_
        refine q_ild_n cx dX10_wakeNodes_16 rfl (lv_at hl 1 rfl) ?_
        refine q_cVr (As := [.int (q_i v7_1)]) (rest := []) cx hB (fun _ h => h) hN hv kv (by decide) rfl (g_X10_nodeAt_2 l g hN hB.2.1 v hv kv v7_1 (by omega) (by omega)) q_cX10_66 q_dX10_nodeAt (by decide) rfl rfl hl.1 rfl (Nat.le_of_ble_eq_true rfl) dX10_wakeNodes_17 (fun y367 H locs f366 h368 hF hB => ?_)
        obtain ⟨rfl, hy367, ky367⟩ := h368
        refine lv_astore_n (lv' := [(2, .ref y367), (0, .ref v), (1, .int (q_i v7_1))]) cx.1 cx.2.1 dX10_wakeNodes_20 rfl hl (by decide) rfl (fun ls hl => ?_)
        refine q_ald_n cx dX10_wakeNodes_21 rfl (lv_at hl 0 rfl) ?_
        refine q_ald_n cx dX10_wakeNodes_22 rfl (lv_at hl 1 rfl) ?_
        refine q_ild_n cx dX10_wakeNodes_23 rfl (lv_at hl 2 rfl) ?_
        refine q_cVi (As := [.int (q_i v7_1)]) (rest := [.ref y367]) cx hB (fun _ h => h) hN hv kv (by decide) rfl (g_X10_dayOf_2 l g hN hB.2.1 v hv kv v7_1 (by omega) (by omega)) q_cX10_178 q_dX10_dayOf (by decide) rfl rfl hl.1 rfl (Nat.le_of_ble_eq_true rfl) dX10_wakeNodes_24 (fun y370 H locs f369 ry370 h371 hF hB => ?_)
        obtain ⟨rfl, ly370, uy370⟩ := h371
        refine q_pX10_265_18 cx hB hy367 ky367 ⟨by omega, by omega⟩ (by omega) (by omega) rfl dX10_wakeNodes_27 (fun H locs f372 ef372 z373 hB => ?_)
        refine q_ald_n cx dX10_wakeNodes_30 rfl (lv_at hl 1 rfl) ?_
        refine q_ild_n cx dX10_wakeNodes_31 rfl (lv_at hl 2 rfl) ?_
        refine q_cVi (As := [.int (q_i v7_1)]) (rest := []) cx hB (fun _ h => h) hN hv kv (by decide) rfl (g_X10_isAwake_2 l g hN hB.2.1 v hv kv v7_1 (by omega) (by omega)) q_cX10_203 q_dX10_isAwake (by decide) rfl rfl hl.1 rfl (Nat.le_of_ble_eq_true rfl) dX10_wakeNodes_32 (fun y375 H locs f374 ry375 h376 hF hB => ?_)
        obtain ⟨rfl, ly375, uy375⟩ := h376
        refine q_ifeq (tgt := 84) cx ⟨by omega, by omega⟩ dX10_wakeNodes_35 (by decide) (fun c377 => ?_) (fun c377 => ?_)
        · exact J84 f372 (by omega) H locs hB ls (lv_sub hl [1, 2] rfl)
        · refine q_ald_n cx dX10_wakeNodes_38 rfl (lv_at hl 0 rfl) ?_
          refine q_iconst cx dX10_wakeNodes_39 ?_
          refine q_ald_n cx dX10_wakeNodes_40 rfl (lv_at hl 0 rfl) ?_
          obtain ⟨x378, ex378⟩ : ∃ zz, q_is (q_z f372 y367 4) zz := ⟨_, q_isr _⟩
          refine q_gX10_101_18 cx hB hy367 ky367 ex378 dX10_wakeNodes_41 (fun lb379 ub379 => ?_)
          refine q_ald_n cx dX10_wakeNodes_44 rfl (lv_at hl 1 rfl) ?_
          obtain ⟨x380, ex380⟩ : ∃ zz, q_is (q_z f372 v 7) zz := ⟨_, q_isr _⟩
          refine q_gX10_48_14 cx hB hv kv ex380 dX10_wakeNodes_45 (fun lb381 ub381 => ?_)
          refine q_isub cx dX10_wakeNodes_48 ?_
          refine q_any (fun y382 ry382 ey382 => ?_)
          refine q_mmax (rest := [.ref y367]) cx hl.1 q_h658 q_h659 q_h157 q_h660 (by decide) (Nat.le_of_ble_eq_true rfl) (by decide) (by decide) ⟨by decide, by decide⟩ ⟨by omega, by omega⟩ dX10_wakeNodes_49 (fun y383 ay383 by383 ey383 => ?_)
          refine q_pX10_101_18 cx hB hy367 ky367 ⟨by omega, by omega⟩ (by omega) (by omega) rfl dX10_wakeNodes_52 (fun H locs f384 ef384 z385 hB => ?_)
          refine q_ald_n cx dX10_wakeNodes_55 rfl (lv_at hl 0 rfl) ?_
          refine q_gX10_101_18 cx hB hy367 ky367 z385 dX10_wakeNodes_56 (fun lb386 ub386 => ?_)
          refine q_ifle (tgt := 84) cx ⟨by omega, by omega⟩ dX10_wakeNodes_59 (by decide) (fun c387 => ?_) (fun c387 => ?_)
          · exact J84 f384 (by omega) H locs hB ls (lv_sub hl [1, 2] rfl)
          · refine q_ald_n cx dX10_wakeNodes_62 rfl (lv_at hl 1 rfl) ?_
            refine lv_dup cx.1 cx.2.1 dX10_wakeNodes_63 rfl ?_
            obtain ⟨x388, ex388⟩ : ∃ zz, q_is (q_z f384 v 13) zz := ⟨_, q_isr _⟩
            refine q_gX10_262_14 cx hB hv kv ex388 dX10_wakeNodes_64 (fun lb389 ub389 => ?_)
            refine q_iconst cx dX10_wakeNodes_67 ?_
            refine q_ild_n cx dX10_wakeNodes_68 rfl (lv_at hl 2 rfl) ?_
            refine q_ishl cx dX10_wakeNodes_69 (fun y390 ry390 ey390 => ?_)
            refine q_ior cx dX10_wakeNodes_70 (fun y391 ry391 ey391 => ?_)
            refine q_pX10_262_14 cx hB hv kv ⟨by omega, by omega⟩ (by omega) (by omega) rfl dX10_wakeNodes_71 (fun H locs f392 ef392 z393 hB => ?_)
            refine q_ald_n cx dX10_wakeNodes_74 rfl (lv_at hl 0 rfl) ?_
            refine lv_dup cx.1 cx.2.1 dX10_wakeNodes_75 rfl ?_
            obtain ⟨x394, ex394⟩ : ∃ zz, q_is (q_z f392 y367 6) zz := ⟨_, q_isr _⟩
            refine q_gX10_107_18 cx hB hy367 ky367 ex394 dX10_wakeNodes_76 (fun lb395 ub395 => ?_)
            refine q_iconst cx dX10_wakeNodes_79 ?_
            refine q_iadd cx dX10_wakeNodes_80 ?_
            refine q_any (fun y396 ry396 ey396 => ?_)
            refine q_pX10_107_18 cx hB hy367 ky367 ⟨by omega, by omega⟩ (by omega) (by omega) rfl dX10_wakeNodes_81 (fun H locs f397 ef397 z398 hB => ?_)
            exact J84 f397 (by omega) H locs hB ls (lv_sub hl [1, 2] rfl)
  obtain ⟨H, hH⟩ : ∃ H : Heap, H = s.heap := ⟨_, rfl⟩
  obtain ⟨locs, hlocs⟩ : ∃ z : List Loc, z = [] := ⟨_, rfl⟩
  rw [← hH, ← hlocs] at hB
  rw [← hH, ← hlocs]
  refine q_ald_n cx dX10_wakeNodes_0 rfl (lv_at hl 0 rfl) ?_
  refine q_iconst cx dX10_wakeNodes_1 ?_
  refine q_pX10_262_14 cx hB hv kv ⟨by decide, by decide⟩ (by decide) (by decide) rfl dX10_wakeNodes_2 (fun H locs f399 ef399 z400 hB => ?_)
  refine q_iconst cx dX10_wakeNodes_5 ?_
  refine lv_istore_n (lv' := [(1, .int (q_i 0)), (0, .ref v)]) cx.1 cx.2.1 dX10_wakeNodes_6 rfl hl (by decide) rfl (fun ls hl => ?_)
  exact J7 ((Int.toNat (2147483647 - 0)) + 1) f399 0 (by decide) (by decide) (Nat.lt_succ_self _) H locs hB ls (lv_sub hl [1, 0] rfl)
set_option maxHeartbeats 4000000 in
set_option maxRecDepth 100000 in
theorem g_X10_wakeNodes_3 (l : Launch) (g : q_G) {K : Nat → Nat} {L : List Nat} (hN : L.Nodup) {f : Nat → va_E} (hT : q_Ty g K L f) (v : Nat) (hv : v ∈ L) (kv : K v = 15) : q_Ct l g K L yX10_wakeNodes cX10_wakeNodes 3 none 3 67 [.ref v] f [(15, 13, 13), (19, 4, 4), (19, 6, 6), (19, 9, 9)] (q_Pv (fun (f1 : Nat → va_E) => True)) := by
  refine q_ofb (by decide +kernel) hN hT (Nat.le_of_ble_eq_true rfl) ?_
  intro p e s m below meth c ls cx hr hlk hB hl
  have hl : lv_has ls 3 [(0, .ref v)] := hl
  have J7 : ∀ (n : Nat) (f7 : Nat → va_E) (v7_1 : Int) (lv7_1 : 0 ≤ v7_1) (uv7_1 : v7_1 ≤ 10) (hmu : (Int.toNat (2147483647 - v7_1)) < n) (H : Heap) (locs : List Loc) (hB : q_B g K L (fun q => q ∈ L) [(15, 13, 13), (19, 4, 4), (19, 6, 6), (19, 9, 9)] f f7 s H locs) (ls : Array Slot) (hl : lv_has ls 3 [(0, .ref v), (1, .int (q_i v7_1))]), W p l e { frames := 3, cells := 0, slots := 0, locals := 67 } s m ([.ref v] : List Value).toArray below meth c H locs 0 0 (MQ below (q_Q g K L [(15, 13, 13), (19, 4, 4), (19, 6, 6), (19, 9, 9)] f (q_Pv (fun (f1 : Nat → va_E) => True))) ([.ref v] : List Value).toArray s 0 0 (fun q => q ∈ L)) (F0 m 7 ls []) := by
    intro n
    induction n with
    | zero =>
      intro f7 v7_1 lv7_1 uv7_1 hmu
      exact absurd hmu (Nat.not_lt_zero _)
    | succ n ih7 =>
      intro f7 v7_1 lv7_1 uv7_1 hmu H locs hB ls hl
      have J84 : ∀ (f84 : Nat → va_E) (buv7_1 : v7_1 ≤ 9) (H : Heap) (locs : List Loc) (hB : q_B g K L (fun q => q ∈ L) [(15, 13, 13), (19, 4, 4), (19, 6, 6), (19, 9, 9)] f f84 s H locs) (ls : Array Slot) (hl : lv_has ls 3 [(0, .ref v), (1, .int (q_i v7_1))]), W p l e { frames := 3, cells := 0, slots := 0, locals := 67 } s m ([.ref v] : List Value).toArray below meth c H locs 0 0 (MQ below (q_Q g K L [(15, 13, 13), (19, 4, 4), (19, 6, 6), (19, 9, 9)] f (q_Pv (fun (f1 : Nat → va_E) => True))) ([.ref v] : List Value).toArray s 0 0 (fun q => q ∈ L)) (F0 m 84 ls []) := by
        intro f84 buv7_1 H locs hB ls hl
        refine q_iinc (lv' := [(1, .int (q_i (v7_1 + 1))), (0, .ref v)]) cx dX10_wakeNodes_84 hl (k := 1) rfl (by decide) rfl (fun ls hl => ?_)
        refine lv_goto (tgt := 7) cx.1 cx.2.1 dX10_wakeNodes_87 (by decide) ?_
        exact ih7 f84 (v7_1 + 1) (by omega) (by omega) (by omega) H locs hB ls (lv_sub hl [1, 0] rfl)
      refine q_ild_n cx dX10_wakeNodes_7 rfl (lv_at hl 1 rfl) ?_
      refine q_ald_n cx dX10_wakeNodes_8 rfl (lv_at hl 0 rfl) ?_
      obtain ⟨x363, ex363⟩ : ∃ zz, q_is (q_z f7 v 3) zz := ⟨_, q_isr _⟩
      refine q_gX10_35_15 cx hB hv kv ex363 dX10_wakeNodes_9 (fun lb364 ub364 => ?_)
      refine q_icge (tgt := 90) cx ⟨by omega, by omega⟩ ⟨by omega, by omega⟩ dX10_wakeNodes_12 (by decide) (fun c365 => ?_) (fun c365 => ?_)
      · refine q_vret cx hr hlk hB dX10_wakeNodes_90 ?_
        trivial
      · refine q_ald_n cx dX10_wakeNodes_15 rfl (lv_at hl 0 rfl) ?_
        refine q_ild_n cx dX10_wakeNodes_16 rfl (lv_at hl 1 rfl) ?_
        refine q_cVr (As := [.int (q_i v7_1)]) (rest := []) cx hB (fun _ h => h) hN hv kv (by decide) rfl (g_X10_nodeAt_3 l g hN hB.2.1 v hv kv v7_1 (by omega) (by omega)) q_cX10_66 q_dX10_nodeAt (by decide) rfl rfl hl.1 rfl (Nat.le_of_ble_eq_true rfl) dX10_wakeNodes_17 (fun y367 H locs f366 h368 hF hB => ?_)
        obtain ⟨rfl, hy367, ky367⟩ := h368
        refine lv_astore_n (lv' := [(2, .ref y367), (0, .ref v), (1, .int (q_i v7_1))]) cx.1 cx.2.1 dX10_wakeNodes_20 rfl hl (by decide) rfl (fun ls hl => ?_)
        refine q_ald_n cx dX10_wakeNodes_21 rfl (lv_at hl 0 rfl) ?_
        refine q_ald_n cx dX10_wakeNodes_22 rfl (lv_at hl 1 rfl) ?_
        refine q_ild_n cx dX10_wakeNodes_23 rfl (lv_at hl 2 rfl) ?_
        refine q_cVi (As := [.int (q_i v7_1)]) (rest := [.ref y367]) cx hB (fun _ h => h) hN hv kv (by decide) rfl (g_X10_dayOf_3 l g hN hB.2.1 v hv kv v7_1 (by omega) (by omega)) q_cX10_178 q_dX10_dayOf (by decide) rfl rfl hl.1 rfl (Nat.le_of_ble_eq_true rfl) dX10_wakeNodes_24 (fun y370 H locs f369 ry370 h371 hF hB => ?_)
        obtain ⟨rfl, ly370, uy370⟩ := h371
        refine q_pX10_265_19 cx hB hy367 ky367 ⟨by omega, by omega⟩ (by omega) (by omega) rfl dX10_wakeNodes_27 (fun H locs f372 ef372 z373 hB => ?_)
        refine q_ald_n cx dX10_wakeNodes_30 rfl (lv_at hl 1 rfl) ?_
        refine q_ild_n cx dX10_wakeNodes_31 rfl (lv_at hl 2 rfl) ?_
        refine q_cVi (As := [.int (q_i v7_1)]) (rest := []) cx hB (fun _ h => h) hN hv kv (by decide) rfl (g_X10_isAwake_3 l g hN hB.2.1 v hv kv v7_1 (by omega) (by omega)) q_cX10_203 q_dX10_isAwake (by decide) rfl rfl hl.1 rfl (Nat.le_of_ble_eq_true rfl) dX10_wakeNodes_32 (fun y375 H locs f374 ry375 h376 hF hB => ?_)
        obtain ⟨rfl, ly375, uy375⟩ := h376
        refine q_ifeq (tgt := 84) cx ⟨by omega, by omega⟩ dX10_wakeNodes_35 (by decide) (fun c377 => ?_) (fun c377 => ?_)
        · exact J84 f372 (by omega) H locs hB ls (lv_sub hl [1, 2] rfl)
        · refine q_ald_n cx dX10_wakeNodes_38 rfl (lv_at hl 0 rfl) ?_
          refine q_iconst cx dX10_wakeNodes_39 ?_
          refine q_ald_n cx dX10_wakeNodes_40 rfl (lv_at hl 0 rfl) ?_
          obtain ⟨x378, ex378⟩ : ∃ zz, q_is (q_z f372 y367 4) zz := ⟨_, q_isr _⟩
          refine q_gX10_101_19 cx hB hy367 ky367 ex378 dX10_wakeNodes_41 (fun lb379 ub379 => ?_)
          refine q_ald_n cx dX10_wakeNodes_44 rfl (lv_at hl 1 rfl) ?_
          obtain ⟨x380, ex380⟩ : ∃ zz, q_is (q_z f372 v 7) zz := ⟨_, q_isr _⟩
          refine q_gX10_48_15 cx hB hv kv ex380 dX10_wakeNodes_45 (fun lb381 ub381 => ?_)
          refine q_isub cx dX10_wakeNodes_48 ?_
          refine q_any (fun y382 ry382 ey382 => ?_)
          refine q_mmax (rest := [.ref y367]) cx hl.1 q_h658 q_h659 q_h157 q_h660 (by decide) (Nat.le_of_ble_eq_true rfl) (by decide) (by decide) ⟨by decide, by decide⟩ ⟨by omega, by omega⟩ dX10_wakeNodes_49 (fun y383 ay383 by383 ey383 => ?_)
          refine q_pX10_101_19 cx hB hy367 ky367 ⟨by omega, by omega⟩ (by omega) (by omega) rfl dX10_wakeNodes_52 (fun H locs f384 ef384 z385 hB => ?_)
          refine q_ald_n cx dX10_wakeNodes_55 rfl (lv_at hl 0 rfl) ?_
          refine q_gX10_101_19 cx hB hy367 ky367 z385 dX10_wakeNodes_56 (fun lb386 ub386 => ?_)
          refine q_ifle (tgt := 84) cx ⟨by omega, by omega⟩ dX10_wakeNodes_59 (by decide) (fun c387 => ?_) (fun c387 => ?_)
          · exact J84 f384 (by omega) H locs hB ls (lv_sub hl [1, 2] rfl)
          · refine q_ald_n cx dX10_wakeNodes_62 rfl (lv_at hl 1 rfl) ?_
            refine lv_dup cx.1 cx.2.1 dX10_wakeNodes_63 rfl ?_
            obtain ⟨x388, ex388⟩ : ∃ zz, q_is (q_z f384 v 13) zz := ⟨_, q_isr _⟩
            refine q_gX10_262_15 cx hB hv kv ex388 dX10_wakeNodes_64 (fun lb389 ub389 => ?_)
            refine q_iconst cx dX10_wakeNodes_67 ?_
            refine q_ild_n cx dX10_wakeNodes_68 rfl (lv_at hl 2 rfl) ?_
            refine q_ishl cx dX10_wakeNodes_69 (fun y390 ry390 ey390 => ?_)
            refine q_ior cx dX10_wakeNodes_70 (fun y391 ry391 ey391 => ?_)
            refine q_pX10_262_15 cx hB hv kv ⟨by omega, by omega⟩ (by omega) (by omega) rfl dX10_wakeNodes_71 (fun H locs f392 ef392 z393 hB => ?_)
            refine q_ald_n cx dX10_wakeNodes_74 rfl (lv_at hl 0 rfl) ?_
            refine lv_dup cx.1 cx.2.1 dX10_wakeNodes_75 rfl ?_
            obtain ⟨x394, ex394⟩ : ∃ zz, q_is (q_z f392 y367 6) zz := ⟨_, q_isr _⟩
            refine q_gX10_107_19 cx hB hy367 ky367 ex394 dX10_wakeNodes_76 (fun lb395 ub395 => ?_)
            refine q_iconst cx dX10_wakeNodes_79 ?_
            refine q_iadd cx dX10_wakeNodes_80 ?_
            refine q_any (fun y396 ry396 ey396 => ?_)
            refine q_pX10_107_19 cx hB hy367 ky367 ⟨by omega, by omega⟩ (by omega) (by omega) rfl dX10_wakeNodes_81 (fun H locs f397 ef397 z398 hB => ?_)
            exact J84 f397 (by omega) H locs hB ls (lv_sub hl [1, 2] rfl)
  obtain ⟨H, hH⟩ : ∃ H : Heap, H = s.heap := ⟨_, rfl⟩
  obtain ⟨locs, hlocs⟩ : ∃ z : List Loc, z = [] := ⟨_, rfl⟩
  rw [← hH, ← hlocs] at hB
  rw [← hH, ← hlocs]
  refine q_ald_n cx dX10_wakeNodes_0 rfl (lv_at hl 0 rfl) ?_
  refine q_iconst cx dX10_wakeNodes_1 ?_
  refine q_pX10_262_15 cx hB hv kv ⟨by decide, by decide⟩ (by decide) (by decide) rfl dX10_wakeNodes_2 (fun H locs f399 ef399 z400 hB => ?_)
  refine q_iconst cx dX10_wakeNodes_5 ?_
  refine lv_istore_n (lv' := [(1, .int (q_i 0)), (0, .ref v)]) cx.1 cx.2.1 dX10_wakeNodes_6 rfl hl (by decide) rfl (fun ls hl => ?_)
  exact J7 ((Int.toNat (2147483647 - 0)) + 1) f399 0 (by decide) (by decide) (Nat.lt_succ_self _) H locs hB ls (lv_sub hl [1, 0] rfl)
set_option maxHeartbeats 4000000 in
set_option maxRecDepth 100000 in
theorem g_X10_wakeNodes_4 (l : Launch) (g : q_G) {K : Nat → Nat} {L : List Nat} (hN : L.Nodup) {f : Nat → va_E} (hT : q_Ty g K L f) (v : Nat) (hv : v ∈ L) (kv : K v = 16) : q_Ct l g K L yX10_wakeNodes cX10_wakeNodes 3 none 3 67 [.ref v] f [(16, 13, 13), (20, 4, 4), (20, 6, 6), (20, 9, 9)] (q_Pv (fun (f1 : Nat → va_E) => True)) := by
  refine q_ofb (by decide +kernel) hN hT (Nat.le_of_ble_eq_true rfl) ?_
  intro p e s m below meth c ls cx hr hlk hB hl
  have hl : lv_has ls 3 [(0, .ref v)] := hl
  have J7 : ∀ (n : Nat) (f7 : Nat → va_E) (v7_1 : Int) (lv7_1 : 0 ≤ v7_1) (uv7_1 : v7_1 ≤ 10) (hmu : (Int.toNat (2147483647 - v7_1)) < n) (H : Heap) (locs : List Loc) (hB : q_B g K L (fun q => q ∈ L) [(16, 13, 13), (20, 4, 4), (20, 6, 6), (20, 9, 9)] f f7 s H locs) (ls : Array Slot) (hl : lv_has ls 3 [(0, .ref v), (1, .int (q_i v7_1))]), W p l e { frames := 3, cells := 0, slots := 0, locals := 67 } s m ([.ref v] : List Value).toArray below meth c H locs 0 0 (MQ below (q_Q g K L [(16, 13, 13), (20, 4, 4), (20, 6, 6), (20, 9, 9)] f (q_Pv (fun (f1 : Nat → va_E) => True))) ([.ref v] : List Value).toArray s 0 0 (fun q => q ∈ L)) (F0 m 7 ls []) := by
    intro n
    induction n with
    | zero =>
      intro f7 v7_1 lv7_1 uv7_1 hmu
      exact absurd hmu (Nat.not_lt_zero _)
    | succ n ih7 =>
      intro f7 v7_1 lv7_1 uv7_1 hmu H locs hB ls hl
      have J84 : ∀ (f84 : Nat → va_E) (buv7_1 : v7_1 ≤ 9) (H : Heap) (locs : List Loc) (hB : q_B g K L (fun q => q ∈ L) [(16, 13, 13), (20, 4, 4), (20, 6, 6), (20, 9, 9)] f f84 s H locs) (ls : Array Slot) (hl : lv_has ls 3 [(0, .ref v), (1, .int (q_i v7_1))]), W p l e { frames := 3, cells := 0, slots := 0, locals := 67 } s m ([.ref v] : List Value).toArray below meth c H locs 0 0 (MQ below (q_Q g K L [(16, 13, 13), (20, 4, 4), (20, 6, 6), (20, 9, 9)] f (q_Pv (fun (f1 : Nat → va_E) => True))) ([.ref v] : List Value).toArray s 0 0 (fun q => q ∈ L)) (F0 m 84 ls []) := by
        intro f84 buv7_1 H locs hB ls hl
        refine q_iinc (lv' := [(1, .int (q_i (v7_1 + 1))), (0, .ref v)]) cx dX10_wakeNodes_84 hl (k := 1) rfl (by decide) rfl (fun ls hl => ?_)
        refine lv_goto (tgt := 7) cx.1 cx.2.1 dX10_wakeNodes_87 (by decide) ?_
        exact ih7 f84 (v7_1 + 1) (by omega) (by omega) (by omega) H locs hB ls (lv_sub hl [1, 0] rfl)
      refine q_ild_n cx dX10_wakeNodes_7 rfl (lv_at hl 1 rfl) ?_
      refine q_ald_n cx dX10_wakeNodes_8 rfl (lv_at hl 0 rfl) ?_
      obtain ⟨x363, ex363⟩ : ∃ zz, q_is (q_z f7 v 3) zz := ⟨_, q_isr _⟩
      refine q_gX10_35_16 cx hB hv kv ex363 dX10_wakeNodes_9 (fun lb364 ub364 => ?_)
      refine q_icge (tgt := 90) cx ⟨by omega, by omega⟩ ⟨by omega, by omega⟩ dX10_wakeNodes_12 (by decide) (fun c365 => ?_) (fun c365 => ?_)
      · refine q_vret cx hr hlk hB dX10_wakeNodes_90 ?_
        trivial
      · refine q_ald_n cx dX10_wakeNodes_15 rfl (lv_at hl 0 rfl) ?_
        refine q_ild_n cx dX10_wakeNodes_16 rfl (lv_at hl 1 rfl) ?_
        refine q_cVr (As := [.int (q_i v7_1)]) (rest := []) cx hB (fun _ h => h) hN hv kv (by decide) rfl (g_X10_nodeAt_4 l g hN hB.2.1 v hv kv v7_1 (by omega) (by omega)) q_cX10_66 q_dX10_nodeAt (by decide) rfl rfl hl.1 rfl (Nat.le_of_ble_eq_true rfl) dX10_wakeNodes_17 (fun y367 H locs f366 h368 hF hB => ?_)
        obtain ⟨rfl, hy367, ky367⟩ := h368
        refine lv_astore_n (lv' := [(2, .ref y367), (0, .ref v), (1, .int (q_i v7_1))]) cx.1 cx.2.1 dX10_wakeNodes_20 rfl hl (by decide) rfl (fun ls hl => ?_)
        refine q_ald_n cx dX10_wakeNodes_21 rfl (lv_at hl 0 rfl) ?_
        refine q_ald_n cx dX10_wakeNodes_22 rfl (lv_at hl 1 rfl) ?_
        refine q_ild_n cx dX10_wakeNodes_23 rfl (lv_at hl 2 rfl) ?_
        refine q_cVi (As := [.int (q_i v7_1)]) (rest := [.ref y367]) cx hB (fun _ h => h) hN hv kv (by decide) rfl (g_X10_dayOf_4 l g hN hB.2.1 v hv kv v7_1 (by omega) (by omega)) q_cX10_178 q_dX10_dayOf (by decide) rfl rfl hl.1 rfl (Nat.le_of_ble_eq_true rfl) dX10_wakeNodes_24 (fun y370 H locs f369 ry370 h371 hF hB => ?_)
        obtain ⟨rfl, ly370, uy370⟩ := h371
        refine q_pX10_265_20 cx hB hy367 ky367 ⟨by omega, by omega⟩ (by omega) (by omega) rfl dX10_wakeNodes_27 (fun H locs f372 ef372 z373 hB => ?_)
        refine q_ald_n cx dX10_wakeNodes_30 rfl (lv_at hl 1 rfl) ?_
        refine q_ild_n cx dX10_wakeNodes_31 rfl (lv_at hl 2 rfl) ?_
        refine q_cVi (As := [.int (q_i v7_1)]) (rest := []) cx hB (fun _ h => h) hN hv kv (by decide) rfl (g_X10_isAwake_4 l g hN hB.2.1 v hv kv v7_1 (by omega) (by omega)) q_cX10_203 q_dX10_isAwake (by decide) rfl rfl hl.1 rfl (Nat.le_of_ble_eq_true rfl) dX10_wakeNodes_32 (fun y375 H locs f374 ry375 h376 hF hB => ?_)
        obtain ⟨rfl, ly375, uy375⟩ := h376
        refine q_ifeq (tgt := 84) cx ⟨by omega, by omega⟩ dX10_wakeNodes_35 (by decide) (fun c377 => ?_) (fun c377 => ?_)
        · exact J84 f372 (by omega) H locs hB ls (lv_sub hl [1, 2] rfl)
        · refine q_ald_n cx dX10_wakeNodes_38 rfl (lv_at hl 0 rfl) ?_
          refine q_iconst cx dX10_wakeNodes_39 ?_
          refine q_ald_n cx dX10_wakeNodes_40 rfl (lv_at hl 0 rfl) ?_
          obtain ⟨x378, ex378⟩ : ∃ zz, q_is (q_z f372 y367 4) zz := ⟨_, q_isr _⟩
          refine q_gX10_101_20 cx hB hy367 ky367 ex378 dX10_wakeNodes_41 (fun lb379 ub379 => ?_)
          refine q_ald_n cx dX10_wakeNodes_44 rfl (lv_at hl 1 rfl) ?_
          obtain ⟨x380, ex380⟩ : ∃ zz, q_is (q_z f372 v 7) zz := ⟨_, q_isr _⟩
          refine q_gX10_48_16 cx hB hv kv ex380 dX10_wakeNodes_45 (fun lb381 ub381 => ?_)
          refine q_isub cx dX10_wakeNodes_48 ?_
          refine q_any (fun y382 ry382 ey382 => ?_)
          refine q_mmax (rest := [.ref y367]) cx hl.1 q_h658 q_h659 q_h157 q_h660 (by decide) (Nat.le_of_ble_eq_true rfl) (by decide) (by decide) ⟨by decide, by decide⟩ ⟨by omega, by omega⟩ dX10_wakeNodes_49 (fun y383 ay383 by383 ey383 => ?_)
          refine q_pX10_101_20 cx hB hy367 ky367 ⟨by omega, by omega⟩ (by omega) (by omega) rfl dX10_wakeNodes_52 (fun H locs f384 ef384 z385 hB => ?_)
          refine q_ald_n cx dX10_wakeNodes_55 rfl (lv_at hl 0 rfl) ?_
          refine q_gX10_101_20 cx hB hy367 ky367 z385 dX10_wakeNodes_56 (fun lb386 ub386 => ?_)
          refine q_ifle (tgt := 84) cx ⟨by omega, by omega⟩ dX10_wakeNodes_59 (by decide) (fun c387 => ?_) (fun c387 => ?_)
          · exact J84 f384 (by omega) H locs hB ls (lv_sub hl [1, 2] rfl)
          · refine q_ald_n cx dX10_wakeNodes_62 rfl (lv_at hl 1 rfl) ?_
            refine lv_dup cx.1 cx.2.1 dX10_wakeNodes_63 rfl ?_
            obtain ⟨x388, ex388⟩ : ∃ zz, q_is (q_z f384 v 13) zz := ⟨_, q_isr _⟩
            refine q_gX10_262_16 cx hB hv kv ex388 dX10_wakeNodes_64 (fun lb389 ub389 => ?_)
            refine q_iconst cx dX10_wakeNodes_67 ?_
            refine q_ild_n cx dX10_wakeNodes_68 rfl (lv_at hl 2 rfl) ?_
            refine q_ishl cx dX10_wakeNodes_69 (fun y390 ry390 ey390 => ?_)
            refine q_ior cx dX10_wakeNodes_70 (fun y391 ry391 ey391 => ?_)
            refine q_pX10_262_16 cx hB hv kv ⟨by omega, by omega⟩ (by omega) (by omega) rfl dX10_wakeNodes_71 (fun H locs f392 ef392 z393 hB => ?_)
            refine q_ald_n cx dX10_wakeNodes_74 rfl (lv_at hl 0 rfl) ?_
            refine lv_dup cx.1 cx.2.1 dX10_wakeNodes_75 rfl ?_
            obtain ⟨x394, ex394⟩ : ∃ zz, q_is (q_z f392 y367 6) zz := ⟨_, q_isr _⟩
            refine q_gX10_107_20 cx hB hy367 ky367 ex394 dX10_wakeNodes_76 (fun lb395 ub395 => ?_)
            refine q_iconst cx dX10_wakeNodes_79 ?_
            refine q_iadd cx dX10_wakeNodes_80 ?_
            refine q_any (fun y396 ry396 ey396 => ?_)
            refine q_pX10_107_20 cx hB hy367 ky367 ⟨by omega, by omega⟩ (by omega) (by omega) rfl dX10_wakeNodes_81 (fun H locs f397 ef397 z398 hB => ?_)
            exact J84 f397 (by omega) H locs hB ls (lv_sub hl [1, 2] rfl)
  obtain ⟨H, hH⟩ : ∃ H : Heap, H = s.heap := ⟨_, rfl⟩
  obtain ⟨locs, hlocs⟩ : ∃ z : List Loc, z = [] := ⟨_, rfl⟩
  rw [← hH, ← hlocs] at hB
  rw [← hH, ← hlocs]
  refine q_ald_n cx dX10_wakeNodes_0 rfl (lv_at hl 0 rfl) ?_
  refine q_iconst cx dX10_wakeNodes_1 ?_
  refine q_pX10_262_16 cx hB hv kv ⟨by decide, by decide⟩ (by decide) (by decide) rfl dX10_wakeNodes_2 (fun H locs f399 ef399 z400 hB => ?_)
  refine q_iconst cx dX10_wakeNodes_5 ?_
  refine lv_istore_n (lv' := [(1, .int (q_i 0)), (0, .ref v)]) cx.1 cx.2.1 dX10_wakeNodes_6 rfl hl (by decide) rfl (fun ls hl => ?_)
  exact J7 ((Int.toNat (2147483647 - 0)) + 1) f399 0 (by decide) (by decide) (Nat.lt_succ_self _) H locs hB ls (lv_sub hl [1, 0] rfl)
set_option maxHeartbeats 4000000 in
set_option maxRecDepth 100000 in
theorem g_X10_miss (l : Launch) (g : q_G) {K : Nat → Nat} {L : List Nat} (hN : L.Nodup) {f : Nat → va_E} (hT : q_Ty g K L f) (v : Nat) (hv : v ∈ L) (kv : K v = 10) (p0 : Nat) (hp0 : p0 ∈ L) (kp0 : K p0 = 3) : q_Ct l g K L yX10_miss cX10_miss 4 none 1 21 [.ref v, .ref p0] f [(3, 2, 2), (3, 4, 4), (5, 3, 3), (10, 12, 12)] (q_Pv (fun (f1 : Nat → va_E) => True)) := by
  refine q_ofb (by decide +kernel) hN hT (Nat.le_of_ble_eq_true rfl) ?_
  intro p e s m below meth c ls cx hr hlk hB hl
  have hl : lv_has ls 4 [(0, .ref v), (1, .ref p0)] := hl
  have J86 : ∀ (f86 : Nat → va_E) (H : Heap) (locs : List Loc) (hB : q_B g K L (fun q => q ∈ L) [(3, 2, 2), (3, 4, 4), (5, 3, 3), (10, 12, 12)] f f86 s H locs) (ls : Array Slot) (hl : lv_has ls 4 []), W p l e { frames := 1, cells := 0, slots := 0, locals := 21 } s m ([.ref v, .ref p0] : List Value).toArray below meth c H locs 0 0 (MQ below (q_Q g K L [(3, 2, 2), (3, 4, 4), (5, 3, 3), (10, 12, 12)] f (q_Pv (fun (f1 : Nat → va_E) => True))) ([.ref v, .ref p0] : List Value).toArray s 0 0 (fun q => q ∈ L)) (F0 m 86 ls []) := by
    intro f86 H locs hB ls hl
    refine q_vret cx hr hlk hB dX10_miss_86 ?_
    trivial
  obtain ⟨H, hH⟩ : ∃ H : Heap, H = s.heap := ⟨_, rfl⟩
  obtain ⟨locs, hlocs⟩ : ∃ z : List Loc, z = [] := ⟨_, rfl⟩
  rw [← hH, ← hlocs] at hB
  rw [← hH, ← hlocs]
  refine q_ald_n cx dX10_miss_0 rfl (lv_at hl 1 rfl) ?_
  refine lv_dup cx.1 cx.2.1 dX10_miss_1 rfl ?_
  obtain ⟨x40, ex40⟩ : ∃ zz, q_is (q_z f p0 4) zz := ⟨_, q_isr _⟩
  refine q_gX10_128 cx hB hp0 kp0 ex40 dX10_miss_2 (fun lb41 ub41 => ?_)
  refine q_iconst cx dX10_miss_5 ?_
  refine q_iadd cx dX10_miss_6 ?_
  refine q_any (fun y42 ry42 ey42 => ?_)
  refine q_pX10_128 cx hB hp0 kp0 ⟨by omega, by omega⟩ (by omega) (by omega) rfl dX10_miss_7 (fun H locs f43 ef43 z44 hB => ?_)
  refine q_ald_n cx dX10_miss_10 rfl (lv_at hl 1 rfl) ?_
  refine lv_dup cx.1 cx.2.1 dX10_miss_11 rfl ?_
  obtain ⟨x45, ex45⟩ : ∃ zz, q_is (q_z f43 p0 2) zz := ⟨_, q_isr _⟩
  refine q_gX10_122 cx hB hp0 kp0 ex45 dX10_miss_12 (fun lb46 ub46 => ?_)
  refine q_iconst cx dX10_miss_15 ?_
  refine q_iadd cx dX10_miss_16 ?_
  refine q_any (fun y47 ry47 ey47 => ?_)
  refine q_pX10_122 cx hB hp0 kp0 ⟨by omega, by omega⟩ (by omega) (by omega) rfl dX10_miss_17 (fun H locs f48 ef48 z49 hB => ?_)
  refine q_ald_n cx dX10_miss_20 rfl (lv_at hl 1 rfl) ?_
  refine q_gX10_122 cx hB hp0 kp0 z49 dX10_miss_21 (fun lb50 ub50 => ?_)
  refine q_ald_n cx dX10_miss_24 rfl (lv_at hl 0 rfl) ?_
  obtain ⟨x51, ex51⟩ : ∃ zz, q_is (q_z f48 v 10) zz := ⟨_, q_isr _⟩
  refine q_gX10_57 cx hB hv kv ex51 dX10_miss_25 (fun lb52 ub52 => ?_)
  refine q_iclt (tgt := 86) cx ⟨by omega, by omega⟩ ⟨by omega, by omega⟩ dX10_miss_28 (by decide) (fun c53 => ?_) (fun c53 => ?_)
  · exact J86 f48 H locs hB ls (lv_sub hl [] rfl)
  · refine q_ald_n cx dX10_miss_31 rfl (lv_at hl 1 rfl) ?_
    obtain ⟨x54, ex54⟩ : ∃ zz, q_is (q_z f48 p0 0) zz := ⟨_, q_isr _⟩
    refine q_gX10_116 cx hB hp0 kp0 ex54 dX10_miss_32 (fun lb55 ub55 => ?_)
    refine q_ald_n cx dX10_miss_35 rfl (lv_at hl 1 rfl) ?_
    obtain ⟨x56, ex56⟩ : ∃ zz, q_is (q_z f48 p0 1) zz := ⟨_, q_isr _⟩
    refine q_gX10_119 cx hB hp0 kp0 ex56 dX10_miss_36 (fun lb57 ub57 => ?_)
    refine q_mmin (rest := []) cx hl.1 q_h713 q_h714 q_h157 q_h715 (by decide) (Nat.le_of_ble_eq_true rfl) (by decide) (by decide) ⟨by omega, by omega⟩ ⟨by omega, by omega⟩ dX10_miss_39 (fun y58 ay58 by58 ey58 => ?_)
    refine lv_istore_n (lv' := [(2, .int (q_i y58)), (0, .ref v), (1, .ref p0)]) cx.1 cx.2.1 dX10_miss_42 rfl hl (by decide) rfl (fun ls hl => ?_)
    refine q_ald_n cx dX10_miss_43 rfl (lv_at hl 2 rfl) ?_
    refine q_gX10_116 cx hB hp0 kp0 ex54 dX10_miss_44 (fun lb59 ub59 => ?_)
    refine q_ald_n cx dX10_miss_47 rfl (lv_at hl 2 rfl) ?_
    refine q_gX10_119 cx hB hp0 kp0 ex56 dX10_miss_48 (fun lb60 ub60 => ?_)
    refine q_mmax (rest := []) cx hl.1 q_h658 q_h659 q_h157 q_h660 (by decide) (Nat.le_of_ble_eq_true rfl) (by decide) (by decide) ⟨by omega, by omega⟩ ⟨by omega, by omega⟩ dX10_miss_51 (fun y61 ay61 by61 ey61 => ?_)
    refine lv_istore_n (lv' := [(3, .int (q_i y61)), (2, .int (q_i y58)), (0, .ref v), (1, .ref p0)]) cx.1 cx.2.1 dX10_miss_54 rfl hl (by decide) rfl (fun ls hl => ?_)
    refine q_ald_n cx dX10_miss_55 rfl (lv_at hl 2 rfl) ?_
    refine q_ild_n cx dX10_miss_56 rfl (lv_at hl 0 rfl) ?_
    refine q_cVr (As := [.int (q_i y61)]) (rest := []) cx hB (fun _ h => h) hN hv kv (by decide) rfl (g_X10_nodeAt l g hN hB.2.1 v hv kv y61 (by omega) (by omega)) q_cX10_66 q_dX10_nodeAt (by decide) rfl rfl hl.1 rfl (Nat.le_of_ble_eq_true rfl) dX10_miss_57 (fun y63 H locs f62 h64 hF hB => ?_)
    obtain ⟨rfl, hy63, ky63⟩ := h64
    refine q_ald_n cx dX10_miss_60 rfl (lv_at hl 2 rfl) ?_
    refine q_ild_n cx dX10_miss_61 rfl (lv_at hl 1 rfl) ?_
    refine q_cVr (As := [.int (q_i y58)]) (rest := [.ref y63]) cx hB (fun _ h => h) hN hv kv (by decide) rfl (g_X10_nodeAt l g hN hB.2.1 v hv kv y58 (by omega) (by omega)) q_cX10_66 q_dX10_nodeAt (by decide) rfl rfl hl.1 rfl (Nat.le_of_ble_eq_true rfl) dX10_miss_62 (fun y66 H locs f65 h67 hF hB => ?_)
    obtain ⟨rfl, hy66, ky66⟩ := h67
    obtain ⟨x68, ex68⟩ : ∃ zz, q_is (q_z f48 y66 3) zz := ⟨_, q_isr _⟩
    refine q_gX10_98 cx hB hy66 ky66 ex68 dX10_miss_65 (fun lb69 ub69 => ?_)
    refine q_pX10_98 cx hB hy63 ky63 ⟨by omega, by omega⟩ (by omega) (by omega) rfl dX10_miss_68 (fun H locs f70 ef70 z71 hB => ?_)
    refine q_ald_n cx dX10_miss_71 rfl (lv_at hl 3 rfl) ?_
    refine q_iconst cx dX10_miss_72 ?_
    refine q_pX10_122 cx hB hp0 kp0 ⟨by decide, by decide⟩ (by decide) (by decide) rfl dX10_miss_73 (fun H locs f72 ef72 z73 hB => ?_)
    refine q_ald_n cx dX10_miss_76 rfl (lv_at hl 2 rfl) ?_
    refine lv_dup cx.1 cx.2.1 dX10_miss_77 rfl ?_
    obtain ⟨x74, ex74⟩ : ∃ zz, q_is (q_z f72 v 12) zz := ⟨_, q_isr _⟩
    refine q_gX10_63 cx hB hv kv ex74 dX10_miss_78 (fun lb75 ub75 => ?_)
    refine q_iconst cx dX10_miss_81 ?_
    refine q_iadd cx dX10_miss_82 ?_
    refine q_any (fun y76 ry76 ey76 => ?_)
    refine q_pX10_63 cx hB hv kv ⟨by omega, by omega⟩ (by omega) (by omega) rfl dX10_miss_83 (fun H locs f77 ef77 z78 hB => ?_)
    exact J86 f77 H locs hB ls (lv_sub hl [] rfl)
