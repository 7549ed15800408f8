set_option maxHeartbeats 4000000 in
set_option maxRecDepth 100000 in
theorem g_X10_canSend_3 (l : Launch) (g : q_G) {K : Nat → Nat} {L : List Nat} (hN : L.Nodup) {f : Nat → va_E} (hT : q_Ty g K L f) (v : Nat) (hv : v ∈ L) (kv : K v = 15) (p0 : Int) (lp0 : (-2147483648) ≤ p0) (up0 : p0 ≤ 2147483647) (p1 : Int) (lp1 : (-2147483648) ≤ p1) (up1 : p1 ≤ 2147483647) : q_Ct l g K L yX10_canSend cX10_canSend 3 (some .boolean) 2 42 [.ref v, .int (q_i p0), .int (q_i p1)] f [] (q_Pi (fun (z : Int) (f1 : Nat → va_E) => f = f1 ∧ 0 ≤ z ∧ z ≤ 1)) := by
  refine q_ofb (by decide +kernel) hN hT (Nat.le_of_ble_eq_true rfl) ?_
  intro p e s m below meth c ls cx hr hlk hB hl
  have hl : lv_has ls 3 [(0, .ref v), (1, .int (q_i p0)), (2, .int (q_i p1))] := hl
  have J30 : ∀ (t30_0 : Int) (lt30_0 : 0 ≤ t30_0) (ut30_0 : t30_0 ≤ 1) (H : Heap) (locs : List Loc) (hB : q_B g K L (fun q => q ∈ L) [] f f s H locs) (ls : Array Slot) (hl : lv_has ls 3 []), W p l e { frames := 2, cells := 0, slots := 0, locals := 42 } s m ([.ref v, .int (q_i p0), .int (q_i p1)] : List Value).toArray below meth c H locs 0 0 (MQ below (q_Q g K L [] f (q_Pi (fun (z : Int) (f1 : Nat → va_E) => f = f1 ∧ 0 ≤ z ∧ z ≤ 1))) ([.ref v, .int (q_i p0), .int (q_i p1)] : List Value).toArray s 0 0 (fun q => q ∈ L)) (F0 m 30 ls [.int (q_i t30_0)]) := by
    intro t30_0 lt30_0 ut30_0 H locs hB ls hl
    refine q_zret cx hr hlk hB dX10_canSend_30 (by omega) (by omega) ?_
    exact ⟨rfl, (by omega), (by omega)⟩
  have J29 : ∀  (H : Heap) (locs : List Loc) (hB : q_B g K L (fun q => q ∈ L) [] f f s H locs) (ls : Array Slot) (hl : lv_has ls 3 []), W p l e { frames := 2, cells := 0, slots := 0, locals := 42 } s m ([.ref v, .int (q_i p0), .int (q_i p1)] : List Value).toArray below meth c H locs 0 0 (MQ below (q_Q g K L [] f (q_Pi (fun (z : Int) (f1 : Nat → va_E) => f = f1 ∧ 0 ≤ z ∧ z ≤ 1))) ([.ref v, .int (q_i p0), .int (q_i p1)] : List Value).toArray s 0 0 (fun q => q ∈ L)) (F0 m 29 ls []) := by
    intro  H locs hB ls hl
    refine q_iconst cx dX10_canSend_29 ?_
    exact J30 0 (by decide) (by decide) H locs hB ls (lv_sub hl [] rfl)
  obtain ⟨H, hH⟩ : ∃ H : Heap, H = s.heap := ⟨_, rfl⟩
  obtain ⟨locs, hlocs⟩ : ∃ z : List Loc, z = [] := ⟨_, rfl⟩
  rw [← hH, ← hlocs] at hB
  rw [← hH, ← hlocs]
  refine q_ald_n cx dX10_canSend_0 rfl (lv_at hl 0 rfl) ?_
  refine q_ild_n cx dX10_canSend_1 rfl (lv_at hl 1 rfl) ?_
  refine q_cVi (As := [.int (q_i p0)]) (rest := []) cx hB (fun _ h => h) hN hv kv (by decide) rfl (g_X10_isOut_3 l g hN hB.2.1 v hv kv p0 (by omega) (by omega)) q_cX10_160 q_dX10_isOut (by decide) rfl rfl hl.1 rfl (Nat.le_of_ble_eq_true rfl) dX10_canSend_2 (fun y13 H locs f12 ry13 h14 hF hB => ?_)
  obtain ⟨rfl, ly13, uy13⟩ := h14
  refine q_ifne (tgt := 29) cx ⟨by omega, by omega⟩ dX10_canSend_5 (by decide) (fun c15 => ?_) (fun c15 => ?_)
  · exact J29  H locs hB ls (lv_sub hl [] rfl)
  · refine q_ald_n cx dX10_canSend_8 rfl (lv_at hl 0 rfl) ?_
    refine q_ild_n cx dX10_canSend_9 rfl (lv_at hl 2 rfl) ?_
    refine q_cVi (As := [.int (q_i p1)]) (rest := []) cx hB (fun _ h => h) hN hv kv (by decide) rfl (g_X10_isOut_3 l g hN hB.2.1 v hv kv p1 (by omega) (by omega)) q_cX10_160 q_dX10_isOut (by decide) rfl rfl hl.1 rfl (Nat.le_of_ble_eq_true rfl) dX10_canSend_10 (fun y17 H locs f16 ry17 h18 hF hB => ?_)
    obtain ⟨rfl, ly17, uy17⟩ := h18
    refine q_ifne (tgt := 29) cx ⟨by omega, by omega⟩ dX10_canSend_13 (by decide) (fun c19 => ?_) (fun c19 => ?_)
    · exact J29  H locs hB ls (lv_sub hl [] rfl)
    · refine q_ald_n cx dX10_canSend_16 rfl (lv_at hl 0 rfl) ?_
      obtain ⟨x20, ex20⟩ : ∃ zz, q_is (q_z f v 5) zz := ⟨_, q_isr _⟩
      refine q_gX10_42_15 cx hB hv kv ex20 dX10_canSend_17 (fun lb21 ub21 => ?_)
      refine q_bipush cx dX10_canSend_20 rfl ?_
      refine q_icge (tgt := 29) cx ⟨by omega, by omega⟩ ⟨by decide, by decide⟩ dX10_canSend_22 (by decide) (fun c22 => ?_) (fun c22 => ?_)
      · exact J29  H locs hB ls (lv_sub hl [] rfl)
      · refine q_iconst cx dX10_canSend_25 ?_
        refine lv_goto (tgt := 30) cx.1 cx.2.1 dX10_canSend_26 (by decide) ?_
        exact J30 1 (by decide) (by decide) H locs hB ls (lv_sub hl [] rfl)
set_option maxHeartbeats 4000000 in
set_option maxRecDepth 100000 in
theorem g_X10_canSend_4 (l : Launch) (g : q_G) {K : Nat → Nat} {L : List Nat} (hN : L.Nodup) {f : Nat → va_E} (hT : q_Ty g K L f) (v : Nat) (hv : v ∈ L) (kv : K v = 16) (p0 : Int) (lp0 : (-2147483648) ≤ p0) (up0 : p0 ≤ 2147483647) (p1 : Int) (lp1 : (-2147483648) ≤ p1) (up1 : p1 ≤ 2147483647) : q_Ct l g K L yX10_canSend cX10_canSend 3 (some .boolean) 2 42 [.ref v, .int (q_i p0), .int (q_i p1)] f [] (q_Pi (fun (z : Int) (f1 : Nat → va_E) => f = f1 ∧ 0 ≤ z ∧ z ≤ 1)) := by
  refine q_ofb (by decide +kernel) hN hT (Nat.le_of_ble_eq_true rfl) ?_
  intro p e s m below meth c ls cx hr hlk hB hl
  have hl : lv_has ls 3 [(0, .ref v), (1, .int (q_i p0)), (2, .int (q_i p1))] := hl
  have J30 : ∀ (t30_0 : Int) (lt30_0 : 0 ≤ t30_0) (ut30_0 : t30_0 ≤ 1) (H : Heap) (locs : List Loc) (hB : q_B g K L (fun q => q ∈ L) [] f f s H locs) (ls : Array Slot) (hl : lv_has ls 3 []), W p l e { frames := 2, cells := 0, slots := 0, locals := 42 } s m ([.ref v, .int (q_i p0), .int (q_i p1)] : List Value).toArray below meth c H locs 0 0 (MQ below (q_Q g K L [] f (q_Pi (fun (z : Int) (f1 : Nat → va_E) => f = f1 ∧ 0 ≤ z ∧ z ≤ 1))) ([.ref v, .int (q_i p0), .int (q_i p1)] : List Value).toArray s 0 0 (fun q => q ∈ L)) (F0 m 30 ls [.int (q_i t30_0)]) := by
    intro t30_0 lt30_0 ut30_0 H locs hB ls hl
    refine q_zret cx hr hlk hB dX10_canSend_30 (by omega) (by omega) ?_
    exact ⟨rfl, (by omega), (by omega)⟩
  have J29 : ∀  (H : Heap) (locs : List Loc) (hB : q_B g K L (fun q => q ∈ L) [] f f s H locs) (ls : Array Slot) (hl : lv_has ls 3 []), W p l e { frames := 2, cells := 0, slots := 0, locals := 42 } s m ([.ref v, .int (q_i p0), .int (q_i p1)] : List Value).toArray below meth c H locs 0 0 (MQ below (q_Q g K L [] f (q_Pi (fun (z : Int) (f1 : Nat → va_E) => f = f1 ∧ 0 ≤ z ∧ z ≤ 1))) ([.ref v, .int (q_i p0), .int (q_i p1)] : List Value).toArray s 0 0 (fun q => q ∈ L)) (F0 m 29 ls []) := by
    intro  H locs hB ls hl
    refine q_iconst cx dX10_canSend_29 ?_
    exact J30 0 (by decide) (by decide) H locs hB ls (lv_sub hl [] rfl)
  obtain ⟨H, hH⟩ : ∃ H : Heap, H = s.heap := ⟨_, rfl⟩
  obtain ⟨locs, hlocs⟩ : ∃ z : List Loc, z = [] := ⟨_, rfl⟩
  rw [← hH, ← hlocs] at hB
  rw [← hH, ← hlocs]
  refine q_ald_n cx dX10_canSend_0 rfl (lv_at hl 0 rfl) ?_
  refine q_ild_n cx dX10_canSend_1 rfl (lv_at hl 1 rfl) ?_
  refine q_cVi (As := [.int (q_i p0)]) (rest := []) cx hB (fun _ h => h) hN hv kv (by decide) rfl (g_X10_isOut_4 l g hN hB.2.1 v hv kv p0 (by omega) (by omega)) q_cX10_160 q_dX10_isOut (by decide) rfl rfl hl.1 rfl (Nat.le_of_ble_eq_true rfl) dX10_canSend_2 (fun y13 H locs f12 ry13 h14 hF hB => ?_)
  obtain ⟨rfl, ly13, uy13⟩ := h14
  refine q_ifne (tgt := 29) cx ⟨by omega, by omega⟩ dX10_canSend_5 (by decide) (fun c15 => ?_) (fun c15 => ?_)
  · exact J29  H locs hB ls (lv_sub hl [] rfl)
  · refine q_ald_n cx dX10_canSend_8 rfl (lv_at hl 0 rfl) ?_
    refine q_ild_n cx dX10_canSend_9 rfl (lv_at hl 2 rfl) ?_
    refine q_cVi (As := [.int (q_i p1)]) (rest := []) cx hB (fun _ h => h) hN hv kv (by decide) rfl (g_X10_isOut_4 l g hN hB.2.1 v hv kv p1 (by omega) (by omega)) q_cX10_160 q_dX10_isOut (by decide) rfl rfl hl.1 rfl (Nat.le_of_ble_eq_true rfl) dX10_canSend_10 (fun y17 H locs f16 ry17 h18 hF hB => ?_)
    obtain ⟨rfl, ly17, uy17⟩ := h18
    refine q_ifne (tgt := 29) cx ⟨by omega, by omega⟩ dX10_canSend_13 (by decide) (fun c19 => ?_) (fun c19 => ?_)
    · exact J29  H locs hB ls (lv_sub hl [] rfl)
    · refine q_ald_n cx dX10_canSend_16 rfl (lv_at hl 0 rfl) ?_
      obtain ⟨x20, ex20⟩ : ∃ zz, q_is (q_z f v 5) zz := ⟨_, q_isr _⟩
      refine q_gX10_42_16 cx hB hv kv ex20 dX10_canSend_17 (fun lb21 ub21 => ?_)
      refine q_bipush cx dX10_canSend_20 rfl ?_
      refine q_icge (tgt := 29) cx ⟨by omega, by omega⟩ ⟨by decide, by decide⟩ dX10_canSend_22 (by decide) (fun c22 => ?_) (fun c22 => ?_)
      · exact J29  H locs hB ls (lv_sub hl [] rfl)
      · refine q_iconst cx dX10_canSend_25 ?_
        refine lv_goto (tgt := 30) cx.1 cx.2.1 dX10_canSend_26 (by decide) ?_
        exact J30 1 (by decide) (by decide) H locs hB ls (lv_sub hl [] rfl)
set_option maxHeartbeats 4000000 in
set_option maxRecDepth 100000 in
theorem g_X7_performSend (l : Launch) (g : q_G) {K : Nat → Nat} {L : List Nat} (hN : L.Nodup) {f : Nat → va_E} (hT : q_Ty g K L f) (p0 : Nat) (hp0 : p0 ∈ L) (kp0 : K p0 = 0) (p1 : Nat) (hp1 : p1 ∈ L) (kp1 : K p1 = 10) (p2 : Int) (lp2 : 0 ≤ p2) (up2 : p2 ≤ 1) : q_Ct l g K L yX7_performSend cX7_performSend 3 (some .boolean) 3 64 [.ref p0, .ref p1, .int (q_i p2)] f [(4, 0, 7), (10, 5, 5)] (q_Pi (fun (z : Int) (f1 : Nat → va_E) => 0 ≤ z ∧ z ≤ 1)) := by
  refine q_ofb (by decide +kernel) hN hT (Nat.le_of_ble_eq_true rfl) ?_
  intro p e s m below meth c ls cx hr hlk hB hl
  have hl : lv_has ls 3 [(0, .ref p0), (1, .ref p1), (2, .int (q_i p2))] := hl
  have J33 : ∀  (H : Heap) (locs : List Loc) (hB : q_B g K L (fun q => q ∈ L) [(4, 0, 7), (10, 5, 5)] f f s H locs) (ls : Array Slot) (hl : lv_has ls 3 []), W p l e { frames := 3, cells := 0, slots := 0, locals := 64 } s m ([.ref p0, .ref p1, .int (q_i p2)] : List Value).toArray below meth c H locs 0 0 (MQ below (q_Q g K L [(4, 0, 7), (10, 5, 5)] f (q_Pi (fun (z : Int) (f1 : Nat → va_E) => 0 ≤ z ∧ z ≤ 1))) ([.ref p0, .ref p1, .int (q_i p2)] : List Value).toArray s 0 0 (fun q => q ∈ L)) (F0 m 33 ls []) := by
    intro  H locs hB ls hl
    refine q_iconst cx dX7_performSend_33 ?_
    refine q_zret cx hr hlk hB dX7_performSend_34 (by decide) (by decide) ?_
    exact ⟨(by decide), (by decide)⟩
  obtain ⟨H, hH⟩ : ∃ H : Heap, H = s.heap := ⟨_, rfl⟩
  obtain ⟨locs, hlocs⟩ : ∃ z : List Loc, z = [] := ⟨_, rfl⟩
  rw [← hH, ← hlocs] at hB
  rw [← hH, ← hlocs]
  refine q_ald_n cx dX7_performSend_0 rfl (lv_at hl 0 rfl) ?_
  obtain ⟨x23, ex23⟩ : ∃ zz, q_is (q_z f p0 2) zz := ⟨_, q_isr _⟩
  refine q_gX7_118 cx hB hp0 kp0 ex23 dX7_performSend_1 (fun lb24 ub24 => ?_)
  refine q_ald_n cx dX7_performSend_4 rfl (lv_at hl 0 rfl) ?_
  obtain ⟨x25, ex25⟩ : ∃ zz, q_is (q_z f p0 3) zz := ⟨_, q_isr _⟩
  refine q_gX7_121 cx hB hp0 kp0 ex25 dX7_performSend_5 (fun lb26 ub26 => ?_)
  refine q_ald_n cx dX7_performSend_8 rfl (lv_at hl 0 rfl) ?_
  obtain ⟨x27, ex27⟩ : ∃ zz, q_is (q_z f p0 1) zz := ⟨_, q_isr _⟩
  refine q_gX7_102 cx hB hp0 kp0 ex27 dX7_performSend_9 (fun lb28 ub28 => ?_)
  refine q_cSi (As := [.int (q_i x23), .int (q_i x25), .int (q_i x27)]) (rest := []) cx hB (fun _ h => h) hN (g_X10_isSending l g hN hB.2.1 x23 (by omega) (by omega) x25 (by omega) (by omega) x27 (by omega) (by omega)) q_cX7_163 q_dX10_isSending (by decide) rfl rfl hl.1 rfl (Nat.le_of_ble_eq_true rfl) dX7_performSend_12 (fun y30 H locs f29 ry30 h31 hF hB => ?_)
  obtain ⟨rfl, ly30, uy30⟩ := h31
  refine q_ifeq (tgt := 33) cx ⟨by omega, by omega⟩ dX7_performSend_15 (by decide) (fun c32 => ?_) (fun c32 => ?_)
  · exact J33  H locs hB ls (lv_sub hl [] rfl)
  · refine q_ald_n cx dX7_performSend_18 rfl (lv_at hl 1 rfl) ?_
    refine q_ald_n cx dX7_performSend_19 rfl (lv_at hl 0 rfl) ?_
    refine q_gX7_118 cx hB hp0 kp0 ex23 dX7_performSend_20 (fun lb33 ub33 => ?_)
    refine q_ald_n cx dX7_performSend_23 rfl (lv_at hl 0 rfl) ?_
    refine q_gX7_121 cx hB hp0 kp0 ex25 dX7_performSend_24 (fun lb34 ub34 => ?_)
    refine q_cVi (As := [.int (q_i x23), .int (q_i x25)]) (rest := []) cx hB (fun _ h => h) hN hp1 kp1 (by decide) rfl (g_X10_canSend l g hN hB.2.1 p1 hp1 kp1 x23 (by omega) (by omega) x25 (by omega) (by omega)) q_cX7_167 q_dX10_canSend (by decide) rfl rfl hl.1 rfl (Nat.le_of_ble_eq_true rfl) dX7_performSend_27 (fun y36 H locs f35 ry36 h37 hF hB => ?_)
    obtain ⟨rfl, ly36, uy36⟩ := h37
    refine q_ifne (tgt := 35) cx ⟨by omega, by omega⟩ dX7_performSend_30 (by decide) (fun c38 => ?_) (fun c38 => ?_)
    · refine q_ald_n cx dX7_performSend_35 rfl (lv_at hl 1 rfl) ?_
      refine q_ald_n cx dX7_performSend_36 rfl (lv_at hl 0 rfl) ?_
      refine q_gX7_118 cx hB hp0 kp0 ex23 dX7_performSend_37 (fun lb39 ub39 => ?_)
      refine q_ald_n cx dX7_performSend_40 rfl (lv_at hl 0 rfl) ?_
      refine q_gX7_121 cx hB hp0 kp0 ex25 dX7_performSend_41 (fun lb40 ub40 => ?_)
      refine q_ald_n cx dX7_performSend_44 rfl (lv_at hl 0 rfl) ?_
      refine q_gX7_102 cx hB hp0 kp0 ex27 dX7_performSend_45 (fun lb41 ub41 => ?_)
      refine q_ild_n cx dX7_performSend_48 rfl (lv_at hl 2 rfl) ?_
      refine q_cVi (As := [.int (q_i x23), .int (q_i x25), .int (q_i x27), .int (q_i p2)]) (rest := []) cx hB (fun _ h => h) hN hp1 kp1 (by decide) rfl (g_X10_addMessage l g hN hB.2.1 p1 hp1 kp1 x23 (by omega) (by omega) x25 (by omega) (by omega) x27 (by omega) (by omega) p2 (by omega) (by omega)) q_cX7_170 q_dX10_addMessage (by decide) rfl rfl hl.1 rfl (Nat.le_of_ble_eq_true rfl) dX7_performSend_49 (fun y43 H locs f42 ry43 h44 hF hB => ?_)
      obtain ⟨ly43, uy43⟩ := h44
      refine lv_pop cx.1 cx.2.1 dX7_performSend_52 rfl ?_
      refine q_iconst cx dX7_performSend_53 ?_
      refine q_zret cx hr hlk hB dX7_performSend_54 (by decide) (by decide) ?_
      exact ⟨(by decide), (by decide)⟩
    · exact J33  H locs hB ls (lv_sub hl [] rfl)
set_option maxHeartbeats 4000000 in
set_option maxRecDepth 100000 in
theorem g_X10_isDay (l : Launch) (g : q_G) {K : Nat → Nat} {L : List Nat} (hN : L.Nodup) {f : Nat → va_E} (hT : q_Ty g K L f) (v : Nat) (hv : v ∈ L) (kv : K v = 10) (p0 : Int) (lp0 : (-2147483648) ≤ p0) (up0 : p0 ≤ 2147483647) : q_Ct l g K L yX10_isDay cX10_isDay 2 (some .boolean) 0 0 [.ref v, .int (q_i p0)] f [] (q_Pi (fun (z : Int) (f1 : Nat → va_E) => f = f1 ∧ 0 ≤ z ∧ z ≤ 1)) := by
  refine q_ofb (by decide +kernel) hN hT (Nat.le_of_ble_eq_true rfl) ?_
  intro p e s m below meth c ls cx hr hlk hB hl
  have hl : lv_has ls 2 [(0, .ref v), (1, .int (q_i p0))] := hl
  have J17 : ∀ (t17_0 : Int) (lt17_0 : 0 ≤ t17_0) (ut17_0 : t17_0 ≤ 1) (H : Heap) (locs : List Loc) (hB : q_B g K L (fun q => q ∈ L) [] f f s H locs) (ls : Array Slot) (hl : lv_has ls 2 []), W p l e { frames := 0, cells := 0, slots := 0, locals := 0 } s m ([.ref v, .int (q_i p0)] : List Value).toArray below meth c H locs 0 0 (MQ below (q_Q g K L [] f (q_Pi (fun (z : Int) (f1 : Nat → va_E) => f = f1 ∧ 0 ≤ z ∧ z ≤ 1))) ([.ref v, .int (q_i p0)] : List Value).toArray s 0 0 (fun q => q ∈ L)) (F0 m 17 ls [.int (q_i t17_0)]) := by
    intro t17_0 lt17_0 ut17_0 H locs hB ls hl
    refine q_zret cx hr hlk hB dX10_isDay_17 (by omega) (by omega) ?_
    exact ⟨rfl, (by omega), (by omega)⟩
  have J16 : ∀  (H : Heap) (locs : List Loc) (hB : q_B g K L (fun q => q ∈ L) [] f f s H locs) (ls : Array Slot) (hl : lv_has ls 2 []), W p l e { frames := 0, cells := 0, slots := 0, locals := 0 } s m ([.ref v, .int (q_i p0)] : List Value).toArray below meth c H locs 0 0 (MQ below (q_Q g K L [] f (q_Pi (fun (z : Int) (f1 : Nat → va_E) => f = f1 ∧ 0 ≤ z ∧ z ≤ 1))) ([.ref v, .int (q_i p0)] : List Value).toArray s 0 0 (fun q => q ∈ L)) (F0 m 16 ls []) := by
    intro  H locs hB ls hl
    refine q_iconst cx dX10_isDay_16 ?_
    exact J17 0 (by decide) (by decide) H locs hB ls (lv_sub hl [] rfl)
  obtain ⟨H, hH⟩ : ∃ H : Heap, H = s.heap := ⟨_, rfl⟩
  obtain ⟨locs, hlocs⟩ : ∃ z : List Loc, z = [] := ⟨_, rfl⟩
  rw [← hH, ← hlocs] at hB
  rw [← hH, ← hlocs]
  refine q_ild_n cx dX10_isDay_0 rfl (lv_at hl 1 rfl) ?_
  refine q_iflt (tgt := 16) cx ⟨by omega, by omega⟩ dX10_isDay_1 (by decide) (fun c5 => ?_) (fun c5 => ?_)
  · exact J16  H locs hB ls (lv_sub hl [] rfl)
  · refine q_ild_n cx dX10_isDay_4 rfl (lv_at hl 1 rfl) ?_
    refine q_ald_n cx dX10_isDay_5 rfl (lv_at hl 0 rfl) ?_
    obtain ⟨x6, ex6⟩ : ∃ zz, q_is (q_z f v 6) zz := ⟨_, q_isr _⟩
    refine q_gX10_45 cx hB hv kv ex6 dX10_isDay_6 (fun lb7 ub7 => ?_)
    refine q_icge (tgt := 16) cx ⟨by omega, by omega⟩ ⟨by omega, by omega⟩ dX10_isDay_9 (by decide) (fun c8 => ?_) (fun c8 => ?_)
    · exact J16  H locs hB ls (lv_sub hl [] rfl)
    · refine q_iconst cx dX10_isDay_12 ?_
      refine lv_goto (tgt := 17) cx.1 cx.2.1 dX10_isDay_13 (by decide) ?_
      exact J17 1 (by decide) (by decide) H locs hB ls (lv_sub hl [] rfl)
set_option maxHeartbeats 4000000 in
set_option maxRecDepth 100000 in
theorem g_X10_isDay_1 (l : Launch) (g : q_G) {K : Nat → Nat} {L : List Nat} (hN : L.Nodup) {f : Nat → va_E} (hT : q_Ty g K L f) (v : Nat) (hv : v ∈ L) (kv : K v = 13) (p0 : Int) (lp0 : (-2147483648) ≤ p0) (up0 : p0 ≤ 2147483647) : q_Ct l g K L yX10_isDay cX10_isDay 2 (some .boolean) 0 0 [.ref v, .int (q_i p0)] f [] (q_Pi (fun (z : Int) (f1 : Nat → va_E) => f = f1 ∧ 0 ≤ z ∧ z ≤ 1)) := by
  refine q_ofb (by decide +kernel) hN hT (Nat.le_of_ble_eq_true rfl) ?_
  intro p e s m below meth c ls cx hr hlk hB hl
  have hl : lv_has ls 2 [(0, .ref v), (1, .int (q_i p0))] := hl
  have J17 : ∀ (t17_0 : Int) (lt17_0 : 0 ≤ t17_0) (ut17_0 : t17_0 ≤ 1) (H : Heap) (locs : List Loc) (hB : q_B g K L (fun q => q ∈ L) [] f f s H locs) (ls : Array Slot) (hl : lv_has ls 2 []), W p l e { frames := 0, cells := 0, slots := 0, locals := 0 } s m ([.ref v, .int (q_i p0)] : List Value).toArray below meth c H locs 0 0 (MQ below (q_Q g K L [] f (q_Pi (fun (z : Int) (f1 : Nat → va_E) => f = f1 ∧ 0 ≤ z ∧ z ≤ 1))) ([.ref v, .int (q_i p0)] : List Value).toArray s 0 0 (fun q => q ∈ L)) (F0 m 17 ls [.int (q_i t17_0)]) := by
    intro t17_0 lt17_0 ut17_0 H locs hB ls hl
    refine q_zret cx hr hlk hB dX10_isDay_17 (by omega) (by omega) ?_
    exact ⟨rfl, (by omega), (by omega)⟩
  have J16 : ∀  (H : Heap) (locs : List Loc) (hB : q_B g K L (fun q => q ∈ L) [] f f s H locs) (ls : Array Slot) (hl : lv_has ls 2 []), W p l e { frames := 0, cells := 0, slots := 0, locals := 0 } s m ([.ref v, .int (q_i p0)] : List Value).toArray below meth c H locs 0 0 (MQ below (q_Q g K L [] f (q_Pi (fun (z : Int) (f1 : Nat → va_E) => f = f1 ∧ 0 ≤ z ∧ z ≤ 1))) ([.ref v, .int (q_i p0)] : List Value).toArray s 0 0 (fun q => q ∈ L)) (F0 m 16 ls []) := by
    intro  H locs hB ls hl
    refine q_iconst cx dX10_isDay_16 ?_
    exact J17 0 (by decide) (by decide) H locs hB ls (lv_sub hl [] rfl)
  obtain ⟨H, hH⟩ : ∃ H : Heap, H = s.heap := ⟨_, rfl⟩
  obtain ⟨locs, hlocs⟩ : ∃ z : List Loc, z = [] := ⟨_, rfl⟩
  rw [← hH, ← hlocs] at hB
  rw [← hH, ← hlocs]
  refine q_ild_n cx dX10_isDay_0 rfl (lv_at hl 1 rfl) ?_
  refine q_iflt (tgt := 16) cx ⟨by omega, by omega⟩ dX10_isDay_1 (by decide) (fun c5 => ?_) (fun c5 => ?_)
  · exact J16  H locs hB ls (lv_sub hl [] rfl)
  · refine q_ild_n cx dX10_isDay_4 rfl (lv_at hl 1 rfl) ?_
    refine q_ald_n cx dX10_isDay_5 rfl (lv_at hl 0 rfl) ?_
    obtain ⟨x6, ex6⟩ : ∃ zz, q_is (q_z f v 6) zz := ⟨_, q_isr _⟩
    refine q_gX10_45_13 cx hB hv kv ex6 dX10_isDay_6 (fun lb7 ub7 => ?_)
    refine q_icge (tgt := 16) cx ⟨by omega, by omega⟩ ⟨by omega, by omega⟩ dX10_isDay_9 (by decide) (fun c8 => ?_) (fun c8 => ?_)
    · exact J16  H locs hB ls (lv_sub hl [] rfl)
    · refine q_iconst cx dX10_isDay_12 ?_
      refine lv_goto (tgt := 17) cx.1 cx.2.1 dX10_isDay_13 (by decide) ?_
      exact J17 1 (by decide) (by decide) H locs hB ls (lv_sub hl [] rfl)
set_option maxHeartbeats 4000000 in
set_option maxRecDepth 100000 in
theorem g_X10_isDay_2 (l : Launch) (g : q_G) {K : Nat → Nat} {L : List Nat} (hN : L.Nodup) {f : Nat → va_E} (hT : q_Ty g K L f) (v : Nat) (hv : v ∈ L) (kv : K v = 14) (p0 : Int) (lp0 : (-2147483648) ≤ p0) (up0 : p0 ≤ 2147483647) : q_Ct l g K L yX10_isDay cX10_isDay 2 (some .boolean) 0 0 [.ref v, .int (q_i p0)] f [] (q_Pi (fun (z : Int) (f1 : Nat → va_E) => f = f1 ∧ 0 ≤ z ∧ z ≤ 1)) := by
  refine q_ofb (by decide +kernel) hN hT (Nat.le_of_ble_eq_true rfl) ?_
  intro p e s m below meth c ls cx hr hlk hB hl
  have hl : lv_has ls 2 [(0, .ref v), (1, .int (q_i p0))] := hl
  have J17 : ∀ (t17_0 : Int) (lt17_0 : 0 ≤ t17_0) (ut17_0 : t17_0 ≤ 1) (H : Heap) (locs : List Loc) (hB : q_B g K L (fun q => q ∈ L) [] f f s H locs) (ls : Array Slot) (hl : lv_has ls 2 []), W p l e { frames := 0, cells := 0, slots := 0, locals := 0 } s m ([.ref v, .int (q_i p0)] : List Value).toArray below meth c H locs 0 0 (MQ below (q_Q g K L [] f (q_Pi (fun (z : Int) (f1 : Nat → va_E) => f = f1 ∧ 0 ≤ z ∧ z ≤ 1))) ([.ref v, .int (q_i p0)] : List Value).toArray s 0 0 (fun q => q ∈ L)) (F0 m 17 ls [.int (q_i t17_0)]) := by
    intro t17_0 lt17_0 ut17_0 H locs hB ls hl
    refine q_zret cx hr hlk hB dX10_isDay_17 (by omega) (by omega) ?_
    exact ⟨rfl, (by omega), (by omega)⟩
  have J16 : ∀  (H : Heap) (locs : List Loc) (hB : q_B g K L (fun q => q ∈ L) [] f f s H locs) (ls : Array Slot) (hl : lv_has ls 2 []), W p l e { frames := 0, cells := 0, slots := 0, locals := 0 } s m ([.ref v, .int (q_i p0)] : List Value).toArray below meth c H locs 0 0 (MQ below (q_Q g K L [] f (q_Pi (fun (z : Int) (f1 : Nat → va_E) => f = f1 ∧ 0 ≤ z ∧ z ≤ 1))) ([.ref v, .int (q_i p0)] : List Value).toArray s 0 0 (fun q => q ∈ L)) (F0 m 16 ls []) := by
    intro  H locs hB ls hl
    refine q_iconst cx dX10_isDay_16 ?_
    exact J17 0 (by decide) (by decide) H locs hB ls (lv_sub hl [] rfl)
  obtain ⟨H, hH⟩ : ∃ H : Heap, H = s.heap := ⟨_, rfl⟩
  obtain ⟨locs, hlocs⟩ : ∃ z : List Loc, z = [] := ⟨_, rfl⟩
  rw [← hH, ← hlocs] at hB
  rw [← hH, ← hlocs]
  refine q_ild_n cx dX10_isDay_0 rfl (lv_at hl 1 rfl) ?_
  refine q_iflt (tgt := 16) cx ⟨by omega, by omega⟩ dX10_isDay_1 (by decide) (fun c5 => ?_) (fun c5 => ?_)
  · exact J16  H locs hB ls (lv_sub hl [] rfl)
  · refine q_ild_n cx dX10_isDay_4 rfl (lv_at hl 1 rfl) ?_
    refine q_ald_n cx dX10_isDay_5 rfl (lv_at hl 0 rfl) ?_
    obtain ⟨x6, ex6⟩ : ∃ zz, q_is (q_z f v 6) zz := ⟨_, q_isr _⟩
    refine q_gX10_45_14 cx hB hv kv ex6 dX10_isDay_6 (fun lb7 ub7 => ?_)
    refine q_icge (tgt := 16) cx ⟨by omega, by omega⟩ ⟨by omega, by omega⟩ dX10_isDay_9 (by decide) (fun c8 => ?_) (fun c8 => ?_)
    · exact J16  H locs hB ls (lv_sub hl [] rfl)
    · refine q_iconst cx dX10_isDay_12 ?_
      refine lv_goto (tgt := 17) cx.1 cx.2.1 dX10_isDay_13 (by decide) ?_
      exact J17 1 (by decide) (by decide) H locs hB ls (lv_sub hl [] rfl)
set_option maxHeartbeats 4000000 in
set_option maxRecDepth 100000 in
theorem g_X10_isDay_3 (l : Launch) (g : q_G) {K : Nat → Nat} {L : List Nat} (hN : L.Nodup) {f : Nat → va_E} (hT : q_Ty g K L f) (v : Nat) (hv : v ∈ L) (kv : K v = 15) (p0 : Int) (lp0 : (-2147483648) ≤ p0) (up0 : p0 ≤ 2147483647) : q_Ct l g K L yX10_isDay cX10_isDay 2 (some .boolean) 0 0 [.ref v, .int (q_i p0)] f [] (q_Pi (fun (z : Int) (f1 : Nat → va_E) => f = f1 ∧ 0 ≤ z ∧ z ≤ 1)) := by
  refine q_ofb (by decide +kernel) hN hT (Nat.le_of_ble_eq_true rfl) ?_
  intro p e s m below meth c ls cx hr hlk hB hl
  have hl : lv_has ls 2 [(0, .ref v), (1, .int (q_i p0))] := hl
  have J17 : ∀ (t17_0 : Int) (lt17_0 : 0 ≤ t17_0) (ut17_0 : t17_0 ≤ 1) (H : Heap) (locs : List Loc) (hB : q_B g K L (fun q => q ∈ L) [] f f s H locs) (ls : Array Slot) (hl : lv_has ls 2 []), W p l e { frames := 0, cells := 0, slots := 0, locals := 0 } s m ([.ref v, .int (q_i p0)] : List Value).toArray below meth c H locs 0 0 (MQ below (q_Q g K L [] f (q_Pi (fun (z : Int) (f1 : Nat → va_E) => f = f1 ∧ 0 ≤ z ∧ z ≤ 1))) ([.ref v, .int (q_i p0)] : List Value).toArray s 0 0 (fun q => q ∈ L)) (F0 m 17 ls [.int (q_i t17_0)]) := by
    intro t17_0 lt17_0 ut17_0 H locs hB ls hl
    refine q_zret cx hr hlk hB dX10_isDay_17 (by omega) (by omega) ?_
    exact ⟨rfl, (by omega), (by omega)⟩
  have J16 : ∀  (H : Heap) (locs : List Loc) (hB : q_B g K L (fun q => q ∈ L) [] f f s H locs) (ls : Array Slot) (hl : lv_has ls 2 []), W p l e { frames := 0, cells := 0, slots := 0, locals := 0 } s m ([.ref v, .int (q_i p0)] : List Value).toArray below meth c H locs 0 0 (MQ below (q_Q g K L [] f (q_Pi (fun (z : Int) (f1 : Nat → va_E) => f = f1 ∧ 0 ≤ z ∧ z ≤ 1))) ([.ref v, .int (q_i p0)] : List Value).toArray s 0 0 (fun q => q ∈ L)) (F0 m 16 ls []) := by
    intro  H locs hB ls hl
    refine q_iconst cx dX10_isDay_16 ?_
    exact J17 0 (by decide) (by decide) H locs hB ls (lv_sub hl [] rfl)
  obtain ⟨H, hH⟩ : ∃ H : Heap, H = s.heap := ⟨_, rfl⟩
  obtain ⟨locs, hlocs⟩ : ∃ z : List Loc, z = [] := ⟨_, rfl⟩
  rw [← hH, ← hlocs] at hB
  rw [← hH, ← hlocs]
  refine q_ild_n cx dX10_isDay_0 rfl (lv_at hl 1 rfl) ?_
  refine q_iflt (tgt := 16) cx ⟨by omega, by omega⟩ dX10_isDay_1 (by decide) (fun c5 => ?_) (fun c5 => ?_)
  · exact J16  H locs hB ls (lv_sub hl [] rfl)
  · refine q_ild_n cx dX10_isDay_4 rfl (lv_at hl 1 rfl) ?_
    refine q_ald_n cx dX10_isDay_5 rfl (lv_at hl 0 rfl) ?_
    obtain ⟨x6, ex6⟩ : ∃ zz, q_is (q_z f v 6) zz := ⟨_, q_isr _⟩
    refine q_gX10_45_15 cx hB hv kv ex6 dX10_isDay_6 (fun lb7 ub7 => ?_)
    refine q_icge (tgt := 16) cx ⟨by omega, by omega⟩ ⟨by omega, by omega⟩ dX10_isDay_9 (by decide) (fun c8 => ?_) (fun c8 => ?_)
    · exact J16  H locs hB ls (lv_sub hl [] rfl)
    · refine q_iconst cx dX10_isDay_12 ?_
      refine lv_goto (tgt := 17) cx.1 cx.2.1 dX10_isDay_13 (by decide) ?_
      exact J17 1 (by decide) (by decide) H locs hB ls (lv_sub hl [] rfl)
set_option maxHeartbeats 4000000 in
set_option maxRecDepth 100000 in
theorem g_X10_isDay_4 (l : Launch) (g : q_G) {K : Nat → Nat} {L : List Nat} (hN : L.Nodup) {f : Nat → va_E} (hT : q_Ty g K L f) (v : Nat) (hv : v ∈ L) (kv : K v = 16) (p0 : Int) (lp0 : (-2147483648) ≤ p0) (up0 : p0 ≤ 2147483647) : q_Ct l g K L yX10_isDay cX10_isDay 2 (some .boolean) 0 0 [.ref v, .int (q_i p0)] f [] (q_Pi (fun (z : Int) (f1 : Nat → va_E) => f = f1 ∧ 0 ≤ z ∧ z ≤ 1)) := by
  refine q_ofb (by decide +kernel) hN hT (Nat.le_of_ble_eq_true rfl) ?_
  intro p e s m below meth c ls cx hr hlk hB hl
  have hl : lv_has ls 2 [(0, .ref v), (1, .int (q_i p0))] := hl
  have J17 : ∀ (t17_0 : Int) (lt17_0 : 0 ≤ t17_0) (ut17_0 : t17_0 ≤ 1) (H : Heap) (locs : List Loc) (hB : q_B g K L (fun q => q ∈ L) [] f f s H locs) (ls : Array Slot) (hl : lv_has ls 2 []), W p l e { frames := 0, cells := 0, slots := 0, locals := 0 } s m ([.ref v, .int (q_i p0)] : List Value).toArray below meth c H locs 0 0 (MQ below (q_Q g K L [] f (q_Pi (fun (z : Int) (f1 : Nat → va_E) => f = f1 ∧ 0 ≤ z ∧ z ≤ 1))) ([.ref v, .int (q_i p0)] : List Value).toArray s 0 0 (fun q => q ∈ L)) (F0 m 17 ls [.int (q_i t17_0)]) := by
    intro t17_0 lt17_0 ut17_0 H locs hB ls hl
    refine q_zret cx hr hlk hB dX10_isDay_17 (by omega) (by omega) ?_
    exact ⟨rfl, (by omega), (by omega)⟩
  have J16 : ∀  (H : Heap) (locs : List Loc) (hB : q_B g K L (fun q => q ∈ L) [] f f s H locs) (ls : Array Slot) (hl : lv_has ls 2 []), W p l e { frames := 0, cells := 0, slots := 0, locals := 0 } s m ([.ref v, .int (q_i p0)] : List Value).toArray below meth c H locs 0 0 (MQ below (q_Q g K L [] f (q_Pi (fun (z : Int) (f1 : Nat → va_E) => f = f1 ∧ 0 ≤ z ∧ z ≤ 1))) ([.ref v, .int (q_i p0)] : List Value).toArray s 0 0 (fun q => q ∈ L)) (F0 m 16 ls []) := by
    intro  H locs hB ls hl
    refine q_iconst cx dX10_isDay_16 ?_
    exact J17 0 (by decide) (by decide) H locs hB ls (lv_sub hl [] rfl)
  obtain ⟨H, hH⟩ : ∃ H : Heap, H = s.heap := ⟨_, rfl⟩
  obtain ⟨locs, hlocs⟩ : ∃ z : List Loc, z = [] := ⟨_, rfl⟩
  rw [← hH, ← hlocs] at hB
  rw [← hH, ← hlocs]
  refine q_ild_n cx dX10_isDay_0 rfl (lv_at hl 1 rfl) ?_
  refine q_iflt (tgt := 16) cx ⟨by omega, by omega⟩ dX10_isDay_1 (by decide) (fun c5 => ?_) (fun c5 => ?_)
  · exact J16  H locs hB ls (lv_sub hl [] rfl)
  · refine q_ild_n cx dX10_isDay_4 rfl (lv_at hl 1 rfl) ?_
    refine q_ald_n cx dX10_isDay_5 rfl (lv_at hl 0 rfl) ?_
    obtain ⟨x6, ex6⟩ : ∃ zz, q_is (q_z f v 6) zz := ⟨_, q_isr _⟩
    refine q_gX10_45_16 cx hB hv kv ex6 dX10_isDay_6 (fun lb7 ub7 => ?_)
    refine q_icge (tgt := 16) cx ⟨by omega, by omega⟩ ⟨by omega, by omega⟩ dX10_isDay_9 (by decide) (fun c8 => ?_) (fun c8 => ?_)
    · exact J16  H locs hB ls (lv_sub hl [] rfl)
    · refine q_iconst cx dX10_isDay_12 ?_
      refine lv_goto (tgt := 17) cx.1 cx.2.1 dX10_isDay_13 (by decide) ?_
      exact J17 1 (by decide) (by decide) H locs hB ls (lv_sub hl [] rfl)
set_option maxHeartbeats 4000000 in
set_option maxRecDepth 100000 in
theorem g_X7_performShift (l : Launch) (g : q_G) {K : Nat → Nat} {L : List Nat} (hN : L.Nodup) {f : Nat → va_E} (hT : q_Ty g K L f) (p0 : Nat) (hp0 : p0 ∈ L) (kp0 : K p0 = 0) (p1 : Nat) (hp1 : p1 ∈ L) (kp1 : K p1 = 10) : q_Ct l g K L yX7_performShift cX7_performShift 2 (some .boolean) 1 21 [.ref p0, .ref p1] f [(5, 3, 3)] (q_Pi (fun (z : Int) (f1 : Nat → va_E) => 0 ≤ z ∧ z ≤ 1)) := by
  refine q_ofb (by decide +kernel) hN hT (Nat.le_of_ble_eq_true rfl) ?_
  intro p e s m below meth c ls cx hr hlk hB hl
  have hl : lv_has ls 2 [(0, .ref p0), (1, .ref p1)] := hl
  obtain ⟨H, hH⟩ : ∃ H : Heap, H = s.heap := ⟨_, rfl⟩
  obtain ⟨locs, hlocs⟩ : ∃ z : List Loc, z = [] := ⟨_, rfl⟩
  rw [← hH, ← hlocs] at hB
  rw [← hH, ← hlocs]
  refine q_ald_n cx dX7_performShift_0 rfl (lv_at hl 1 rfl) ?_
  refine q_ald_n cx dX7_performShift_1 rfl (lv_at hl 0 rfl) ?_
  obtain ⟨x17, ex17⟩ : ∃ zz, q_is (q_z f p0 1) zz := ⟨_, q_isr _⟩
  refine q_gX7_102 cx hB hp0 kp0 ex17 dX7_performShift_2 (fun lb18 ub18 => ?_)
  refine q_cVi (As := [.int (q_i x17)]) (rest := []) cx hB (fun _ h => h) hN hp1 kp1 (by decide) rfl (g_X10_isDay l g hN hB.2.1 p1 hp1 kp1 x17 (by omega) (by omega)) q_cX7_174 q_dX10_isDay (by decide) rfl rfl hl.1 rfl (Nat.le_of_ble_eq_true rfl) dX7_performShift_5 (fun y20 H locs f19 ry20 h21 hF hB => ?_)
  obtain ⟨rfl, ly20, uy20⟩ := h21
  refine q_ifne (tgt := 13) cx ⟨by omega, by omega⟩ dX7_performShift_8 (by decide) (fun c22 => ?_) (fun c22 => ?_)
  · refine q_ald_n cx dX7_performShift_13 rfl (lv_at hl 1 rfl) ?_
    refine q_ald_n cx dX7_performShift_14 rfl (lv_at hl 0 rfl) ?_
    obtain ⟨x23, ex23⟩ : ∃ zz, q_is (q_z f p0 2) zz := ⟨_, q_isr _⟩
    refine q_gX7_118 cx hB hp0 kp0 ex23 dX7_performShift_15 (fun lb24 ub24 => ?_)
    refine q_cVr (As := [.int (q_i x23)]) (rest := []) cx hB (fun _ h => h) hN hp1 kp1 (by decide) rfl (g_X10_nodeAt l g hN hB.2.1 p1 hp1 kp1 x23 (by omega) (by omega)) q_cX7_177 q_dX10_nodeAt (by decide) rfl rfl hl.1 rfl (Nat.le_of_ble_eq_true rfl) dX7_performShift_18 (fun y26 H locs f25 h27 hF hB => ?_)
    obtain ⟨rfl, hy26, ky26⟩ := h27
    refine q_ald_n cx dX7_performShift_21 rfl (lv_at hl 0 rfl) ?_
    refine q_gX7_102 cx hB hp0 kp0 ex17 dX7_performShift_22 (fun lb28 ub28 => ?_)
    refine q_pX7_181 cx hB hy26 ky26 ⟨by omega, by omega⟩ (by omega) (by omega) rfl dX7_performShift_25 (fun H locs f29 ef29 z30 hB => ?_)
    have z31 : q_is (q_z f29 p0 1) x17 := by rw [ef29, q_setz (Or.inr (by decide))]; exact ex17
    have z32 : q_is (q_z f29 p0 2) x23 := by rw [ef29, q_setz (Or.inr (by decide))]; exact ex23
    refine q_iconst cx dX7_performShift_28 ?_
    refine q_zret cx hr hlk hB dX7_performShift_29 (by decide) (by decide) ?_
    exact ⟨(by decide), (by decide)⟩
  · refine q_iconst cx dX7_performShift_11 ?_
    refine q_zret cx hr hlk hB dX7_performShift_12 (by decide) (by decide) ?_
    exact ⟨(by decide), (by decide)⟩
set_option maxHeartbeats 4000000 in
set_option maxRecDepth 100000 in
theorem g_X10_isWatched (l : Launch) (g : q_G) {K : Nat → Nat} {L : List Nat} (hN : L.Nodup) {f : Nat → va_E} (hT : q_Ty g K L f) (v : Nat) (hv : v ∈ L) (kv : K v = 10) (p0 : Int) (lp0 : (-2147483648) ≤ p0) (up0 : p0 ≤ 2147483647) (p1 : Int) (lp1 : (-2147483648) ≤ p1) (up1 : p1 ≤ 2147483647) : q_Ct l g K L yX10_isWatched cX10_isWatched 3 (some .boolean) 1 22 [.ref v, .int (q_i p0), .int (q_i p1)] f [] (q_Pi (fun (z : Int) (f1 : Nat → va_E) => f = f1 ∧ 0 ≤ z ∧ z ≤ 1)) := by
  refine q_ofb (by decide +kernel) hN hT (Nat.le_of_ble_eq_true rfl) ?_
  intro p e s m below meth c ls cx hr hlk hB hl
  have hl : lv_has ls 3 [(0, .ref v), (1, .int (q_i p0)), (2, .int (q_i p1))] := hl
  obtain ⟨H, hH⟩ : ∃ H : Heap, H = s.heap := ⟨_, rfl⟩
  obtain ⟨locs, hlocs⟩ : ∃ z : List Loc, z = [] := ⟨_, rfl⟩
  rw [← hH, ← hlocs] at hB
  rw [← hH, ← hlocs]
  refine q_ald_n cx dX10_isWatched_0 rfl (lv_at hl 0 rfl) ?_
  refine q_ild_n cx dX10_isWatched_1 rfl (lv_at hl 1 rfl) ?_
  refine q_cVr (As := [.int (q_i p0)]) (rest := []) cx hB (fun _ h => h) hN hv kv (by decide) rfl (g_X10_nodeAt l g hN hB.2.1 v hv kv p0 (by omega) (by omega)) q_cX10_66 q_dX10_nodeAt (by decide) rfl rfl hl.1 rfl (Nat.le_of_ble_eq_true rfl) dX10_isWatched_2 (fun y9 H locs f8 h10 hF hB => ?_)
  obtain ⟨rfl, hy9, ky9⟩ := h10
  obtain ⟨j11, ej11⟩ : ∃ zz, q_j f y9 1 = zz := ⟨_, rfl⟩
  refine q_gX10_92 cx hB hy9 ky9 ej11 dX10_isWatched_5 ?_
  refine q_ild_n cx dX10_isWatched_8 rfl (lv_at hl 2 rfl) ?_
  refine q_cSi (As := [.long j11, .int (q_i p1)]) (rest := []) cx hB (fun _ h => h) hN (g_X10_hasDay l g hN hB.2.1 j11 p1 (by omega) (by omega)) q_cX10_170 q_dX10_hasDay (by decide) rfl rfl hl.1 rfl (Nat.le_of_ble_eq_true rfl) dX10_isWatched_9 (fun y13 H locs f12 ry13 h14 hF hB => ?_)
  obtain ⟨rfl, ly13, uy13⟩ := h14
  refine q_zret cx hr hlk hB dX10_isWatched_12 (by omega) (by omega) ?_
  exact ⟨rfl, (by omega), (by omega)⟩
set_option maxHeartbeats 4000000 in
set_option maxRecDepth 100000 in
theorem g_X10_isWatched_1 (l : Launch) (g : q_G) {K : Nat → Nat} {L : List Nat} (hN : L.Nodup) {f : Nat → va_E} (hT : q_Ty g K L f) (v : Nat) (hv : v ∈ L) (kv : K v = 13) (p0 : Int) (lp0 : (-2147483648) ≤ p0) (up0 : p0 ≤ 2147483647) (p1 : Int) (lp1 : (-2147483648) ≤ p1) (up1 : p1 ≤ 2147483647) : q_Ct l g K L yX10_isWatched cX10_isWatched 3 (some .boolean) 1 22 [.ref v, .int (q_i p0), .int (q_i p1)] f [] (q_Pi (fun (z : Int) (f1 : Nat → va_E) => f = f1 ∧ 0 ≤ z ∧ z ≤ 1)) := by
  refine q_ofb (by decide +kernel) hN hT (Nat.le_of_ble_eq_true rfl) ?_
  intro p e s m below meth c ls cx hr hlk hB hl
  have hl : lv_has ls 3 [(0, .ref v), (1, .int (q_i p0)), (2, .int (q_i p1))] := hl
  obtain ⟨H, hH⟩ : ∃ H : Heap, H = s.heap := ⟨_, rfl⟩
  obtain ⟨locs, hlocs⟩ : ∃ z : List Loc, z = [] := ⟨_, rfl⟩
  rw [← hH, ← hlocs] at hB
  rw [← hH, ← hlocs]
  refine q_ald_n cx dX10_isWatched_0 rfl (lv_at hl 0 rfl) ?_
  refine q_ild_n cx dX10_isWatched_1 rfl (lv_at hl 1 rfl) ?_
  refine q_cVr (As := [.int (q_i p0)]) (rest := []) cx hB (fun _ h => h) hN hv kv (by decide) rfl (g_X10_nodeAt_1 l g hN hB.2.1 v hv kv p0 (by omega) (by omega)) q_cX10_66 q_dX10_nodeAt (by decide) rfl rfl hl.1 rfl (Nat.le_of_ble_eq_true rfl) dX10_isWatched_2 (fun y9 H locs f8 h10 hF hB => ?_)
  obtain ⟨rfl, hy9, ky9⟩ := h10
  obtain ⟨j11, ej11⟩ : ∃ zz, q_j f y9 1 = zz := ⟨_, rfl⟩
  refine q_gX10_92_17 cx hB hy9 ky9 ej11 dX10_isWatched_5 ?_
  refine q_ild_n cx dX10_isWatched_8 rfl (lv_at hl 2 rfl) ?_
  refine q_cSi (As := [.long j11, .int (q_i p1)]) (rest := []) cx hB (fun _ h => h) hN (g_X10_hasDay l g hN hB.2.1 j11 p1 (by omega) (by omega)) q_cX10_170 q_dX10_hasDay (by decide) rfl rfl hl.1 rfl (Nat.le_of_ble_eq_true rfl) dX10_isWatched_9 (fun y13 H locs f12 ry13 h14 hF hB => ?_)
  obtain ⟨rfl, ly13, uy13⟩ := h14
  refine q_zret cx hr hlk hB dX10_isWatched_12 (by omega) (by omega) ?_
  exact ⟨rfl, (by omega), (by omega)⟩
set_option maxHeartbeats 4000000 in
set_option maxRecDepth 100000 in
theorem g_X10_isWatched_2 (l : Launch) (g : q_G) {K : Nat → Nat} {L : List Nat} (hN : L.Nodup) {f : Nat → va_E} (hT : q_Ty g K L f) (v : Nat) (hv : v ∈ L) (kv : K v = 14) (p0 : Int) (lp0 : (-2147483648) ≤ p0) (up0 : p0 ≤ 2147483647) (p1 : Int) (lp1 : (-2147483648) ≤ p1) (up1 : p1 ≤ 2147483647) : q_Ct l g K L yX10_isWatched cX10_isWatched 3 (some .boolean) 1 22 [.ref v, .int (q_i p0), .int (q_i p1)] f [] (q_Pi (fun (z : Int) (f1 : Nat → va_E) => f = f1 ∧ 0 ≤ z ∧ z ≤ 1)) := by
  refine q_ofb (by decide +kernel) hN hT (Nat.le_of_ble_eq_true rfl) ?_
  intro p e s m below meth c ls cx hr hlk hB hl
  have hl : lv_has ls 3 [(0, .ref v), (1, .int (q_i p0)), (2, .int (q_i p1))] := hl
  obtain ⟨H, hH⟩ : ∃ H : Heap, H = s.heap := ⟨_, rfl⟩
  obtain ⟨locs, hlocs⟩ : ∃ z : List Loc, z = [] := ⟨_, rfl⟩
  rw [← hH, ← hlocs] at hB
  rw [← hH, ← hlocs]
  refine q_ald_n cx dX10_isWatched_0 rfl (lv_at hl 0 rfl) ?_
  refine q_ild_n cx dX10_isWatched_1 rfl (lv_at hl 1 rfl) ?_
  refine q_cVr (As := [.int (q_i p0)]) (rest := []) cx hB (fun _ h => h) hN hv kv (by decide) rfl (g_X10_nodeAt_2 l g hN hB.2.1 v hv kv p0 (by omega) (by omega)) q_cX10_66 q_dX10_nodeAt (by decide) rfl rfl hl.1 rfl (Nat.le_of_ble_eq_true rfl) dX10_isWatched_2 (fun y9 H locs f8 h10 hF hB => ?_)
  obtain ⟨rfl, hy9, ky9⟩ := h10
  obtain ⟨j11, ej11⟩ : ∃ zz, q_j f y9 1 = zz := ⟨_, rfl⟩
  refine q_gX10_92_18 cx hB hy9 ky9 ej11 dX10_isWatched_5 ?_
  refine q_ild_n cx dX10_isWatched_8 rfl (lv_at hl 2 rfl) ?_
  refine q_cSi (As := [.long j11, .int (q_i p1)]) (rest := []) cx hB (fun _ h => h) hN (g_X10_hasDay l g hN hB.2.1 j11 p1 (by omega) (by omega)) q_cX10_170 q_dX10_hasDay (by decide) rfl rfl hl.1 rfl (Nat.le_of_ble_eq_true rfl) dX10_isWatched_9 (fun y13 H locs f12 ry13 h14 hF hB => ?_)
  obtain ⟨rfl, ly13, uy13⟩ := h14
  refine q_zret cx hr hlk hB dX10_isWatched_12 (by omega) (by omega) ?_
  exact ⟨rfl, (by omega), (by omega)⟩
set_option maxHeartbeats 4000000 in
set_option maxRecDepth 100000 in
theorem g_X10_isWatched_3 (l : Launch) (g : q_G) {K : Nat → Nat} {L : List Nat} (hN : L.Nodup) {f : Nat → va_E} (hT : q_Ty g K L f) (v : Nat) (hv : v ∈ L) (kv : K v = 15) (p0 : Int) (lp0 : (-2147483648) ≤ p0) (up0 : p0 ≤ 2147483647) (p1 : Int) (lp1 : (-2147483648) ≤ p1) (up1 : p1 ≤ 2147483647) : q_Ct l g K L yX10_isWatched cX10_isWatched 3 (some .boolean) 1 22 [.ref v, .int (q_i p0), .int (q_i p1)] f [] (q_Pi (fun (z : Int) (f1 : Nat → va_E) => f = f1 ∧ 0 ≤ z ∧ z ≤ 1)) := by
  refine q_ofb (by decide +kernel) hN hT (Nat.le_of_ble_eq_true rfl) ?_
  intro p e s m below meth c ls cx hr hlk hB hl
  have hl : lv_has ls 3 [(0, .ref v), (1, .int (q_i p0)), (2, .int (q_i p1))] := hl
  obtain ⟨H, hH⟩ : ∃ H : Heap, H = s.heap := ⟨_, rfl⟩
  obtain ⟨locs, hlocs⟩ : ∃ z : List Loc, z = [] := ⟨_, rfl⟩
  rw [← hH, ← hlocs] at hB
  rw [← hH, ← hlocs]
  refine q_ald_n cx dX10_isWatched_0 rfl (lv_at hl 0 rfl) ?_
  refine q_ild_n cx dX10_isWatched_1 rfl (lv_at hl 1 rfl) ?_
  refine q_cVr (As := [.int (q_i p0)]) (rest := []) cx hB (fun _ h => h) hN hv kv (by decide) rfl (g_X10_nodeAt_3 l g hN hB.2.1 v hv kv p0 (by omega) (by omega)) q_cX10_66 q_dX10_nodeAt (by decide) rfl rfl hl.1 rfl (Nat.le_of_ble_eq_true rfl) dX10_isWatched_2 (fun y9 H locs f8 h10 hF hB => ?_)
  obtain ⟨rfl, hy9, ky9⟩ := h10
  obtain ⟨j11, ej11⟩ : ∃ zz, q_j f y9 1 = zz := ⟨_, rfl⟩
  refine q_gX10_92_19 cx hB hy9 ky9 ej11 dX10_isWatched_5 ?_
  refine q_ild_n cx dX10_isWatched_8 rfl (lv_at hl 2 rfl) ?_
  refine q_cSi (As := [.long j11, .int (q_i p1)]) (rest := []) cx hB (fun _ h => h) hN (g_X10_hasDay l g hN hB.2.1 j11 p1 (by omega) (by omega)) q_cX10_170 q_dX10_hasDay (by decide) rfl rfl hl.1 rfl (Nat.le_of_ble_eq_true rfl) dX10_isWatched_9 (fun y13 H locs f12 ry13 h14 hF hB => ?_)
  obtain ⟨rfl, ly13, uy13⟩ := h14
  refine q_zret cx hr hlk hB dX10_isWatched_12 (by omega) (by omega) ?_
  exact ⟨rfl, (by omega), (by omega)⟩
set_option maxHeartbeats 4000000 in
set_option maxRecDepth 100000 in
theorem g_X10_isWatched_4 (l : Launch) (g : q_G) {K : Nat → Nat} {L : List Nat} (hN : L.Nodup) {f : Nat → va_E} (hT : q_Ty g K L f) (v : Nat) (hv : v ∈ L) (kv : K v = 16) (p0 : Int) (lp0 : (-2147483648) ≤ p0) (up0 : p0 ≤ 2147483647) (p1 : Int) (lp1 : (-2147483648) ≤ p1) (up1 : p1 ≤ 2147483647) : q_Ct l g K L yX10_isWatched cX10_isWatched 3 (some .boolean) 1 22 [.ref v, .int (q_i p0), .int (q_i p1)] f [] (q_Pi (fun (z : Int) (f1 : Nat → va_E) => f = f1 ∧ 0 ≤ z ∧ z ≤ 1)) := by
  refine q_ofb (by decide +kernel) hN hT (Nat.le_of_ble_eq_true rfl) ?_
  intro p e s m below meth c ls cx hr hlk hB hl
  have hl : lv_has ls 3 [(0, .ref v), (1, .int (q_i p0)), (2, .int (q_i p1))] := hl
  obtain ⟨H, hH⟩ : ∃ H : Heap, H = s.heap := ⟨_, rfl⟩
  obtain ⟨locs, hlocs⟩ : ∃ z : List Loc, z = [] := ⟨_, rfl⟩
  rw [← hH, ← hlocs] at hB
  rw [← hH, ← hlocs]
  refine q_ald_n cx dX10_isWatched_0 rfl (lv_at hl 0 rfl) ?_
  refine q_ild_n cx dX10_isWatched_1 rfl (lv_at hl 1 rfl) ?_
  refine q_cVr (As := [.int (q_i p0)]) (rest := []) cx hB (fun _ h => h) hN hv kv (by decide) rfl (g_X10_nodeAt_4 l g hN hB.2.1 v hv kv p0 (by omega) (by omega)) q_cX10_66 q_dX10_nodeAt (by decide) rfl rfl hl.1 rfl (Nat.le_of_ble_eq_true rfl) dX10_isWatched_2 (fun y9 H locs f8 h10 hF hB => ?_)
  obtain ⟨rfl, hy9, ky9⟩ := h10
  obtain ⟨j11, ej11⟩ : ∃ zz, q_j f y9 1 = zz := ⟨_, rfl⟩
  refine q_gX10_92_20 cx hB hy9 ky9 ej11 dX10_isWatched_5 ?_
  refine q_ild_n cx dX10_isWatched_8 rfl (lv_at hl 2 rfl) ?_
  refine q_cSi (As := [.long j11, .int (q_i p1)]) (rest := []) cx hB (fun _ h => h) hN (g_X10_hasDay l g hN hB.2.1 j11 p1 (by omega) (by omega)) q_cX10_170 q_dX10_hasDay (by decide) rfl rfl hl.1 rfl (Nat.le_of_ble_eq_true rfl) dX10_isWatched_9 (fun y13 H locs f12 ry13 h14 hF hB => ?_)
  obtain ⟨rfl, ly13, uy13⟩ := h14
  refine q_zret cx hr hlk hB dX10_isWatched_12 (by omega) (by omega) ?_
  exact ⟨rfl, (by omega), (by omega)⟩
set_option maxHeartbeats 4000000 in
set_option maxRecDepth 100000 in
theorem g_X7_performWatch (l : Launch) (g : q_G) {K : Nat → Nat} {L : List Nat} (hN : L.Nodup) {f : Nat → va_E} (hT : q_Ty g K L f) (p0 : Nat) (hp0 : p0 ∈ L) (kp0 : K p0 = 0) (p1 : Nat) (hp1 : p1 ∈ L) (kp1 : K p1 = 10) : q_Ct l g K L yX7_performWatch cX7_performWatch 2 (some .boolean) 2 44 [.ref p0, .ref p1] f [(5, 1, 1)] (q_Pi (fun (z : Int) (f1 : Nat → va_E) => 0 ≤ z ∧ z ≤ 1)) := by
  refine q_ofb (by decide +kernel) hN hT (Nat.le_of_ble_eq_true rfl) ?_
  intro p e s m below meth c ls cx hr hlk hB hl
  have hl : lv_has ls 2 [(0, .ref p0), (1, .ref p1)] := hl
  have J26 : ∀  (H : Heap) (locs : List Loc) (hB : q_B g K L (fun q => q ∈ L) [(5, 1, 1)] f f s H locs) (ls : Array Slot) (hl : lv_has ls 2 []), W p l e { frames := 2, cells := 0, slots := 0, locals := 44 } s m ([.ref p0, .ref p1] : List Value).toArray below meth c H locs 0 0 (MQ below (q_Q g K L [(5, 1, 1)] f (q_Pi (fun (z : Int) (f1 : Nat → va_E) => 0 ≤ z ∧ z ≤ 1))) ([.ref p0, .ref p1] : List Value).toArray s 0 0 (fun q => q ∈ L)) (F0 m 26 ls []) := by
    intro  H locs hB ls hl
    refine q_iconst cx dX7_performWatch_26 ?_
    refine q_zret cx hr hlk hB dX7_performWatch_27 (by decide) (by decide) ?_
    exact ⟨(by decide), (by decide)⟩
  obtain ⟨H, hH⟩ : ∃ H : Heap, H = s.heap := ⟨_, rfl⟩
  obtain ⟨locs, hlocs⟩ : ∃ z : List Loc, z = [] := ⟨_, rfl⟩
  rw [← hH, ← hlocs] at hB
  rw [← hH, ← hlocs]
  refine q_ald_n cx dX7_performWatch_0 rfl (lv_at hl 1 rfl) ?_
  refine q_ald_n cx dX7_performWatch_1 rfl (lv_at hl 0 rfl) ?_
  obtain ⟨x19, ex19⟩ : ∃ zz, q_is (q_z f p0 1) zz := ⟨_, q_isr _⟩
  refine q_gX7_102 cx hB hp0 kp0 ex19 dX7_performWatch_2 (fun lb20 ub20 => ?_)
  refine q_cVi (As := [.int (q_i x19)]) (rest := []) cx hB (fun _ h => h) hN hp1 kp1 (by decide) rfl (g_X10_isDay l g hN hB.2.1 p1 hp1 kp1 x19 (by omega) (by omega)) q_cX7_174 q_dX10_isDay (by decide) rfl rfl hl.1 rfl (Nat.le_of_ble_eq_true rfl) dX7_performWatch_5 (fun y22 H locs f21 ry22 h23 hF hB => ?_)
  obtain ⟨rfl, ly22, uy22⟩ := h23
  refine q_ifeq (tgt := 26) cx ⟨by omega, by omega⟩ dX7_performWatch_8 (by decide) (fun c24 => ?_) (fun c24 => ?_)
  · exact J26  H locs hB ls (lv_sub hl [] rfl)
  · refine q_ald_n cx dX7_performWatch_11 rfl (lv_at hl 1 rfl) ?_
    refine q_ald_n cx dX7_performWatch_12 rfl (lv_at hl 0 rfl) ?_
    obtain ⟨x25, ex25⟩ : ∃ zz, q_is (q_z f p0 2) zz := ⟨_, q_isr _⟩
    refine q_gX7_118 cx hB hp0 kp0 ex25 dX7_performWatch_13 (fun lb26 ub26 => ?_)
    refine q_ald_n cx dX7_performWatch_16 rfl (lv_at hl 0 rfl) ?_
    refine q_gX7_102 cx hB hp0 kp0 ex19 dX7_performWatch_17 (fun lb27 ub27 => ?_)
    refine q_cVi (As := [.int (q_i x25), .int (q_i x19)]) (rest := []) cx hB (fun _ h => h) hN hp1 kp1 (by decide) rfl (g_X10_isWatched l g hN hB.2.1 p1 hp1 kp1 x25 (by omega) (by omega) x19 (by omega) (by omega)) q_cX7_185 q_dX10_isWatched (by decide) rfl rfl hl.1 rfl (Nat.le_of_ble_eq_true rfl) dX7_performWatch_20 (fun y29 H locs f28 ry29 h30 hF hB => ?_)
    obtain ⟨rfl, ly29, uy29⟩ := h30
    refine q_ifeq (tgt := 28) cx ⟨by omega, by omega⟩ dX7_performWatch_23 (by decide) (fun c31 => ?_) (fun c31 => ?_)
    · refine q_ald_n cx dX7_performWatch_28 rfl (lv_at hl 1 rfl) ?_
      refine q_ald_n cx dX7_performWatch_29 rfl (lv_at hl 0 rfl) ?_
      refine q_gX7_118 cx hB hp0 kp0 ex25 dX7_performWatch_30 (fun lb32 ub32 => ?_)
      refine q_ald_n cx dX7_performWatch_33 rfl (lv_at hl 0 rfl) ?_
      refine q_gX7_102 cx hB hp0 kp0 ex19 dX7_performWatch_34 (fun lb33 ub33 => ?_)
      refine q_cVv (As := [.int (q_i x25), .int (q_i x19)]) (rest := []) cx hB (fun _ h => h) hN hp1 kp1 (by decide) rfl (g_X10_turnWatch l g hN hB.2.1 p1 hp1 kp1 x25 (by omega) (by omega) x19 (by omega) (by omega)) q_cX7_188 q_dX10_turnWatch (by decide) rfl rfl hl.1 rfl (Nat.le_of_ble_eq_true rfl) dX7_performWatch_37 (fun H locs f34 h36 hF hB => ?_)
      refine q_iconst cx dX7_performWatch_40 ?_
      refine q_zret cx hr hlk hB dX7_performWatch_41 (by decide) (by decide) ?_
      exact ⟨(by decide), (by decide)⟩
    · exact J26  H locs hB ls (lv_sub hl [] rfl)
set_option maxHeartbeats 4000000 in
set_option maxRecDepth 100000 in
theorem g_X10_isCharge (l : Launch) (g : q_G) {K : Nat → Nat} {L : List Nat} (hN : L.Nodup) {f : Nat → va_E} (hT : q_Ty g K L f) (p0 : Int) (lp0 : (-2147483648) ≤ p0) (up0 : p0 ≤ 2147483647) : q_Ct l g K L yX10_isCharge cX10_isCharge 1 (some .boolean) 0 0 [.int (q_i p0)] f [] (q_Pi (fun (z : Int) (f1 : Nat → va_E) => f = f1 ∧ 0 ≤ z ∧ z ≤ 1)) := by
  refine q_ofb (by decide +kernel) hN hT (Nat.le_of_ble_eq_true rfl) ?_
  intro p e s m below meth c ls cx hr hlk hB hl
  have hl : lv_has ls 1 [(0, .int (q_i p0))] := hl
  have J17 : ∀ (t17_0 : Int) (lt17_0 : 0 ≤ t17_0) (ut17_0 : t17_0 ≤ 1) (H : Heap) (locs : List Loc) (hB : q_B g K L (fun q => q ∈ L) [] f f s H locs) (ls : Array Slot) (hl : lv_has ls 1 []), W p l e { frames := 0, cells := 0, slots := 0, locals := 0 } s m ([.int (q_i p0)] : List Value).toArray below meth c H locs 0 0 (MQ below (q_Q g K L [] f (q_Pi (fun (z : Int) (f1 : Nat → va_E) => f = f1 ∧ 0 ≤ z ∧ z ≤ 1))) ([.int (q_i p0)] : List Value).toArray s 0 0 (fun q => q ∈ L)) (F0 m 17 ls [.int (q_i t17_0)]) := by
    intro t17_0 lt17_0 ut17_0 H locs hB ls hl
    refine q_zret cx hr hlk hB dX10_isCharge_17 (by omega) (by omega) ?_
    exact ⟨rfl, (by omega), (by omega)⟩
  have J16 : ∀  (H : Heap) (locs : List Loc) (hB : q_B g K L (fun q => q ∈ L) [] f f s H locs) (ls : Array Slot) (hl : lv_has ls 1 []), W p l e { frames := 0, cells := 0, slots := 0, locals := 0 } s m ([.int (q_i p0)] : List Value).toArray below meth c H locs 0 0 (MQ below (q_Q g K L [] f (q_Pi (fun (z : Int) (f1 : Nat → va_E) => f = f1 ∧ 0 ≤ z ∧ z ≤ 1))) ([.int (q_i p0)] : List Value).toArray s 0 0 (fun q => q ∈ L)) (F0 m 16 ls []) := by
    intro  H locs hB ls hl
    refine q_iconst cx dX10_isCharge_16 ?_
    exact J17 0 (by decide) (by decide) H locs hB ls (lv_sub hl [] rfl)
  obtain ⟨H, hH⟩ : ∃ H : Heap, H = s.heap := ⟨_, rfl⟩
  obtain ⟨locs, hlocs⟩ : ∃ z : List Loc, z = [] := ⟨_, rfl⟩
  rw [← hH, ← hlocs] at hB
  rw [← hH, ← hlocs]
  refine q_ild_n cx dX10_isCharge_0 rfl (lv_at hl 0 rfl) ?_
  refine q_iconst cx dX10_isCharge_1 ?_
  refine q_iclt (tgt := 16) cx ⟨by omega, by omega⟩ ⟨by decide, by decide⟩ dX10_isCharge_2 (by decide) (fun c3 => ?_) (fun c3 => ?_)
  · exact J16  H locs hB ls (lv_sub hl [] rfl)
  · refine q_ild_n cx dX10_isCharge_5 rfl (lv_at hl 0 rfl) ?_
    refine q_sipush cx dX10_isCharge_6 rfl ?_
    refine q_icgt (tgt := 16) cx ⟨by omega, by omega⟩ ⟨by decide, by decide⟩ dX10_isCharge_9 (by decide) (fun c4 => ?_) (fun c4 => ?_)
    · exact J16  H locs hB ls (lv_sub hl [] rfl)
    · refine q_iconst cx dX10_isCharge_12 ?_
      refine lv_goto (tgt := 17) cx.1 cx.2.1 dX10_isCharge_13 (by decide) ?_
      exact J17 1 (by decide) (by decide) H locs hB ls (lv_sub hl [] rfl)
set_option maxHeartbeats 4000000 in
set_option maxRecDepth 100000 in
theorem g_X10_addEnergy (l : Launch) (g : q_G) {K : Nat → Nat} {L : List Nat} (hN : L.Nodup) {f : Nat → va_E} (hT : q_Ty g K L f) (v : Nat) (hv : v ∈ L) (kv : K v = 10) (p0 : Int) (lp0 : (-2147483648) ≤ p0) (up0 : p0 ≤ 2147483647) (p1 : Int) (lp1 : (-2147483648) ≤ p1) (up1 : p1 ≤ 2147483647) : q_Ct l g K L yX10_addEnergy cX10_addEnergy 4 (some .int) 1 21 [.ref v, .int (q_i p0), .int (q_i p1)] f [(5, 4, 4)] (q_Pi (fun (z : Int) (f1 : Nat → va_E) => z ≤ 9999)) := by
  refine q_ofb (by decide +kernel) hN hT (Nat.le_of_ble_eq_true rfl) ?_
  intro p e s m below meth c ls cx hr hlk hB hl
  have hl : lv_has ls 4 [(0, .ref v), (1, .int (q_i p0)), (2, .int (q_i p1))] := hl
  obtain ⟨H, hH⟩ : ∃ H : Heap, H = s.heap := ⟨_, rfl⟩
  obtain ⟨locs, hlocs⟩ : ∃ z : List Loc, z = [] := ⟨_, rfl⟩
  rw [← hH, ← hlocs] at hB
  rw [← hH, ← hlocs]
  refine q_ald_n cx dX10_addEnergy_0 rfl (lv_at hl 0 rfl) ?_
  refine q_ild_n cx dX10_addEnergy_1 rfl (lv_at hl 1 rfl) ?_
  refine q_cVr (As := [.int (q_i p0)]) (rest := []) cx hB (fun _ h => h) hN hv kv (by decide) rfl (g_X10_nodeAt l g hN hB.2.1 v hv kv p0 (by omega) (by omega)) q_cX10_66 q_dX10_nodeAt (by decide) rfl rfl hl.1 rfl (Nat.le_of_ble_eq_true rfl) dX10_addEnergy_2 (fun y12 H locs f11 h13 hF hB => ?_)
  obtain ⟨rfl, hy12, ky12⟩ := h13
  refine lv_astore_n (lv' := [(3, .ref y12), (0, .ref v), (1, .int (q_i p0)), (2, .int (q_i p1))]) cx.1 cx.2.1 dX10_addEnergy_5 rfl hl (by decide) rfl (fun ls hl => ?_)
  refine q_ald_n cx dX10_addEnergy_6 rfl (lv_at hl 0 rfl) ?_
  refine q_sipush cx dX10_addEnergy_7 rfl ?_
  refine q_ald_n cx dX10_addEnergy_10 rfl (lv_at hl 0 rfl) ?_
  obtain ⟨x14, ex14⟩ : ∃ zz, q_is (q_z f y12 4) zz := ⟨_, q_isr _⟩
  refine q_gX10_101 cx hB hy12 ky12 ex14 dX10_addEnergy_11 (fun lb15 ub15 => ?_)
  refine q_ild_n cx dX10_addEnergy_14 rfl (lv_at hl 3 rfl) ?_
  refine q_iadd cx dX10_addEnergy_15 ?_
  refine q_any (fun y16 ry16 ey16 => ?_)
  refine q_mmin (rest := [.ref y12]) cx hl.1 q_h713 q_h714 q_h157 q_h715 (by decide) (Nat.le_of_ble_eq_true rfl) (by decide) (by decide) ⟨by decide, by decide⟩ ⟨by omega, by omega⟩ dX10_addEnergy_16 (fun y17 ay17 by17 ey17 => ?_)
  refine q_pX10_101 cx hB hy12 ky12 ⟨by omega, by omega⟩ (by omega) (by omega) rfl dX10_addEnergy_19 (fun H locs f18 ef18 z19 hB => ?_)
  refine q_ald_n cx dX10_addEnergy_22 rfl (lv_at hl 0 rfl) ?_
  refine q_gX10_101 cx hB hy12 ky12 z19 dX10_addEnergy_23 (fun lb20 ub20 => ?_)
  refine q_iret cx hr hlk hB dX10_addEnergy_26 ⟨by omega, by omega⟩ ?_
  exact (by omega)
set_option maxHeartbeats 4000000 in
set_option maxRecDepth 100000 in
theorem g_X10_addEnergy_1 (l : Launch) (g : q_G) {K : Nat → Nat} {L : List Nat} (hN : L.Nodup) {f : Nat → va_E} (hT : q_Ty g K L f) (v : Nat) (hv : v ∈ L) (kv : K v = 13) (p0 : Int) (lp0 : (-2147483648) ≤ p0) (up0 : p0 ≤ 2147483647) (p1 : Int) (lp1 : (-2147483648) ≤ p1) (up1 : p1 ≤ 2147483647) : q_Ct l g K L yX10_addEnergy cX10_addEnergy 4 (some .int) 1 21 [.ref v, .int (q_i p0), .int (q_i p1)] f [(17, 4, 4)] (q_Pi (fun (z : Int) (f1 : Nat → va_E) => z ≤ 9999)) := by
  refine q_ofb (by decide +kernel) hN hT (Nat.le_of_ble_eq_true rfl) ?_
  intro p e s m below meth c ls cx hr hlk hB hl
  have hl : lv_has ls 4 [(0, .ref v), (1, .int (q_i p0)), (2, .int (q_i p1))] := hl
  obtain ⟨H, hH⟩ : ∃ H : Heap, H = s.heap := ⟨_, rfl⟩
  obtain ⟨locs, hlocs⟩ : ∃ z : List Loc, z = [] := ⟨_, rfl⟩
  rw [← hH, ← hlocs] at hB
  rw [← hH, ← hlocs]
  refine q_ald_n cx dX10_addEnergy_0 rfl (lv_at hl 0 rfl) ?_
  refine q_ild_n cx dX10_addEnergy_1 rfl (lv_at hl 1 rfl) ?_
  refine q_cVr (As := [.int (q_i p0)]) (rest := []) cx hB (fun _ h => h) hN hv kv (by decide) rfl (g_X10_nodeAt_1 l g hN hB.2.1 v hv kv p0 (by omega) (by omega)) q_cX10_66 q_dX10_nodeAt (by decide) rfl rfl hl.1 rfl (Nat.le_of_ble_eq_true rfl) dX10_addEnergy_2 (fun y12 H locs f11 h13 hF hB => ?_)
  obtain ⟨rfl, hy12, ky12⟩ := h13
  refine lv_astore_n (lv' := [(3, .ref y12), (0, .ref v), (1, .int (q_i p0)), (2, .int (q_i p1))]) cx.1 cx.2.1 dX10_addEnergy_5 rfl hl (by decide) rfl (fun ls hl => ?_)
  refine q_ald_n cx dX10_addEnergy_6 rfl (lv_at hl 0 rfl) ?_
  refine q_sipush cx dX10_addEnergy_7 rfl ?_
  refine q_ald_n cx dX10_addEnergy_10 rfl (lv_at hl 0 rfl) ?_
  obtain ⟨x14, ex14⟩ : ∃ zz, q_is (q_z f y12 4) zz := ⟨_, q_isr _⟩
  refine q_gX10_101_17 cx hB hy12 ky12 ex14 dX10_addEnergy_11 (fun lb15 ub15 => ?_)
  refine q_ild_n cx dX10_addEnergy_14 rfl (lv_at hl 3 rfl) ?_
  refine q_iadd cx dX10_addEnergy_15 ?_
  refine q_any (fun y16 ry16 ey16 => ?_)
  refine q_mmin (rest := [.ref y12]) cx hl.1 q_h713 q_h714 q_h157 q_h715 (by decide) (Nat.le_of_ble_eq_true rfl) (by decide) (by decide) ⟨by decide, by decide⟩ ⟨by omega, by omega⟩ dX10_addEnergy_16 (fun y17 ay17 by17 ey17 => ?_)
  refine q_pX10_101_17 cx hB hy12 ky12 ⟨by omega, by omega⟩ (by omega) (by omega) rfl dX10_addEnergy_19 (fun H locs f18 ef18 z19 hB => ?_)
  refine q_ald_n cx dX10_addEnergy_22 rfl (lv_at hl 0 rfl) ?_
  refine q_gX10_101_17 cx hB hy12 ky12 z19 dX10_addEnergy_23 (fun lb20 ub20 => ?_)
  refine q_iret cx hr hlk hB dX10_addEnergy_26 ⟨by omega, by omega⟩ ?_
  exact (by omega)
set_option maxHeartbeats 4000000 in
set_option maxRecDepth 100000 in
theorem g_X10_addEnergy_2 (l : Launch) (g : q_G) {K : Nat → Nat} {L : List Nat} (hN : L.Nodup) {f : Nat → va_E} (hT : q_Ty g K L f) (v : Nat) (hv : v ∈ L) (kv : K v = 14) (p0 : Int) (lp0 : (-2147483648) ≤ p0) (up0 : p0 ≤ 2147483647) (p1 : Int) (lp1 : (-2147483648) ≤ p1) (up1 : p1 ≤ 2147483647) : q_Ct l g K L yX10_addEnergy cX10_addEnergy 4 (some .int) 1 21 [.ref v, .int (q_i p0), .int (q_i p1)] f [(18, 4, 4)] (q_Pi (fun (z : Int) (f1 : Nat → va_E) => z ≤ 9999)) := by
  refine q_ofb (by decide +kernel) hN hT (Nat.le_of_ble_eq_true rfl) ?_
  intro p e s m below meth c ls cx hr hlk hB hl
  have hl : lv_has ls 4 [(0, .ref v), (1, .int (q_i p0)), (2, .int (q_i p1))] := hl
  obtain ⟨H, hH⟩ : ∃ H : Heap, H = s.heap := ⟨_, rfl⟩
  obtain ⟨locs, hlocs⟩ : ∃ z : List Loc, z = [] := ⟨_, rfl⟩
  rw [← hH, ← hlocs] at hB
  rw [← hH, ← hlocs]
  refine q_ald_n cx dX10_addEnergy_0 rfl (lv_at hl 0 rfl) ?_
  refine q_ild_n cx dX10_addEnergy_1 rfl (lv_at hl 1 rfl) ?_
  refine q_cVr (As := [.int (q_i p0)]) (rest := []) cx hB (fun _ h => h) hN hv kv (by decide) rfl (g_X10_nodeAt_2 l g hN hB.2.1 v hv kv p0 (by omega) (by omega)) q_cX10_66 q_dX10_nodeAt (by decide) rfl rfl hl.1 rfl (Nat.le_of_ble_eq_true rfl) dX10_addEnergy_2 (fun y12 H locs f11 h13 hF hB => ?_)
  obtain ⟨rfl, hy12, ky12⟩ := h13
  refine lv_astore_n (lv' := [(3, .ref y12), (0, .ref v), (1, .int (q_i p0)), (2, .int (q_i p1))]) cx.1 cx.2.1 dX10_addEnergy_5 rfl hl (by decide) rfl (fun ls hl => ?_)
  refine q_ald_n cx dX10_addEnergy_6 rfl (lv_at hl 0 rfl) ?_
  refine q_sipush cx dX10_addEnergy_7 rfl ?_
  refine q_ald_n cx dX10_addEnergy_10 rfl (lv_at hl 0 rfl) ?_
  obtain ⟨x14, ex14⟩ : ∃ zz, q_is (q_z f y12 4) zz := ⟨_, q_isr _⟩
  refine q_gX10_101_18 cx hB hy12 ky12 ex14 dX10_addEnergy_11 (fun lb15 ub15 => ?_)
  refine q_ild_n cx dX10_addEnergy_14 rfl (lv_at hl 3 rfl) ?_
  refine q_iadd cx dX10_addEnergy_15 ?_
  refine q_any (fun y16 ry16 ey16 => ?_)
  refine q_mmin (rest := [.ref y12]) cx hl.1 q_h713 q_h714 q_h157 q_h715 (by decide) (Nat.le_of_ble_eq_true rfl) (by decide) (by decide) ⟨by decide, by decide⟩ ⟨by omega, by omega⟩ dX10_addEnergy_16 (fun y17 ay17 by17 ey17 => ?_)
  refine q_pX10_101_18 cx hB hy12 ky12 ⟨by omega, by omega⟩ (by omega) (by omega) rfl dX10_addEnergy_19 (fun H locs f18 ef18 z19 hB => ?_)
  refine q_ald_n cx dX10_addEnergy_22 rfl (lv_at hl 0 rfl) ?_
  refine q_gX10_101_18 cx hB hy12 ky12 z19 dX10_addEnergy_23 (fun lb20 ub20 => ?_)
  refine q_iret cx hr hlk hB dX10_addEnergy_26 ⟨by omega, by omega⟩ ?_
  exact (by omega)
set_option maxHeartbeats 4000000 in
set_option maxRecDepth 100000 in
theorem g_X10_addEnergy_3 (l : Launch) (g : q_G) {K : Nat → Nat} {L : List Nat} (hN : L.Nodup) {f : Nat → va_E} (hT : q_Ty g K L f) (v : Nat) (hv : v ∈ L) (kv : K v = 15) (p0 : Int) (lp0 : (-2147483648) ≤ p0) (up0 : p0 ≤ 2147483647) (p1 : Int) (lp1 : (-2147483648) ≤ p1) (up1 : p1 ≤ 2147483647) : q_Ct l g K L yX10_addEnergy cX10_addEnergy 4 (some .int) 1 21 [.ref v, .int (q_i p0), .int (q_i p1)] f [(19, 4, 4)] (q_Pi (fun (z : Int) (f1 : Nat → va_E) => z ≤ 9999)) := by
  refine q_ofb (by decide +kernel) hN hT (Nat.le_of_ble_eq_true rfl) ?_
  intro p e s m below meth c ls cx hr hlk hB hl
  have hl : lv_has ls 4 [(0, .ref v), (1, .int (q_i p0)), (2, .int (q_i p1))] := hl
  obtain ⟨H, hH⟩ : ∃ H : Heap, H = s.heap := ⟨_, rfl⟩
  obtain ⟨locs, hlocs⟩ : ∃ z : List Loc, z = [] := ⟨_, rfl⟩
  rw [← hH, ← hlocs] at hB
  rw [← hH, ← hlocs]
  refine q_ald_n cx dX10_addEnergy_0 rfl (lv_at hl 0 rfl) ?_
  refine q_ild_n cx dX10_addEnergy_1 rfl (lv_at hl 1 rfl) ?_
  refine q_cVr (As := [.int (q_i p0)]) (rest := []) cx hB (fun _ h => h) hN hv kv (by decide) rfl (g_X10_nodeAt_3 l g hN hB.2.1 v hv kv p0 (by omega) (by omega)) q_cX10_66 q_dX10_nodeAt (by decide) rfl rfl hl.1 rfl (Nat.le_of_ble_eq_true rfl) dX10_addEnergy_2 (fun y12 H locs f11 h13 hF hB => ?_)
  obtain ⟨rfl, hy12, ky12⟩ := h13
  refine lv_astore_n (lv' := [(3, .ref y12), (0, .ref v), (1, .int (q_i p0)), (2, .int (q_i p1))]) cx.1 cx.2.1 dX10_addEnergy_5 rfl hl (by decide) rfl (fun ls hl => ?_)
  refine q_ald_n cx dX10_addEnergy_6 rfl (lv_at hl 0 rfl) ?_
  refine q_sipush cx dX10_addEnergy_7 rfl ?_
  refine q_ald_n cx dX10_addEnergy_10 rfl (lv_at hl 0 rfl) ?_
  obtain ⟨x14, ex14⟩ : ∃ zz, q_is (q_z f y12 4) zz := ⟨_, q_isr _⟩
  refine q_gX10_101_19 cx hB hy12 ky12 ex14 dX10_addEnergy_11 (fun lb15 ub15 => ?_)
  refine q_ild_n cx dX10_addEnergy_14 rfl (lv_at hl 3 rfl) ?_
  refine q_iadd cx dX10_addEnergy_15 ?_
  refine q_any (fun y16 ry16 ey16 => ?_)
  refine q_mmin (rest := [.ref y12]) cx hl.1 q_h713 q_h714 q_h157 q_h715 (by decide) (Nat.le_of_ble_eq_true rfl) (by decide) (by decide) ⟨by decide, by decide⟩ ⟨by omega, by omega⟩ dX10_addEnergy_16 (fun y17 ay17 by17 ey17 => ?_)
  refine q_pX10_101_19 cx hB hy12 ky12 ⟨by omega, by omega⟩ (by omega) (by omega) rfl dX10_addEnergy_19 (fun H locs f18 ef18 z19 hB => ?_)
  refine q_ald_n cx dX10_addEnergy_22 rfl (lv_at hl 0 rfl) ?_
  refine q_gX10_101_19 cx hB hy12 ky12 z19 dX10_addEnergy_23 (fun lb20 ub20 => ?_)
  refine q_iret cx hr hlk hB dX10_addEnergy_26 ⟨by omega, by omega⟩ ?_
  exact (by omega)
set_option maxHeartbeats 4000000 in
set_option maxRecDepth 100000 in
theorem g_X10_addEnergy_4 (l : Launch) (g : q_G) {K : Nat → Nat} {L : List Nat} (hN : L.Nodup) {f : Nat → va_E} (hT : q_Ty g K L f) (v : Nat) (hv : v ∈ L) (kv : K v = 16) (p0 : Int) (lp0 : (-2147483648) ≤ p0) (up0 : p0 ≤ 2147483647) (p1 : Int) (lp1 : (-2147483648) ≤ p1) (up1 : p1 ≤ 2147483647) : q_Ct l g K L yX10_addEnergy cX10_addEnergy 4 (some .int) 1 21 [.ref v, .int (q_i p0), .int (q_i p1)] f [(20, 4, 4)] (q_Pi (fun (z : Int) (f1 : Nat → va_E) => z ≤ 9999)) := by
  refine q_ofb (by decide +kernel) hN hT (Nat.le_of_ble_eq_true rfl) ?_
  intro p e s m below meth c ls cx hr hlk hB hl
  have hl : lv_has ls 4 [(0, .ref v), (1, .int (q_i p0)), (2, .int (q_i p1))] := hl
  obtain ⟨H, hH⟩ : ∃ H : Heap, H = s.heap := ⟨_, rfl⟩
  obtain ⟨locs, hlocs⟩ : ∃ z : List Loc, z = [] := ⟨_, rfl⟩
  rw [← hH, ← hlocs] at hB
  rw [← hH, ← hlocs]
  refine q_ald_n cx dX10_addEnergy_0 rfl (lv_at hl 0 rfl) ?_
  refine q_ild_n cx dX10_addEnergy_1 rfl (lv_at hl 1 rfl) ?_
  refine q_cVr (As := [.int (q_i p0)]) (rest := []) cx hB (fun _ h => h) hN hv kv (by decide) rfl (g_X10_nodeAt_4 l g hN hB.2.1 v hv kv p0 (by omega) (by omega)) q_cX10_66 q_dX10_nodeAt (by decide) rfl rfl hl.1 rfl (Nat.le_of_ble_eq_true rfl) dX10_addEnergy_2 (fun y12 H locs f11 h13 hF hB => ?_)
  obtain ⟨rfl, hy12, ky12⟩ := h13
  refine lv_astore_n (lv' := [(3, .ref y12), (0, .ref v), (1, .int (q_i p0)), (2, .int (q_i p1))]) cx.1 cx.2.1 dX10_addEnergy_5 rfl hl (by decide) rfl (fun ls hl => ?_)
  refine q_ald_n cx dX10_addEnergy_6 rfl (lv_at hl 0 rfl) ?_
  refine q_sipush cx dX10_addEnergy_7 rfl ?_
  refine q_ald_n cx dX10_addEnergy_10 rfl (lv_at hl 0 rfl) ?_
  obtain ⟨x14, ex14⟩ : ∃ zz, q_is (q_z f y12 4) zz := ⟨_, q_isr _⟩
  refine q_gX10_101_20 cx hB hy12 ky12 ex14 dX10_addEnergy_11 (fun lb15 ub15 => ?_)
  refine q_ild_n cx dX10_addEnergy_14 rfl (lv_at hl 3 rfl) ?_
  refine q_iadd cx dX10_addEnergy_15 ?_
  refine q_any (fun y16 ry16 ey16 => ?_)
  refine q_mmin (rest := [.ref y12]) cx hl.1 q_h713 q_h714 q_h157 q_h715 (by decide) (Nat.le_of_ble_eq_true rfl) (by decide) (by decide) ⟨by decide, by decide⟩ ⟨by omega, by omega⟩ dX10_addEnergy_16 (fun y17 ay17 by17 ey17 => ?_)
  refine q_pX10_101_20 cx hB hy12 ky12 ⟨by omega, by omega⟩ (by omega) (by omega) rfl dX10_addEnergy_19 (fun H locs f18 ef18 z19 hB => ?_)
  refine q_ald_n cx dX10_addEnergy_22 rfl (lv_at hl 0 rfl) ?_
  refine q_gX10_101_20 cx hB hy12 ky12 z19 dX10_addEnergy_23 (fun lb20 ub20 => ?_)
  refine q_iret cx hr hlk hB dX10_addEnergy_26 ⟨by omega, by omega⟩ ?_
  exact (by omega)
set_option maxHeartbeats 4000000 in
set_option maxRecDepth 100000 in
theorem g_X7_performCharge (l : Launch) (g : q_G) {K : Nat → Nat} {L : List Nat} (hN : L.Nodup) {f : Nat → va_E} (hT : q_Ty g K L f) (p0 : Nat) (hp0 : p0 ∈ L) (kp0 : K p0 = 0) (p1 : Nat) (hp1 : p1 ∈ L) (kp1 : K p1 = 10) : q_Ct l g K L yX7_performCharge cX7_performCharge 2 (some .boolean) 2 44 [.ref p0, .ref p1] f [(5, 4, 4)] (q_Pi (fun (z : Int) (f1 : Nat → va_E) => 0 ≤ z ∧ z ≤ 1)) := by
  refine q_ofb (by decide +kernel) hN hT (Nat.le_of_ble_eq_true rfl) ?_
  intro p e s m below meth c ls cx hr hlk hB hl
  have hl : lv_has ls 2 [(0, .ref p0), (1, .ref p1)] := hl
  obtain ⟨H, hH⟩ : ∃ H : Heap, H = s.heap := ⟨_, rfl⟩
  obtain ⟨locs, hlocs⟩ : ∃ z : List Loc, z = [] := ⟨_, rfl⟩
  rw [← hH, ← hlocs] at hB
  rw [← hH, ← hlocs]
  refine q_ald_n cx dX7_performCharge_0 rfl (lv_at hl 0 rfl) ?_
  obtain ⟨x15, ex15⟩ : ∃ zz, q_is (q_z f p0 1) zz := ⟨_, q_isr _⟩
  refine q_gX7_102 cx hB hp0 kp0 ex15 dX7_performCharge_1 (fun lb16 ub16 => ?_)
  refine q_cSi (As := [.int (q_i x15)]) (rest := []) cx hB (fun _ h => h) hN (g_X10_isCharge l g hN hB.2.1 x15 (by omega) (by omega)) q_cX7_192 q_dX10_isCharge (by decide) rfl rfl hl.1 rfl (Nat.le_of_ble_eq_true rfl) dX7_performCharge_4 (fun y18 H locs f17 ry18 h19 hF hB => ?_)
  obtain ⟨rfl, ly18, uy18⟩ := h19
  refine q_ifne (tgt := 12) cx ⟨by omega, by omega⟩ dX7_performCharge_7 (by decide) (fun c20 => ?_) (fun c20 => ?_)
  · refine q_ald_n cx dX7_performCharge_12 rfl (lv_at hl 1 rfl) ?_
    refine q_ald_n cx dX7_performCharge_13 rfl (lv_at hl 0 rfl) ?_
    obtain ⟨x21, ex21⟩ : ∃ zz, q_is (q_z f p0 2) zz := ⟨_, q_isr _⟩
    refine q_gX7_118 cx hB hp0 kp0 ex21 dX7_performCharge_14 (fun lb22 ub22 => ?_)
    refine q_ald_n cx dX7_performCharge_17 rfl (lv_at hl 0 rfl) ?_
    refine q_gX7_102 cx hB hp0 kp0 ex15 dX7_performCharge_18 (fun lb23 ub23 => ?_)
    refine q_cVi (As := [.int (q_i x21), .int (q_i x15)]) (rest := []) cx hB (fun _ h => h) hN hp1 kp1 (by decide) rfl (g_X10_addEnergy l g hN hB.2.1 p1 hp1 kp1 x21 (by omega) (by omega) x15 (by omega) (by omega)) q_cX7_195 q_dX10_addEnergy (by decide) rfl rfl hl.1 rfl (Nat.le_of_ble_eq_true rfl) dX7_performCharge_21 (fun y25 H locs f24 ry25 h26 hF hB => ?_)
    have uy25 := h26
    have z27 : q_is (q_z f24 p0 1) x15 := Eq.trans (hF.z hp0 (by rw [kp0]; rfl)) ex15
    have z28 : q_is (q_z f24 p0 2) x21 := Eq.trans (hF.z hp0 (by rw [kp0]; rfl)) ex21
    refine lv_pop cx.1 cx.2.1 dX7_performCharge_24 rfl ?_
    refine q_iconst cx dX7_performCharge_25 ?_
    refine q_zret cx hr hlk hB dX7_performCharge_26 (by decide) (by decide) ?_
    exact ⟨(by decide), (by decide)⟩
  · refine q_iconst cx dX7_performCharge_10 ?_
    refine q_zret cx hr hlk hB dX7_performCharge_11 (by decide) (by decide) ?_
    exact ⟨(by decide), (by decide)⟩
