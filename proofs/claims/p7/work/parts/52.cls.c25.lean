set_option maxHeartbeats 4000000 in
set_option maxRecDepth 100000 in
theorem g_X10_messagesInState_4 (l : Launch) (g : q_G) {K : Nat → Nat} {L : List Nat} (hN : L.Nodup) {f : Nat → va_E} (hT : q_Ty g K L f) (v : Nat) (hv : v ∈ L) (kv : K v = 16) (p0 : Int) (lp0 : (-2147483648) ≤ p0) (up0 : p0 ≤ 2147483647) : q_Ct l g K L yX10_messagesInState cX10_messagesInState 4 (some .int) 1 21 [.ref v, .int (q_i p0)] f [] (q_Pi (fun (z : Int) (f1 : Nat → va_E) => f = f1)) := by
  refine q_ofb (by decide +kernel) hN hT (Nat.le_of_ble_eq_true rfl) ?_
  intro p e s m below meth c ls cx hr hlk hB hl
  have hl : lv_has ls 4 [(0, .ref v), (1, .int (q_i p0))] := hl
  have J4 : ∀ (n : Nat) (v4_2 : Int) (lv4_2 : (-2147483648) ≤ v4_2) (uv4_2 : v4_2 ≤ 2147483647) (v4_3 : Int) (lv4_3 : 0 ≤ v4_3) (uv4_3 : v4_3 ≤ 61) (hmu : (Int.toNat (2147483647 - v4_3)) < n) (H : Heap) (locs : List Loc) (hB : q_B g K L (fun q => q ∈ L) [] f f s H locs) (ls : Array Slot) (hl : lv_has ls 4 [(0, .ref v), (1, .int (q_i p0)), (2, .int (q_i v4_2)), (3, .int (q_i v4_3))]), W p l e { frames := 1, cells := 0, slots := 0, locals := 21 } s m ([.ref v, .int (q_i p0)] : List Value).toArray below meth c H locs 0 0 (MQ below (q_Q g K L [] f (q_Pi (fun (z : Int) (f1 : Nat → va_E) => f = f1))) ([.ref v, .int (q_i p0)] : List Value).toArray s 0 0 (fun q => q ∈ L)) (F0 m 4 ls []) := by
    intro n
    induction n with
    | zero =>
      intro v4_2 lv4_2 uv4_2 v4_3 lv4_3 uv4_3 hmu
      exact absurd hmu (Nat.not_lt_zero _)
    | succ n ih4 =>
      intro v4_2 lv4_2 uv4_2 v4_3 lv4_3 uv4_3 hmu H locs hB ls hl
      have J27 : ∀ (v27_2 : Int) (lv27_2 : (-2147483648) ≤ v27_2) (uv27_2 : v27_2 ≤ 2147483647) (buv4_3 : v4_3 ≤ 60) (H : Heap) (locs : List Loc) (hB : q_B g K L (fun q => q ∈ L) [] f f s H locs) (ls : Array Slot) (hl : lv_has ls 4 [(0, .ref v), (1, .int (q_i p0)), (2, .int (q_i v27_2)), (3, .int (q_i v4_3))]), W p l e { frames := 1, cells := 0, slots := 0, locals := 21 } s m ([.ref v, .int (q_i p0)] : List Value).toArray below meth c H locs 0 0 (MQ below (q_Q g K L [] f (q_Pi (fun (z : Int) (f1 : Nat → va_E) => f = f1))) ([.ref v, .int (q_i p0)] : List Value).toArray s 0 0 (fun q => q ∈ L)) (F0 m 27 ls []) := by
        intro v27_2 lv27_2 uv27_2 buv4_3 H locs hB ls hl
        refine q_iinc (lv' := [(3, .int (q_i (v4_3 + 1))), (0, .ref v), (1, .int (q_i p0)), (2, .int (q_i v27_2))]) cx dX10_messagesInState_27 hl (k := 3) rfl (by decide) rfl (fun ls hl => ?_)
        refine lv_goto (tgt := 4) cx.1 cx.2.1 dX10_messagesInState_30 (by decide) ?_
        exact ih4 v27_2 (by omega) (by omega) (v4_3 + 1) (by omega) (by omega) (by omega) H locs hB ls (lv_sub hl [1, 2, 3, 0] rfl)
      refine q_ild_n cx dX10_messagesInState_4 rfl (lv_at hl 3 rfl) ?_
      refine q_ald_n cx dX10_messagesInState_5 rfl (lv_at hl 0 rfl) ?_
      obtain ⟨x327, ex327⟩ : ∃ zz, q_is (q_z f v 5) zz := ⟨_, q_isr _⟩
      refine q_gX10_42_16 cx hB hv kv ex327 dX10_messagesInState_6 (fun lb328 ub328 => ?_)
      refine q_icge (tgt := 33) cx ⟨by omega, by omega⟩ ⟨by omega, by omega⟩ dX10_messagesInState_9 (by decide) (fun c329 => ?_) (fun c329 => ?_)
      · refine q_ild_n cx dX10_messagesInState_33 rfl (lv_at hl 2 rfl) ?_
        refine q_iret cx hr hlk hB dX10_messagesInState_34 ⟨by omega, by omega⟩ ?_
        exact rfl
      · refine q_ald_n cx dX10_messagesInState_12 rfl (lv_at hl 0 rfl) ?_
        refine q_ild_n cx dX10_messagesInState_13 rfl (lv_at hl 3 rfl) ?_
        refine q_cVr (As := [.int (q_i v4_3)]) (rest := []) cx hB (fun _ h => h) hN hv kv (by decide) rfl (g_X10_messageAt_4 l g hN hB.2.1 v hv kv v4_3 (by omega) (by omega)) q_cX10_81 q_dX10_messageAt (by decide) rfl rfl hl.1 rfl (Nat.le_of_ble_eq_true rfl) dX10_messagesInState_14 (fun y331 H locs f330 h332 hF hB => ?_)
        obtain ⟨rfl, hy331, ky331⟩ := h332
        obtain ⟨x333, ex333⟩ : ∃ zz, q_is (q_z f y331 3) zz := ⟨_, q_isr _⟩
        refine q_gX10_140_28 cx hB hy331 ky331 ex333 dX10_messagesInState_17 (fun lb334 ub334 => ?_)
        refine q_ild_n cx dX10_messagesInState_20 rfl (lv_at hl 1 rfl) ?_
        refine q_icne (tgt := 27) cx ⟨by omega, by omega⟩ ⟨by omega, by omega⟩ dX10_messagesInState_21 (by decide) (fun c335 => ?_) (fun c335 => ?_)
        · exact J27 v4_2 (by omega) (by omega) (by omega) H locs hB ls (lv_sub hl [0, 1, 2, 3] rfl)
        · refine q_iinc (lv' := [(2, .int (q_i (v4_2 + 1))), (0, .ref v), (1, .int (q_i p0)), (3, .int (q_i v4_3))]) cx dX10_messagesInState_24 hl (k := 2) rfl (by decide) rfl (fun ls hl => ?_)
          obtain ⟨y336, ry336, ey336⟩ := q_wrap (v4_2 + 1)
          rw [ey336] at hl
          exact J27 y336 (by omega) (by omega) (by omega) H locs hB ls (lv_sub hl [1, 2, 0, 3] rfl)
  obtain ⟨H, hH⟩ : ∃ H : Heap, H = s.heap := ⟨_, rfl⟩
  obtain ⟨locs, hlocs⟩ : ∃ z : List Loc, z = [] := ⟨_, rfl⟩
  rw [← hH, ← hlocs] at hB
  rw [← hH, ← hlocs]
  refine q_iconst cx dX10_messagesInState_0 ?_
  refine lv_istore_n (lv' := [(2, .int (q_i 0)), (0, .ref v), (1, .int (q_i p0))]) cx.1 cx.2.1 dX10_messagesInState_1 rfl hl (by decide) rfl (fun ls hl => ?_)
  refine q_iconst cx dX10_messagesInState_2 ?_
  refine lv_istore_n (lv' := [(3, .int (q_i 0)), (2, .int (q_i 0)), (0, .ref v), (1, .int (q_i p0))]) cx.1 cx.2.1 dX10_messagesInState_3 rfl hl (by decide) rfl (fun ls hl => ?_)
  exact J4 ((Int.toNat (2147483647 - 0)) + 1) 0 (by decide) (by decide) 0 (by decide) (by decide) (Nat.lt_succ_self _) H locs hB ls (lv_sub hl [2, 3, 1, 0] rfl)
set_option maxHeartbeats 4000000 in
set_option maxRecDepth 100000 in
theorem g_X10_messagesInTime (l : Launch) (g : q_G) {K : Nat → Nat} {L : List Nat} (hN : L.Nodup) {f : Nat → va_E} (hT : q_Ty g K L f) (v : Nat) (hv : v ∈ L) (kv : K v = 10) : q_Ct l g K L yX10_messagesInTime cX10_messagesInTime 4 (some .int) 1 21 [.ref v] f [] (q_Pi (fun (z : Int) (f1 : Nat → va_E) => f = f1)) := by
  refine q_ofb (by decide +kernel) hN hT (Nat.le_of_ble_eq_true rfl) ?_
  intro p e s m below meth c ls cx hr hlk hB hl
  have hl : lv_has ls 4 [(0, .ref v)] := hl
  have J4 : ∀ (n : Nat) (v4_1 : Int) (lv4_1 : (-2147483648) ≤ v4_1) (uv4_1 : v4_1 ≤ 2147483647) (v4_2 : Int) (lv4_2 : 0 ≤ v4_2) (uv4_2 : v4_2 ≤ 61) (hmu : (Int.toNat (2147483647 - v4_2)) < n) (H : Heap) (locs : List Loc) (hB : q_B g K L (fun q => q ∈ L) [] f f s H locs) (ls : Array Slot) (hl : lv_has ls 4 [(0, .ref v), (1, .int (q_i v4_1)), (2, .int (q_i v4_2))]), W p l e { frames := 1, cells := 0, slots := 0, locals := 21 } s m ([.ref v] : List Value).toArray below meth c H locs 0 0 (MQ below (q_Q g K L [] f (q_Pi (fun (z : Int) (f1 : Nat → va_E) => f = f1))) ([.ref v] : List Value).toArray s 0 0 (fun q => q ∈ L)) (F0 m 4 ls []) := by
    intro n
    induction n with
    | zero =>
      intro v4_1 lv4_1 uv4_1 v4_2 lv4_2 uv4_2 hmu
      exact absurd hmu (Nat.not_lt_zero _)
    | succ n ih4 =>
      intro v4_1 lv4_1 uv4_1 v4_2 lv4_2 uv4_2 hmu H locs hB ls hl
      have J40 : ∀ (v40_1 : Int) (lv40_1 : (-2147483648) ≤ v40_1) (uv40_1 : v40_1 ≤ 2147483647) (buv4_2 : v4_2 ≤ 60) (H : Heap) (locs : List Loc) (hB : q_B g K L (fun q => q ∈ L) [] f f s H locs) (ls : Array Slot) (hl : lv_has ls 4 [(0, .ref v), (1, .int (q_i v40_1)), (2, .int (q_i v4_2))]), W p l e { frames := 1, cells := 0, slots := 0, locals := 21 } s m ([.ref v] : List Value).toArray below meth c H locs 0 0 (MQ below (q_Q g K L [] f (q_Pi (fun (z : Int) (f1 : Nat → va_E) => f = f1))) ([.ref v] : List Value).toArray s 0 0 (fun q => q ∈ L)) (F0 m 40 ls []) := by
        intro v40_1 lv40_1 uv40_1 buv4_2 H locs hB ls hl
        refine q_iinc (lv' := [(2, .int (q_i (v4_2 + 1))), (0, .ref v), (1, .int (q_i v40_1))]) cx dX10_messagesInTime_40 hl (k := 2) rfl (by decide) rfl (fun ls hl => ?_)
        refine lv_goto (tgt := 4) cx.1 cx.2.1 dX10_messagesInTime_43 (by decide) ?_
        exact ih4 v40_1 (by omega) (by omega) (v4_2 + 1) (by omega) (by omega) (by omega) H locs hB ls (lv_sub hl [1, 2, 0] rfl)
      refine q_ild_n cx dX10_messagesInTime_4 rfl (lv_at hl 2 rfl) ?_
      refine q_ald_n cx dX10_messagesInTime_5 rfl (lv_at hl 0 rfl) ?_
      obtain ⟨x507, ex507⟩ : ∃ zz, q_is (q_z f v 5) zz := ⟨_, q_isr _⟩
      refine q_gX10_42 cx hB hv kv ex507 dX10_messagesInTime_6 (fun lb508 ub508 => ?_)
      refine q_icge (tgt := 46) cx ⟨by omega, by omega⟩ ⟨by omega, by omega⟩ dX10_messagesInTime_9 (by decide) (fun c509 => ?_) (fun c509 => ?_)
      · refine q_ild_n cx dX10_messagesInTime_46 rfl (lv_at hl 1 rfl) ?_
        refine q_iret cx hr hlk hB dX10_messagesInTime_47 ⟨by omega, by omega⟩ ?_
        exact rfl
      · refine q_ald_n cx dX10_messagesInTime_12 rfl (lv_at hl 0 rfl) ?_
        refine q_ild_n cx dX10_messagesInTime_13 rfl (lv_at hl 2 rfl) ?_
        refine q_cVr (As := [.int (q_i v4_2)]) (rest := []) cx hB (fun _ h => h) hN hv kv (by decide) rfl (g_X10_messageAt l g hN hB.2.1 v hv kv v4_2 (by omega) (by omega)) q_cX10_81 q_dX10_messageAt (by decide) rfl rfl hl.1 rfl (Nat.le_of_ble_eq_true rfl) dX10_messagesInTime_14 (fun y511 H locs f510 h512 hF hB => ?_)
        obtain ⟨rfl, hy511, ky511⟩ := h512
        refine lv_astore_n (lv' := [(3, .ref y511), (0, .ref v), (1, .int (q_i v4_1)), (2, .int (q_i v4_2))]) cx.1 cx.2.1 dX10_messagesInTime_17 rfl hl (by decide) rfl (fun ls hl => ?_)
        refine q_ald_n cx dX10_messagesInTime_18 rfl (lv_at hl 0 rfl) ?_
        obtain ⟨x513, ex513⟩ : ∃ zz, q_is (q_z f y511 3) zz := ⟨_, q_isr _⟩
        refine q_gX10_140 cx hB hy511 ky511 ex513 dX10_messagesInTime_19 (fun lb514 ub514 => ?_)
        refine q_iconst cx dX10_messagesInTime_22 ?_
        refine q_icne (tgt := 40) cx ⟨by omega, by omega⟩ ⟨by decide, by decide⟩ dX10_messagesInTime_23 (by decide) (fun c515 => ?_) (fun c515 => ?_)
        · exact J40 v4_1 (by omega) (by omega) (by omega) H locs hB ls (lv_sub hl [1, 2, 3] rfl)
        · refine q_ald_n cx dX10_messagesInTime_26 rfl (lv_at hl 0 rfl) ?_
          obtain ⟨x516, ex516⟩ : ∃ zz, q_is (q_z f y511 5) zz := ⟨_, q_isr _⟩
          refine q_gX10_146 cx hB hy511 ky511 ex516 dX10_messagesInTime_27 (fun lb517 ub517 => ?_)
          refine q_ald_n cx dX10_messagesInTime_30 rfl (lv_at hl 0 rfl) ?_
          obtain ⟨x518, ex518⟩ : ∃ zz, q_is (q_z f y511 4) zz := ⟨_, q_isr _⟩
          refine q_gX10_143 cx hB hy511 ky511 ex518 dX10_messagesInTime_31 (fun lb519 ub519 => ?_)
          refine q_icgt (tgt := 40) cx ⟨by omega, by omega⟩ ⟨by omega, by omega⟩ dX10_messagesInTime_34 (by decide) (fun c520 => ?_) (fun c520 => ?_)
          · exact J40 v4_1 (by omega) (by omega) (by omega) H locs hB ls (lv_sub hl [1, 2, 3] rfl)
          · refine q_iinc (lv' := [(1, .int (q_i (v4_1 + 1))), (3, .ref y511), (0, .ref v), (2, .int (q_i v4_2))]) cx dX10_messagesInTime_37 hl (k := 2) rfl (by decide) rfl (fun ls hl => ?_)
            obtain ⟨y521, ry521, ey521⟩ := q_wrap (v4_1 + 1)
            rw [ey521] at hl
            exact J40 y521 (by omega) (by omega) (by omega) H locs hB ls (lv_sub hl [2, 0, 3] rfl)
  obtain ⟨H, hH⟩ : ∃ H : Heap, H = s.heap := ⟨_, rfl⟩
  obtain ⟨locs, hlocs⟩ : ∃ z : List Loc, z = [] := ⟨_, rfl⟩
  rw [← hH, ← hlocs] at hB
  rw [← hH, ← hlocs]
  refine q_iconst cx dX10_messagesInTime_0 ?_
  refine lv_istore_n (lv' := [(1, .int (q_i 0)), (0, .ref v)]) cx.1 cx.2.1 dX10_messagesInTime_1 rfl hl (by decide) rfl (fun ls hl => ?_)
  refine q_iconst cx dX10_messagesInTime_2 ?_
  refine lv_istore_n (lv' := [(2, .int (q_i 0)), (1, .int (q_i 0)), (0, .ref v)]) cx.1 cx.2.1 dX10_messagesInTime_3 rfl hl (by decide) rfl (fun ls hl => ?_)
  exact J4 ((Int.toNat (2147483647 - 0)) + 1) 0 (by decide) (by decide) 0 (by decide) (by decide) (Nat.lt_succ_self _) H locs hB ls (lv_sub hl [2, 1, 0] rfl)
set_option maxHeartbeats 4000000 in
set_option maxRecDepth 100000 in
theorem g_X10_messagesInTime_1 (l : Launch) (g : q_G) {K : Nat → Nat} {L : List Nat} (hN : L.Nodup) {f : Nat → va_E} (hT : q_Ty g K L f) (v : Nat) (hv : v ∈ L) (kv : K v = 13) : q_Ct l g K L yX10_messagesInTime cX10_messagesInTime 4 (some .int) 1 21 [.ref v] f [] (q_Pi (fun (z : Int) (f1 : Nat → va_E) => f = f1)) := by
  refine q_ofb (by decide +kernel) hN hT (Nat.le_of_ble_eq_true rfl) ?_
  intro p e s m below meth c ls cx hr hlk hB hl
  have hl : lv_has ls 4 [(0, .ref v)] := hl
  have J4 : ∀ (n : Nat) (v4_1 : Int) (lv4_1 : (-2147483648) ≤ v4_1) (uv4_1 : v4_1 ≤ 2147483647) (v4_2 : Int) (lv4_2 : 0 ≤ v4_2) (uv4_2 : v4_2 ≤ 61) (hmu : (Int.toNat (2147483647 - v4_2)) < n) (H : Heap) (locs : List Loc) (hB : q_B g K L (fun q => q ∈ L) [] f f s H locs) (ls : Array Slot) (hl : lv_has ls 4 [(0, .ref v), (1, .int (q_i v4_1)), (2, .int (q_i v4_2))]), W p l e { frames := 1, cells := 0, slots := 0, locals := 21 } s m ([.ref v] : List Value).toArray below meth c H locs 0 0 (MQ below (q_Q g K L [] f (q_Pi (fun (z : Int) (f1 : Nat → va_E) => f = f1))) ([.ref v] : List Value).toArray s 0 0 (fun q => q ∈ L)) (F0 m 4 ls []) := by
    intro n
    induction n with
    | zero =>
      intro v4_1 lv4_1 uv4_1 v4_2 lv4_2 uv4_2 hmu
      exact absurd hmu (Nat.not_lt_zero _)
    | succ n ih4 =>
      intro v4_1 lv4_1 uv4_1 v4_2 lv4_2 uv4_2 hmu H locs hB ls hl
      have J40 : ∀ (v40_1 : Int) (lv40_1 : (-2147483648) ≤ v40_1) (uv40_1 : v40_1 ≤ 2147483647) (buv4_2 : v4_2 ≤ 60) (H : Heap) (locs : List Loc) (hB : q_B g K L (fun q => q ∈ L) [] f f s H locs) (ls : Array Slot) (hl : lv_has ls 4 [(0, .ref v), (1, .int (q_i v40_1)), (2, .int (q_i v4_2))]), W p l e { frames := 1, cells := 0, slots := 0, locals := 21 } s m ([.ref v] : List Value).toArray below meth c H locs 0 0 (MQ below (q_Q g K L [] f (q_Pi (fun (z : Int) (f1 : Nat → va_E) => f = f1))) ([.ref v] : List Value).toArray s 0 0 (fun q => q ∈ L)) (F0 m 40 ls []) := by
        intro v40_1 lv40_1 uv40_1 buv4_2 H locs hB ls hl
        refine q_iinc (lv' := [(2, .int (q_i (v4_2 + 1))), (0, .ref v), (1, .int (q_i v40_1))]) cx dX10_messagesInTime_40 hl (k := 2) rfl (by decide) rfl (fun ls hl => ?_)
        refine lv_goto (tgt := 4) cx.1 cx.2.1 dX10_messagesInTime_43 (by decide) ?_
        exact ih4 v40_1 (by omega) (by omega) (v4_2 + 1) (by omega) (by omega) (by omega) H locs hB ls (lv_sub hl [1, 2, 0] rfl)
      refine q_ild_n cx dX10_messagesInTime_4 rfl (lv_at hl 2 rfl) ?_
      refine q_ald_n cx dX10_messagesInTime_5 rfl (lv_at hl 0 rfl) ?_
      obtain ⟨x507, ex507⟩ : ∃ zz, q_is (q_z f v 5) zz := ⟨_, q_isr _⟩
      refine q_gX10_42_13 cx hB hv kv ex507 dX10_messagesInTime_6 (fun lb508 ub508 => ?_)
      refine q_icge (tgt := 46) cx ⟨by omega, by omega⟩ ⟨by omega, by omega⟩ dX10_messagesInTime_9 (by decide) (fun c509 => ?_) (fun c509 => ?_)
      · refine q_ild_n cx dX10_messagesInTime_46 rfl (lv_at hl 1 rfl) ?_
        refine q_iret cx hr hlk hB dX10_messagesInTime_47 ⟨by omega, by omega⟩ ?_
        exact rfl
      · refine q_ald_n cx dX10_messagesInTime_12 rfl (lv_at hl 0 rfl) ?_
        refine q_ild_n cx dX10_messagesInTime_13 rfl (lv_at hl 2 rfl) ?_
        refine q_cVr (As := [.int (q_i v4_2)]) (rest := []) cx hB (fun _ h => h) hN hv kv (by decide) rfl (g_X10_messageAt_1 l g hN hB.2.1 v hv kv v4_2 (by omega) (by omega)) q_cX10_81 q_dX10_messageAt (by decide) rfl rfl hl.1 rfl (Nat.le_of_ble_eq_true rfl) dX10_messagesInTime_14 (fun y511 H locs f510 h512 hF hB => ?_)
        obtain ⟨rfl, hy511, ky511⟩ := h512
        refine lv_astore_n (lv' := [(3, .ref y511), (0, .ref v), (1, .int (q_i v4_1)), (2, .int (q_i v4_2))]) cx.1 cx.2.1 dX10_messagesInTime_17 rfl hl (by decide) rfl (fun ls hl => ?_)
        refine q_ald_n cx dX10_messagesInTime_18 rfl (lv_at hl 0 rfl) ?_
        obtain ⟨x513, ex513⟩ : ∃ zz, q_is (q_z f y511 3) zz := ⟨_, q_isr _⟩
        refine q_gX10_140_25 cx hB hy511 ky511 ex513 dX10_messagesInTime_19 (fun lb514 ub514 => ?_)
        refine q_iconst cx dX10_messagesInTime_22 ?_
        refine q_icne (tgt := 40) cx ⟨by omega, by omega⟩ ⟨by decide, by decide⟩ dX10_messagesInTime_23 (by decide) (fun c515 => ?_) (fun c515 => ?_)
        · exact J40 v4_1 (by omega) (by omega) (by omega) H locs hB ls (lv_sub hl [1, 2, 3] rfl)
        · refine q_ald_n cx dX10_messagesInTime_26 rfl (lv_at hl 0 rfl) ?_
          obtain ⟨x516, ex516⟩ : ∃ zz, q_is (q_z f y511 5) zz := ⟨_, q_isr _⟩
          refine q_gX10_146_25 cx hB hy511 ky511 ex516 dX10_messagesInTime_27 (fun lb517 ub517 => ?_)
          refine q_ald_n cx dX10_messagesInTime_30 rfl (lv_at hl 0 rfl) ?_
          obtain ⟨x518, ex518⟩ : ∃ zz, q_is (q_z f y511 4) zz := ⟨_, q_isr _⟩
          refine q_gX10_143_25 cx hB hy511 ky511 ex518 dX10_messagesInTime_31 (fun lb519 ub519 => ?_)
          refine q_icgt (tgt := 40) cx ⟨by omega, by omega⟩ ⟨by omega, by omega⟩ dX10_messagesInTime_34 (by decide) (fun c520 => ?_) (fun c520 => ?_)
          · exact J40 v4_1 (by omega) (by omega) (by omega) H locs hB ls (lv_sub hl [1, 2, 3] rfl)
          · refine q_iinc (lv' := [(1, .int (q_i (v4_1 + 1))), (3, .ref y511), (0, .ref v), (2, .int (q_i v4_2))]) cx dX10_messagesInTime_37 hl (k := 2) rfl (by decide) rfl (fun ls hl => ?_)
            obtain ⟨y521, ry521, ey521⟩ := q_wrap (v4_1 + 1)
            rw [ey521] at hl
            exact J40 y521 (by omega) (by omega) (by omega) H locs hB ls (lv_sub hl [2, 0, 3] rfl)
  obtain ⟨H, hH⟩ : ∃ H : Heap, H = s.heap := ⟨_, rfl⟩
  obtain ⟨locs, hlocs⟩ : ∃ z : List Loc, z = [] := ⟨_, rfl⟩
  rw [← hH, ← hlocs] at hB
  rw [← hH, ← hlocs]
  refine q_iconst cx dX10_messagesInTime_0 ?_
  refine lv_istore_n (lv' := [(1, .int (q_i 0)), (0, .ref v)]) cx.1 cx.2.1 dX10_messagesInTime_1 rfl hl (by decide) rfl (fun ls hl => ?_)
  refine q_iconst cx dX10_messagesInTime_2 ?_
  refine lv_istore_n (lv' := [(2, .int (q_i 0)), (1, .int (q_i 0)), (0, .ref v)]) cx.1 cx.2.1 dX10_messagesInTime_3 rfl hl (by decide) rfl (fun ls hl => ?_)
  exact J4 ((Int.toNat (2147483647 - 0)) + 1) 0 (by decide) (by decide) 0 (by decide) (by decide) (Nat.lt_succ_self _) H locs hB ls (lv_sub hl [2, 1, 0] rfl)
set_option maxHeartbeats 4000000 in
set_option maxRecDepth 100000 in
theorem g_X10_messagesInTime_2 (l : Launch) (g : q_G) {K : Nat → Nat} {L : List Nat} (hN : L.Nodup) {f : Nat → va_E} (hT : q_Ty g K L f) (v : Nat) (hv : v ∈ L) (kv : K v = 14) : q_Ct l g K L yX10_messagesInTime cX10_messagesInTime 4 (some .int) 1 21 [.ref v] f [] (q_Pi (fun (z : Int) (f1 : Nat → va_E) => f = f1)) := by
  refine q_ofb (by decide +kernel) hN hT (Nat.le_of_ble_eq_true rfl) ?_
  intro p e s m below meth c ls cx hr hlk hB hl
  have hl : lv_has ls 4 [(0, .ref v)] := hl
  have J4 : ∀ (n : Nat) (v4_1 : Int) (lv4_1 : (-2147483648) ≤ v4_1) (uv4_1 : v4_1 ≤ 2147483647) (v4_2 : Int) (lv4_2 : 0 ≤ v4_2) (uv4_2 : v4_2 ≤ 61) (hmu : (Int.toNat (2147483647 - v4_2)) < n) (H : Heap) (locs : List Loc) (hB : q_B g K L (fun q => q ∈ L) [] f f s H locs) (ls : Array Slot) (hl : lv_has ls 4 [(0, .ref v), (1, .int (q_i v4_1)), (2, .int (q_i v4_2))]), W p l e { frames := 1, cells := 0, slots := 0, locals := 21 } s m ([.ref v] : List Value).toArray below meth c H locs 0 0 (MQ below (q_Q g K L [] f (q_Pi (fun (z : Int) (f1 : Nat → va_E) => f = f1))) ([.ref v] : List Value).toArray s 0 0 (fun q => q ∈ L)) (F0 m 4 ls []) := by
    intro n
    induction n with
    | zero =>
      intro v4_1 lv4_1 uv4_1 v4_2 lv4_2 uv4_2 hmu
      exact absurd hmu (Nat.not_lt_zero _)
    | succ n ih4 =>
      intro v4_1 lv4_1 uv4_1 v4_2 lv4_2 uv4_2 hmu H locs hB ls hl
      have J40 : ∀ (v40_1 : Int) (lv40_1 : (-2147483648) ≤ v40_1) (uv40_1 : v40_1 ≤ 2147483647) (buv4_2 : v4_2 ≤ 60) (H : Heap) (locs : List Loc) (hB : q_B g K L (fun q => q ∈ L) [] f f s H locs) (ls : Array Slot) (hl : lv_has ls 4 [(0, .ref v), (1, .int (q_i v40_1)), (2, .int (q_i v4_2))]), W p l e { frames := 1, cells := 0, slots := 0, locals := 21 } s m ([.ref v] : List Value).toArray below meth c H locs 0 0 (MQ below (q_Q g K L [] f (q_Pi (fun (z : Int) (f1 : Nat → va_E) => f = f1))) ([.ref v] : List Value).toArray s 0 0 (fun q => q ∈ L)) (F0 m 40 ls []) := by
        intro v40_1 lv40_1 uv40_1 buv4_2 H locs hB ls hl
        refine q_iinc (lv' := [(2, .int (q_i (v4_2 + 1))), (0, .ref v), (1, .int (q_i v40_1))]) cx dX10_messagesInTime_40 hl (k := 2) rfl (by decide) rfl (fun ls hl => ?_)
        refine lv_goto (tgt := 4) cx.1 cx.2.1 dX10_messagesInTime_43 (by decide) ?_
        exact ih4 v40_1 (by omega) (by omega) (v4_2 + 1) (by omega) (by omega) (by omega) H locs hB ls (lv_sub hl [1, 2, 0] rfl)
      refine q_ild_n cx dX10_messagesInTime_4 rfl (lv_at hl 2 rfl) ?_
      refine q_ald_n cx dX10_messagesInTime_5 rfl (lv_at hl 0 rfl) ?_
      obtain ⟨x507, ex507⟩ : ∃ zz, q_is (q_z f v 5) zz := ⟨_, q_isr _⟩
      refine q_gX10_42_14 cx hB hv kv ex507 dX10_messagesInTime_6 (fun lb508 ub508 => ?_)
      refine q_icge (tgt := 46) cx ⟨by omega, by omega⟩ ⟨by omega, by omega⟩ dX10_messagesInTime_9 (by decide) (fun c509 => ?_) (fun c509 => ?_)
      · refine q_ild_n cx dX10_messagesInTime_46 rfl (lv_at hl 1 rfl) ?_
        refine q_iret cx hr hlk hB dX10_messagesInTime_47 ⟨by omega, by omega⟩ ?_
        exact rfl
      · refine q_ald_n cx dX10_messagesInTime_12 rfl (lv_at hl 0 rfl) ?_
        refine q_ild_n cx dX10_messagesInTime_13 rfl (lv_at hl 2 rfl) ?_
        refine q_cVr (As := [.int (q_i v4_2)]) (rest := []) cx hB (fun _ h => h) hN hv kv (by decide) rfl (g_X10_messageAt_2 l g hN hB.2.1 v hv kv v4_2 (by omega) (by omega)) q_cX10_81 q_dX10_messageAt (by decide) rfl rfl hl.1 rfl (Nat.le_of_ble_eq_true rfl) dX10_messagesInTime_14 (fun y511 H locs f510 h512 hF hB => ?_)
        obtain ⟨rfl, hy511, ky511⟩ := h512
        refine lv_astore_n (lv' := [(3, .ref y511), (0, .ref v), (1, .int (q_i v4_1)), (2, .int (q_i v4_2))]) cx.1 cx.2.1 dX10_messagesInTime_17 rfl hl (by decide) rfl (fun ls hl => ?_)
        refine q_ald_n cx dX10_messagesInTime_18 rfl (lv_at hl 0 rfl) ?_
        obtain ⟨x513, ex513⟩ : ∃ zz, q_is (q_z f y511 3) zz := ⟨_, q_isr _⟩
        refine q_gX10_140_26 cx hB hy511 ky511 ex513 dX10_messagesInTime_19 (fun lb514 ub514 => ?_)
        refine q_iconst cx dX10_messagesInTime_22 ?_
        refine q_icne (tgt := 40) cx ⟨by omega, by omega⟩ ⟨by decide, by decide⟩ dX10_messagesInTime_23 (by decide) (fun c515 => ?_) (fun c515 => ?_)
        · exact J40 v4_1 (by omega) (by omega) (by omega) H locs hB ls (lv_sub hl [1, 2, 3] rfl)
        · refine q_ald_n cx dX10_messagesInTime_26 rfl (lv_at hl 0 rfl) ?_
          obtain ⟨x516, ex516⟩ : ∃ zz, q_is (q_z f y511 5) zz := ⟨_, q_isr _⟩
          refine q_gX10_146_26 cx hB hy511 ky511 ex516 dX10_messagesInTime_27 (fun lb517 ub517 => ?_)
          refine q_ald_n cx dX10_messagesInTime_30 rfl (lv_at hl 0 rfl) ?_
          obtain ⟨x518, ex518⟩ : ∃ zz, q_is (q_z f y511 4) zz := ⟨_, q_isr _⟩
          refine q_gX10_143_26 cx hB hy511 ky511 ex518 dX10_messagesInTime_31 (fun lb519 ub519 => ?_)
          refine q_icgt (tgt := 40) cx ⟨by omega, by omega⟩ ⟨by omega, by omega⟩ dX10_messagesInTime_34 (by decide) (fun c520 => ?_) (fun c520 => ?_)
          · exact J40 v4_1 (by omega) (by omega) (by omega) H locs hB ls (lv_sub hl [1, 2, 3] rfl)
          · refine q_iinc (lv' := [(1, .int (q_i (v4_1 + 1))), (3, .ref y511), (0, .ref v), (2, .int (q_i v4_2))]) cx dX10_messagesInTime_37 hl (k := 2) rfl (by decide) rfl (fun ls hl => ?_)
            obtain ⟨y521, ry521, ey521⟩ := q_wrap (v4_1 + 1)
            rw [ey521] at hl
            exact J40 y521 (by omega) (by omega) (by omega) H locs hB ls (lv_sub hl [2, 0, 3] rfl)
  obtain ⟨H, hH⟩ : ∃ H : Heap, H = s.heap := ⟨_, rfl⟩
  obtain ⟨locs, hlocs⟩ : ∃ z : List Loc, z = [] := ⟨_, rfl⟩
  rw [← hH, ← hlocs] at hB
  rw [← hH, ← hlocs]
  refine q_iconst cx dX10_messagesInTime_0 ?_
  refine lv_istore_n (lv' := [(1, .int (q_i 0)), (0, .ref v)]) cx.1 cx.2.1 dX10_messagesInTime_1 rfl hl (by decide) rfl (fun ls hl => ?_)
  refine q_iconst cx dX10_messagesInTime_2 ?_
  refine lv_istore_n (lv' := [(2, .int (q_i 0)), (1, .int (q_i 0)), (0, .ref v)]) cx.1 cx.2.1 dX10_messagesInTime_3 rfl hl (by decide) rfl (fun ls hl => ?_)
  exact J4 ((Int.toNat (2147483647 - 0)) + 1) 0 (by decide) (by decide) 0 (by decide) (by decide) (Nat.lt_succ_self _) H locs hB ls (lv_sub hl [2, 1, 0] rfl)
set_option maxHeartbeats 4000000 in
set_option maxRecDepth 100000 in
theorem g_X10_messagesInTime_3 (l : Launch) (g : q_G) {K : Nat → Nat} {L : List Nat} (hN : L.Nodup) {f : Nat → va_E} (hT : q_Ty g K L f) (v : Nat) (hv : v ∈ L) (kv : K v = 15) : q_Ct l g K L yX10_messagesInTime cX10_messagesInTime 4 (some .int) 1 21 [.ref v] f [] (q_Pi (fun (z : Int) (f1 : Nat → va_E) => f = f1)) := by
  refine q_ofb (by decide +kernel) hN hT (Nat.le_of_ble_eq_true rfl) ?_
  intro p e s m below meth c ls cx hr hlk hB hl
  have hl : lv_has ls 4 [(0, .ref v)] := hl
  have J4 : ∀ (n : Nat) (v4_1 : Int) (lv4_1 : (-2147483648) ≤ v4_1) (uv4_1 : v4_1 ≤ 2147483647) (v4_2 : Int) (lv4_2 : 0 ≤ v4_2) (uv4_2 : v4_2 ≤ 61) (hmu : (Int.toNat (2147483647 - v4_2)) < n) (H : Heap) (locs : List Loc) (hB : q_B g K L (fun q => q ∈ L) [] f f s H locs) (ls : Array Slot) (hl : lv_has ls 4 [(0, .ref v), (1, .int (q_i v4_1)), (2, .int (q_i v4_2))]), W p l e { frames := 1, cells := 0, slots := 0, locals := 21 } s m ([.ref v] : List Value).toArray below meth c H locs 0 0 (MQ below (q_Q g K L [] f (q_Pi (fun (z : Int) (f1 : Nat → va_E) => f = f1))) ([.ref v] : List Value).toArray s 0 0 (fun q => q ∈ L)) (F0 m 4 ls []) := by
    intro n
    induction n with
    | zero =>
      intro v4_1 lv4_1 uv4_1 v4_2 lv4_2 uv4_2 hmu
      exact absurd hmu (Nat.not_lt_zero _)
    | succ n ih4 =>
      intro v4_1 lv4_1 uv4_1 v4_2 lv4_2 uv4_2 hmu H locs hB ls hl
      have J40 : ∀ (v40_1 : Int) (lv40_1 : (-2147483648) ≤ v40_1) (uv40_1 : v40_1 ≤ 2147483647) (buv4_2 : v4_2 ≤ 60) (H : Heap) (locs : List Loc) (hB : q_B g K L (fun q => q ∈ L) [] f f s H locs) (ls : Array Slot) (hl : lv_has ls 4 [(0, .ref v), (1, .int (q_i v40_1)), (2, .int (q_i v4_2))]), W p l e { frames := 1, cells := 0, slots := 0, locals := 21 } s m ([.ref v] : List Value).toArray below meth c H locs 0 0 (MQ below (q_Q g K L [] f (q_Pi (fun (z : Int) (f1 : Nat → va_E) => f = f1))) ([.ref v] : List Value).toArray s 0 0 (fun q => q ∈ L)) (F0 m 40 ls []) := by
        intro v40_1 lv40_1 uv40_1 buv4_2 H locs hB ls hl
        refine q_iinc (lv' := [(2, .int (q_i (v4_2 + 1))), (0, .ref v), (1, .int (q_i v40_1))]) cx dX10_messagesInTime_40 hl (k := 2) rfl (by decide) rfl (fun ls hl => ?_)
        refine lv_goto (tgt := 4) cx.1 cx.2.1 dX10_messagesInTime_43 (by decide) ?_
        exact ih4 v40_1 (by omega) (by omega) (v4_2 + 1) (by omega) (by omega) (by omega) H locs hB ls (lv_sub hl [1, 2, 0] rfl)
      refine q_ild_n cx dX10_messagesInTime_4 rfl (lv_at hl 2 rfl) ?_
      refine q_ald_n cx dX10_messagesInTime_5 rfl (lv_at hl 0 rfl) ?_
      obtain ⟨x507, ex507⟩ : ∃ zz, q_is (q_z f v 5) zz := ⟨_, q_isr _⟩
      refine q_gX10_42_15 cx hB hv kv ex507 dX10_messagesInTime_6 (fun lb508 ub508 => ?_)
      refine q_icge (tgt := 46) cx ⟨by omega, by omega⟩ ⟨by omega, by omega⟩ dX10_messagesInTime_9 (by decide) (fun c509 => ?_) (fun c509 => ?_)
      · refine q_ild_n cx dX10_messagesInTime_46 rfl (lv_at hl 1 rfl) ?_
        refine q_iret cx hr hlk hB dX10_messagesInTime_47 ⟨by omega, by omega⟩ ?_
        exact rfl
      · refine q_ald_n cx dX10_messagesInTime_12 rfl (lv_at hl 0 rfl) ?_
        refine q_ild_n cx dX10_messagesInTime_13 rfl (lv_at hl 2 rfl) ?_
        refine q_cVr (As := [.int (q_i v4_2)]) (rest := []) cx hB (fun _ h => h) hN hv kv (by decide) rfl (g_X10_messageAt_3 l g hN hB.2.1 v hv kv v4_2 (by omega) (by omega)) q_cX10_81 q_dX10_messageAt (by decide) rfl rfl hl.1 rfl (Nat.le_of_ble_eq_true rfl) dX10_messagesInTime_14 (fun y511 H locs f510 h512 hF hB => ?_)
        obtain ⟨rfl, hy511, ky511⟩ := h512
        refine lv_astore_n (lv' := [(3, .ref y511), (0, .ref v), (1, .int (q_i v4_1)), (2, .int (q_i v4_2))]) cx.1 cx.2.1 dX10_messagesInTime_17 rfl hl (by decide) rfl (fun ls hl => ?_)
        refine q_ald_n cx dX10_messagesInTime_18 rfl (lv_at hl 0 rfl) ?_
        obtain ⟨x513, ex513⟩ : ∃ zz, q_is (q_z f y511 3) zz := ⟨_, q_isr _⟩
        refine q_gX10_140_27 cx hB hy511 ky511 ex513 dX10_messagesInTime_19 (fun lb514 ub514 => ?_)
        refine q_iconst cx dX10_messagesInTime_22 ?_
        refine q_icne (tgt := 40) cx ⟨by omega, by omega⟩ ⟨by decide, by decide⟩ dX10_messagesInTime_23 (by decide) (fun c515 => ?_) (fun c515 => ?_)
        · exact J40 v4_1 (by omega) (by omega) (by omega) H locs hB ls (lv_sub hl [1, 2, 3] rfl)
        · refine q_ald_n cx dX10_messagesInTime_26 rfl (lv_at hl 0 rfl) ?_
          obtain ⟨x516, ex516⟩ : ∃ zz, q_is (q_z f y511 5) zz := ⟨_, q_isr _⟩
          refine q_gX10_146_27 cx hB hy511 ky511 ex516 dX10_messagesInTime_27 (fun lb517 ub517 => ?_)
          refine q_ald_n cx dX10_messagesInTime_30 rfl (lv_at hl 0 rfl) ?_
          obtain ⟨x518, ex518⟩ : ∃ zz, q_is (q_z f y511 4) zz := ⟨_, q_isr _⟩
          refine q_gX10_143_27 cx hB hy511 ky511 ex518 dX10_messagesInTime_31 (fun lb519 ub519 => ?_)
          refine q_icgt (tgt := 40) cx ⟨by omega, by omega⟩ ⟨by omega, by omega⟩ dX10_messagesInTime_34 (by decide) (fun c520 => ?_) (fun c520 => ?_)
          · exact J40 v4_1 (by omega) (by omega) (by omega) H locs hB ls (lv_sub hl [1, 2, 3] rfl)
          · refine q_iinc (lv' := [(1, .int (q_i (v4_1 + 1))), (3, .ref y511), (0, .ref v), (2, .int (q_i v4_2))]) cx dX10_messagesInTime_37 hl (k := 2) rfl (by decide) rfl (fun ls hl => ?_)
            obtain ⟨y521, ry521, ey521⟩ := q_wrap (v4_1 + 1)
            rw [ey521] at hl
            exact J40 y521 (by omega) (by omega) (by omega) H locs hB ls (lv_sub hl [2, 0, 3] rfl)
  obtain ⟨H, hH⟩ : ∃ H : Heap, H = s.heap := ⟨_, rfl⟩
  obtain ⟨locs, hlocs⟩ : ∃ z : List Loc, z = [] := ⟨_, rfl⟩
  rw [← hH, ← hlocs] at hB
  rw [← hH, ← hlocs]
  refine q_iconst cx dX10_messagesInTime_0 ?_
  refine lv_istore_n (lv' := [(1, .int (q_i 0)), (0, .ref v)]) cx.1 cx.2.1 dX10_messagesInTime_1 rfl hl (by decide) rfl (fun ls hl => ?_)
  refine q_iconst cx dX10_messagesInTime_2 ?_
  refine lv_istore_n (lv' := [(2, .int (q_i 0)), (1, .int (q_i 0)), (0, .ref v)]) cx.1 cx.2.1 dX10_messagesInTime_3 rfl hl (by decide) rfl (fun ls hl => ?_)
  exact J4 ((Int.toNat (2147483647 - 0)) + 1) 0 (by decide) (by decide) 0 (by decide) (by decide) (Nat.lt_succ_self _) H locs hB ls (lv_sub hl [2, 1, 0] rfl)
set_option maxHeartbeats 4000000 in
set_option maxRecDepth 100000 in
theorem g_X10_messagesInTime_4 (l : Launch) (g : q_G) {K : Nat → Nat} {L : List Nat} (hN : L.Nodup) {f : Nat → va_E} (hT : q_Ty g K L f) (v : Nat) (hv : v ∈ L) (kv : K v = 16) : q_Ct l g K L yX10_messagesInTime cX10_messagesInTime 4 (some .int) 1 21 [.ref v] f [] (q_Pi (fun (z : Int) (f1 : Nat → va_E) => f = f1)) := by
  refine q_ofb (by decide +kernel) hN hT (Nat.le_of_ble_eq_true rfl) ?_
  intro p e s m below meth c ls cx hr hlk hB hl
  have hl : lv_has ls 4 [(0, .ref v)] := hl
  have J4 : ∀ (n : Nat) (v4_1 : Int) (lv4_1 : (-2147483648) ≤ v4_1) (uv4_1 : v4_1 ≤ 2147483647) (v4_2 : Int) (lv4_2 : 0 ≤ v4_2) (uv4_2 : v4_2 ≤ 61) (hmu : (Int.toNat (2147483647 - v4_2)) < n) (H : Heap) (locs : List Loc) (hB : q_B g K L (fun q => q ∈ L) [] f f s H locs) (ls : Array Slot) (hl : lv_has ls 4 [(0, .ref v), (1, .int (q_i v4_1)), (2, .int (q_i v4_2))]), W p l e { frames := 1, cells := 0, slots := 0, locals := 21 } s m ([.ref v] : List Value).toArray below meth c H locs 0 0 (MQ below (q_Q g K L [] f (q_Pi (fun (z : Int) (f1 : Nat → va_E) => f = f1))) ([.ref v] : List Value).toArray s 0 0 (fun q => q ∈ L)) (F0 m 4 ls []) := by
    intro n
    induction n with
    | zero =>
      intro v4_1 lv4_1 uv4_1 v4_2 lv4_2 uv4_2 hmu
      exact absurd hmu (Nat.not_lt_zero _)
    | succ n ih4 =>
      intro v4_1 lv4_1 uv4_1 v4_2 lv4_2 uv4_2 hmu H locs hB ls hl
      have J40 : ∀ (v40_1 : Int) (lv40_1 : (-2147483648) ≤ v40_1) (uv40_1 : v40_1 ≤ 2147483647) (buv4_2 : v4_2 ≤ 60) (H : Heap) (locs : List Loc) (hB : q_B g K L (fun q => q ∈ L) [] f f s H locs) (ls : Array Slot) (hl : lv_has ls 4 [(0, .ref v), (1, .int (q_i v40_1)), (2, .int (q_i v4_2))]), W p l e { frames := 1, cells := 0, slots := 0, locals := 21 } s m ([.ref v] : List Value).toArray below meth c H locs 0 0 (MQ below (q_Q g K L [] f (q_Pi (fun (z : Int) (f1 : Nat → va_E) => f = f1))) ([.ref v] : List Value).toArray s 0 0 (fun q => q ∈ L)) (F0 m 40 ls []) := by
        intro v40_1 lv40_1 uv40_1 buv4_2 H locs hB ls hl
        refine q_iinc (lv' := [(2, .int (q_i (v4_2 + 1))), (0, .ref v), (1, .int (q_i v40_1))]) cx dX10_messagesInTime_40 hl (k := 2) rfl (by decide) rfl (fun ls hl => ?_)
        refine lv_goto (tgt := 4) cx.1 cx.2.1 dX10_messagesInTime_43 (by decide) ?_
        exact ih4 v40_1 (by omega) (by omega) (v4_2 + 1) (by omega) (by omega) (by omega) H locs hB ls (lv_sub hl [1, 2, 0] rfl)
      refine q_ild_n cx dX10_messagesInTime_4 rfl (lv_at hl 2 rfl) ?_
      refine q_ald_n cx dX10_messagesInTime_5 rfl (lv_at hl 0 rfl) ?_
      obtain ⟨x507, ex507⟩ : ∃ zz, q_is (q_z f v 5) zz := ⟨_, q_isr _⟩
      refine q_gX10_42_16 cx hB hv kv ex507 dX10_messagesInTime_6 (fun lb508 ub508 => ?_)
      refine q_icge (tgt := 46) cx ⟨by omega, by omega⟩ ⟨by omega, by omega⟩ dX10_messagesInTime_9 (by decide) (fun c509 => ?_) (fun c509 => ?_)
      · refine q_ild_n cx dX10_messagesInTime_46 rfl (lv_at hl 1 rfl) ?_
        refine q_iret cx hr hlk hB dX10_messagesInTime_47 ⟨by omega, by omega⟩ ?_
        exact rfl
      · refine q_ald_n cx dX10_messagesInTime_12 rfl (lv_at hl 0 rfl) ?_
        refine q_ild_n cx dX10_messagesInTime_13 rfl (lv_at hl 2 rfl) ?_
        refine q_cVr (As := [.int (q_i v4_2)]) (rest := []) cx hB (fun _ h => h) hN hv kv (by decide) rfl (g_X10_messageAt_4 l g hN hB.2.1 v hv kv v4_2 (by omega) (by omega)) q_cX10_81 q_dX10_messageAt (by decide) rfl rfl hl.1 rfl (Nat.le_of_ble_eq_true rfl) dX10_messagesInTime_14 (fun y511 H locs f510 h512 hF hB => ?_)
        obtain ⟨rfl, hy511, ky511⟩ := h512
        refine lv_astore_n (lv' := [(3, .ref y511), (0, .ref v), (1, .int (q_i v4_1)), (2, .int (q_i v4_2))]) cx.1 cx.2.1 dX10_messagesInTime_17 rfl hl (by decide) rfl (fun ls hl => ?_)
        refine q_ald_n cx dX10_messagesInTime_18 rfl (lv_at hl 0 rfl) ?_
        obtain ⟨x513, ex513⟩ : ∃ zz, q_is (q_z f y511 3) zz := ⟨_, q_isr _⟩
        refine q_gX10_140_28 cx hB hy511 ky511 ex513 dX10_messagesInTime_19 (fun lb514 ub514 => ?_)
        refine q_iconst cx dX10_messagesInTime_22 ?_
        refine q_icne (tgt := 40) cx ⟨by omega, by omega⟩ ⟨by decide, by decide⟩ dX10_messagesInTime_23 (by decide) (fun c515 => ?_) (fun c515 => ?_)
        · exact J40 v4_1 (by omega) (by omega) (by omega) H locs hB ls (lv_sub hl [1, 2, 3] rfl)
        · refine q_ald_n cx dX10_messagesInTime_26 rfl (lv_at hl 0 rfl) ?_
          obtain ⟨x516, ex516⟩ : ∃ zz, q_is (q_z f y511 5) zz := ⟨_, q_isr _⟩
          refine q_gX10_146_28 cx hB hy511 ky511 ex516 dX10_messagesInTime_27 (fun lb517 ub517 => ?_)
          refine q_ald_n cx dX10_messagesInTime_30 rfl (lv_at hl 0 rfl) ?_
          obtain ⟨x518, ex518⟩ : ∃ zz, q_is (q_z f y511 4) zz := ⟨_, q_isr _⟩
          refine q_gX10_143_28 cx hB hy511 ky511 ex518 dX10_messagesInTime_31 (fun lb519 ub519 => ?_)
          refine q_icgt (tgt := 40) cx ⟨by omega, by omega⟩ ⟨by omega, by omega⟩ dX10_messagesInTime_34 (by decide) (fun c520 => ?_) (fun c520 => ?_)
          · exact J40 v4_1 (by omega) (by omega) (by omega) H locs hB ls (lv_sub hl [1, 2, 3] rfl)
          · refine q_iinc (lv' := [(1, .int (q_i (v4_1 + 1))), (3, .ref y511), (0, .ref v), (2, .int (q_i v4_2))]) cx dX10_messagesInTime_37 hl (k := 2) rfl (by decide) rfl (fun ls hl => ?_)
            obtain ⟨y521, ry521, ey521⟩ := q_wrap (v4_1 + 1)
            rw [ey521] at hl
            exact J40 y521 (by omega) (by omega) (by omega) H locs hB ls (lv_sub hl [2, 0, 3] rfl)
  obtain ⟨H, hH⟩ : ∃ H : Heap, H = s.heap := ⟨_, rfl⟩
  obtain ⟨locs, hlocs⟩ : ∃ z : List Loc, z = [] := ⟨_, rfl⟩
  rw [← hH, ← hlocs] at hB
  rw [← hH, ← hlocs]
  refine q_iconst cx dX10_messagesInTime_0 ?_
  refine lv_istore_n (lv' := [(1, .int (q_i 0)), (0, .ref v)]) cx.1 cx.2.1 dX10_messagesInTime_1 rfl hl (by decide) rfl (fun ls hl => ?_)
  refine q_iconst cx dX10_messagesInTime_2 ?_
  refine lv_istore_n (lv' := [(2, .int (q_i 0)), (1, .int (q_i 0)), (0, .ref v)]) cx.1 cx.2.1 dX10_messagesInTime_3 rfl hl (by decide) rfl (fun ls hl => ?_)
  exact J4 ((Int.toNat (2147483647 - 0)) + 1) 0 (by decide) (by decide) 0 (by decide) (by decide) (Nat.lt_succ_self _) H locs hB ls (lv_sub hl [2, 1, 0] rfl)
set_option maxHeartbeats 4000000 in
set_option maxRecDepth 100000 in
theorem g_X10_messagesWaitingAt (l : Launch) (g : q_G) {K : Nat → Nat} {L : List Nat} (hN : L.Nodup) {f : Nat → va_E} (hT : q_Ty g K L f) (v : Nat) (hv : v ∈ L) (kv : K v = 10) (p0 : Int) (lp0 : (-2147483648) ≤ p0) (up0 : p0 ≤ 2147483647) : q_Ct l g K L yX10_messagesWaitingAt cX10_messagesWaitingAt 4 (some .int) 2 43 [.ref v, .int (q_i p0)] f [] (q_Pi (fun (z : Int) (f1 : Nat → va_E) => f = f1)) := by
  refine q_ofb (by decide +kernel) hN hT (Nat.le_of_ble_eq_true rfl) ?_
  intro p e s m below meth c ls cx hr hlk hB hl
  have hl : lv_has ls 4 [(0, .ref v), (1, .int (q_i p0))] := hl
  have J4 : ∀ (n : Nat) (v4_2 : Int) (lv4_2 : (-2147483648) ≤ v4_2) (uv4_2 : v4_2 ≤ 2147483647) (v4_3 : Int) (lv4_3 : 0 ≤ v4_3) (uv4_3 : v4_3 ≤ 61) (hmu : (Int.toNat (2147483647 - v4_3)) < n) (H : Heap) (locs : List Loc) (hB : q_B g K L (fun q => q ∈ L) [] f f s H locs) (ls : Array Slot) (hl : lv_has ls 4 [(0, .ref v), (1, .int (q_i p0)), (2, .int (q_i v4_2)), (3, .int (q_i v4_3))]), W p l e { frames := 2, cells := 0, slots := 0, locals := 43 } s m ([.ref v, .int (q_i p0)] : List Value).toArray below meth c H locs 0 0 (MQ below (q_Q g K L [] f (q_Pi (fun (z : Int) (f1 : Nat → va_E) => f = f1))) ([.ref v, .int (q_i p0)] : List Value).toArray s 0 0 (fun q => q ∈ L)) (F0 m 4 ls []) := by
    intro n
    induction n with
    | zero =>
      intro v4_2 lv4_2 uv4_2 v4_3 lv4_3 uv4_3 hmu
      exact absurd hmu (Nat.not_lt_zero _)
    | succ n ih4 =>
      intro v4_2 lv4_2 uv4_2 v4_3 lv4_3 uv4_3 hmu H locs hB ls hl
      have J24 : ∀ (v24_2 : Int) (lv24_2 : (-2147483648) ≤ v24_2) (uv24_2 : v24_2 ≤ 2147483647) (buv4_3 : v4_3 ≤ 60) (H : Heap) (locs : List Loc) (hB : q_B g K L (fun q => q ∈ L) [] f f s H locs) (ls : Array Slot) (hl : lv_has ls 4 [(0, .ref v), (1, .int (q_i p0)), (2, .int (q_i v24_2)), (3, .int (q_i v4_3))]), W p l e { frames := 2, cells := 0, slots := 0, locals := 43 } s m ([.ref v, .int (q_i p0)] : List Value).toArray below meth c H locs 0 0 (MQ below (q_Q g K L [] f (q_Pi (fun (z : Int) (f1 : Nat → va_E) => f = f1))) ([.ref v, .int (q_i p0)] : List Value).toArray s 0 0 (fun q => q ∈ L)) (F0 m 24 ls []) := by
        intro v24_2 lv24_2 uv24_2 buv4_3 H locs hB ls hl
        refine q_iinc (lv' := [(3, .int (q_i (v4_3 + 1))), (0, .ref v), (1, .int (q_i p0)), (2, .int (q_i v24_2))]) cx dX10_messagesWaitingAt_24 hl (k := 3) rfl (by decide) rfl (fun ls hl => ?_)
        refine lv_goto (tgt := 4) cx.1 cx.2.1 dX10_messagesWaitingAt_27 (by decide) ?_
        exact ih4 v24_2 (by omega) (by omega) (v4_3 + 1) (by omega) (by omega) (by omega) H locs hB ls (lv_sub hl [1, 2, 3, 0] rfl)
      refine q_ild_n cx dX10_messagesWaitingAt_4 rfl (lv_at hl 3 rfl) ?_
      refine q_ald_n cx dX10_messagesWaitingAt_5 rfl (lv_at hl 0 rfl) ?_
      obtain ⟨x255, ex255⟩ : ∃ zz, q_is (q_z f v 5) zz := ⟨_, q_isr _⟩
      refine q_gX10_42 cx hB hv kv ex255 dX10_messagesWaitingAt_6 (fun lb256 ub256 => ?_)
      refine q_icge (tgt := 30) cx ⟨by omega, by omega⟩ ⟨by omega, by omega⟩ dX10_messagesWaitingAt_9 (by decide) (fun c257 => ?_) (fun c257 => ?_)
      · refine q_ild_n cx dX10_messagesWaitingAt_30 rfl (lv_at hl 2 rfl) ?_
        refine q_iret cx hr hlk hB dX10_messagesWaitingAt_31 ⟨by omega, by omega⟩ ?_
        exact rfl
      · refine q_ald_n cx dX10_messagesWaitingAt_12 rfl (lv_at hl 0 rfl) ?_
        refine q_ild_n cx dX10_messagesWaitingAt_13 rfl (lv_at hl 3 rfl) ?_
        refine q_ild_n cx dX10_messagesWaitingAt_14 rfl (lv_at hl 1 rfl) ?_
        refine q_cVi (As := [.int (q_i v4_3), .int (q_i p0)]) (rest := []) cx hB (fun _ h => h) hN hv kv (by decide) rfl (g_X10_isWaitingAt l g hN hB.2.1 v hv kv v4_3 (by omega) (by omega) p0 (by omega) (by omega)) q_cX10_185 q_dX10_isWaitingAt (by decide) rfl rfl hl.1 rfl (Nat.le_of_ble_eq_true rfl) dX10_messagesWaitingAt_15 (fun y259 H locs f258 ry259 h260 hF hB => ?_)
        obtain ⟨rfl, ly259, uy259⟩ := h260
        refine q_ifeq (tgt := 24) cx ⟨by omega, by omega⟩ dX10_messagesWaitingAt_18 (by decide) (fun c261 => ?_) (fun c261 => ?_)
        · exact J24 v4_2 (by omega) (by omega) (by omega) H locs hB ls (lv_sub hl [0, 1, 2, 3] rfl)
        · refine q_iinc (lv' := [(2, .int (q_i (v4_2 + 1))), (0, .ref v), (1, .int (q_i p0)), (3, .int (q_i v4_3))]) cx dX10_messagesWaitingAt_21 hl (k := 2) rfl (by decide) rfl (fun ls hl => ?_)
          obtain ⟨y262, ry262, ey262⟩ := q_wrap (v4_2 + 1)
          rw [ey262] at hl
          exact J24 y262 (by omega) (by omega) (by omega) H locs hB ls (lv_sub hl [1, 2, 0, 3] rfl)
  obtain ⟨H, hH⟩ : ∃ H : Heap, H = s.heap := ⟨_, rfl⟩
  obtain ⟨locs, hlocs⟩ : ∃ z : List Loc, z = [] := ⟨_, rfl⟩
  rw [← hH, ← hlocs] at hB
  rw [← hH, ← hlocs]
  refine q_iconst cx dX10_messagesWaitingAt_0 ?_
  refine lv_istore_n (lv' := [(2, .int (q_i 0)), (0, .ref v), (1, .int (q_i p0))]) cx.1 cx.2.1 dX10_messagesWaitingAt_1 rfl hl (by decide) rfl (fun ls hl => ?_)
  refine q_iconst cx dX10_messagesWaitingAt_2 ?_
  refine lv_istore_n (lv' := [(3, .int (q_i 0)), (2, .int (q_i 0)), (0, .ref v), (1, .int (q_i p0))]) cx.1 cx.2.1 dX10_messagesWaitingAt_3 rfl hl (by decide) rfl (fun ls hl => ?_)
  exact J4 ((Int.toNat (2147483647 - 0)) + 1) 0 (by decide) (by decide) 0 (by decide) (by decide) (Nat.lt_succ_self _) H locs hB ls (lv_sub hl [2, 3, 1, 0] rfl)
set_option maxHeartbeats 4000000 in
set_option maxRecDepth 100000 in
theorem g_X10_messagesWaitingAt_1 (l : Launch) (g : q_G) {K : Nat → Nat} {L : List Nat} (hN : L.Nodup) {f : Nat → va_E} (hT : q_Ty g K L f) (v : Nat) (hv : v ∈ L) (kv : K v = 13) (p0 : Int) (lp0 : (-2147483648) ≤ p0) (up0 : p0 ≤ 2147483647) : q_Ct l g K L yX10_messagesWaitingAt cX10_messagesWaitingAt 4 (some .int) 2 43 [.ref v, .int (q_i p0)] f [] (q_Pi (fun (z : Int) (f1 : Nat → va_E) => f = f1)) := by
  refine q_ofb (by decide +kernel) hN hT (Nat.le_of_ble_eq_true rfl) ?_
  intro p e s m below meth c ls cx hr hlk hB hl
  have hl : lv_has ls 4 [(0, .ref v), (1, .int (q_i p0))] := hl
  have J4 : ∀ (n : Nat) (v4_2 : Int) (lv4_2 : (-2147483648) ≤ v4_2) (uv4_2 : v4_2 ≤ 2147483647) (v4_3 : Int) (lv4_3 : 0 ≤ v4_3) (uv4_3 : v4_3 ≤ 61) (hmu : (Int.toNat (2147483647 - v4_3)) < n) (H : Heap) (locs : List Loc) (hB : q_B g K L (fun q => q ∈ L) [] f f s H locs) (ls : Array Slot) (hl : lv_has ls 4 [(0, .ref v), (1, .int (q_i p0)), (2, .int (q_i v4_2)), (3, .int (q_i v4_3))]), W p l e { frames := 2, cells := 0, slots := 0, locals := 43 } s m ([.ref v, .int (q_i p0)] : List Value).toArray below meth c H locs 0 0 (MQ below (q_Q g K L [] f (q_Pi (fun (z : Int) (f1 : Nat → va_E) => f = f1))) ([.ref v, .int (q_i p0)] : List Value).toArray s 0 0 (fun q => q ∈ L)) (F0 m 4 ls []) := by
    intro n
    induction n with
    | zero =>
      intro v4_2 lv4_2 uv4_2 v4_3 lv4_3 uv4_3 hmu
      exact absurd hmu (Nat.not_lt_zero _)
    | succ n ih4 =>
      intro v4_2 lv4_2 uv4_2 v4_3 lv4_3 uv4_3 hmu H locs hB ls hl
      have J24 : ∀ (v24_2 : Int) (lv24_2 : (-2147483648) ≤ v24_2) (uv24_2 : v24_2 ≤ 2147483647) (buv4_3 : v4_3 ≤ 60) (H : Heap) (locs : List Loc) (hB : q_B g K L (fun q => q ∈ L) [] f f s H locs) (ls : Array Slot) (hl : lv_has ls 4 [(0, .ref v), (1, .int (q_i p0)), (2, .int (q_i v24_2)), (3, .int (q_i v4_3))]), W p l e { frames := 2, cells := 0, slots := 0, locals := 43 } s m ([.ref v, .int (q_i p0)] : List Value).toArray below meth c H locs 0 0 (MQ below (q_Q g K L [] f (q_Pi (fun (z : Int) (f1 : Nat → va_E) => f = f1))) ([.ref v, .int (q_i p0)] : List Value).toArray s 0 0 (fun q => q ∈ L)) (F0 m 24 ls []) := by
        intro v24_2 lv24_2 uv24_2 buv4_3 H locs hB ls hl
        refine q_iinc (lv' := [(3, .int (q_i (v4_3 + 1))), (0, .ref v), (1, .int (q_i p0)), (2, .int (q_i v24_2))]) cx dX10_messagesWaitingAt_24 hl (k := 3) rfl (by decide) rfl (fun ls hl => ?_)
        refine lv_goto (tgt := 4) cx.1 cx.2.1 dX10_messagesWaitingAt_27 (by decide) ?_
        exact ih4 v24_2 (by omega) (by omega) (v4_3 + 1) (by omega) (by omega) (by omega) H locs hB ls (lv_sub hl [1, 2, 3, 0] rfl)
      refine q_ild_n cx dX10_messagesWaitingAt_4 rfl (lv_at hl 3 rfl) ?_
      refine q_ald_n cx dX10_messagesWaitingAt_5 rfl (lv_at hl 0 rfl) ?_
      obtain ⟨x255, ex255⟩ : ∃ zz, q_is (q_z f v 5) zz := ⟨_, q_isr _⟩
      refine q_gX10_42_13 cx hB hv kv ex255 dX10_messagesWaitingAt_6 (fun lb256 ub256 => ?_)
      refine q_icge (tgt := 30) cx ⟨by omega, by omega⟩ ⟨by omega, by omega⟩ dX10_messagesWaitingAt_9 (by decide) (fun c257 => ?_) (fun c257 => ?_)
      · refine q_ild_n cx dX10_messagesWaitingAt_30 rfl (lv_at hl 2 rfl) ?_
        refine q_iret cx hr hlk hB dX10_messagesWaitingAt_31 ⟨by omega, by omega⟩ ?_
        exact rfl
      · refine q_ald_n cx dX10_messagesWaitingAt_12 rfl (lv_at hl 0 rfl) ?_
        refine q_ild_n cx dX10_messagesWaitingAt_13 rfl (lv_at hl 3 rfl) ?_
        refine q_ild_n cx dX10_messagesWaitingAt_14 rfl (lv_at hl 1 rfl) ?_
        refine q_cVi (As := [.int (q_i v4_3), .int (q_i p0)]) (rest := []) cx hB (fun _ h => h) hN hv kv (by decide) rfl (g_X10_isWaitingAt_1 l g hN hB.2.1 v hv kv v4_3 (by omega) (by omega) p0 (by omega) (by omega)) q_cX10_185 q_dX10_isWaitingAt (by decide) rfl rfl hl.1 rfl (Nat.le_of_ble_eq_true rfl) dX10_messagesWaitingAt_15 (fun y259 H locs f258 ry259 h260 hF hB => ?_)
        obtain ⟨rfl, ly259, uy259⟩ := h260
        refine q_ifeq (tgt := 24) cx ⟨by omega, by omega⟩ dX10_messagesWaitingAt_18 (by decide) (fun c261 => ?_) (fun c261 => ?_)
        · exact J24 v4_2 (by omega) (by omega) (by omega) H locs hB ls (lv_sub hl [0, 1, 2, 3] rfl)
        · refine q_iinc (lv' := [(2, .int (q_i (v4_2 + 1))), (0, .ref v), (1, .int (q_i p0)), (3, .int (q_i v4_3))]) cx dX10_messagesWaitingAt_21 hl (k := 2) rfl (by decide) rfl (fun ls hl => ?_)
          obtain ⟨y262, ry262, ey262⟩ := q_wrap (v4_2 + 1)
          rw [ey262] at hl
          exact J24 y262 (by omega) (by omega) (by omega) H locs hB ls (lv_sub hl [1, 2, 0, 3] rfl)
  obtain ⟨H, hH⟩ : ∃ H : Heap, H = s.heap := ⟨_, rfl⟩
  obtain ⟨locs, hlocs⟩ : ∃ z : List Loc, z = [] := ⟨_, rfl⟩
  rw [← hH, ← hlocs] at hB
  rw [← hH, ← hlocs]
  refine q_iconst cx dX10_messagesWaitingAt_0 ?_
  refine lv_istore_n (lv' := [(2, .int (q_i 0)), (0, .ref v), (1, .int (q_i p0))]) cx.1 cx.2.1 dX10_messagesWaitingAt_1 rfl hl (by decide) rfl (fun ls hl => ?_)
  refine q_iconst cx dX10_messagesWaitingAt_2 ?_
  refine lv_istore_n (lv' := [(3, .int (q_i 0)), (2, .int (q_i 0)), (0, .ref v), (1, .int (q_i p0))]) cx.1 cx.2.1 dX10_messagesWaitingAt_3 rfl hl (by decide) rfl (fun ls hl => ?_)
  exact J4 ((Int.toNat (2147483647 - 0)) + 1) 0 (by decide) (by decide) 0 (by decide) (by decide) (Nat.lt_succ_self _) H locs hB ls (lv_sub hl [2, 3, 1, 0] rfl)
set_option maxHeartbeats 4000000 in
set_option maxRecDepth 100000 in
theorem g_X10_messagesWaitingAt_2 (l : Launch) (g : q_G) {K : Nat → Nat} {L : List Nat} (hN : L.Nodup) {f : Nat → va_E} (hT : q_Ty g K L f) (v : Nat) (hv : v ∈ L) (kv : K v = 14) (p0 : Int) (lp0 : (-2147483648) ≤ p0) (up0 : p0 ≤ 2147483647) : q_Ct l g K L yX10_messagesWaitingAt cX10_messagesWaitingAt 4 (some .int) 2 43 [.ref v, .int (q_i p0)] f [] (q_Pi (fun (z : Int) (f1 : Nat → va_E) => f = f1)) := by
  refine q_ofb (by decide +kernel) hN hT (Nat.le_of_ble_eq_true rfl) ?_
  intro p e s m below meth c ls cx hr hlk hB hl
  have hl : lv_has ls 4 [(0, .ref v), (1, .int (q_i p0))] := hl
  have J4 : ∀ (n : Nat) (v4_2 : Int) (lv4_2 : (-2147483648) ≤ v4_2) (uv4_2 : v4_2 ≤ 2147483647) (v4_3 : Int) (lv4_3 : 0 ≤ v4_3) (uv4_3 : v4_3 ≤ 61) (hmu : (Int.toNat (2147483647 - v4_3)) < n) (H : Heap) (locs : List Loc) (hB : q_B g K L (fun q => q ∈ L) [] f f s H locs) (ls : Array Slot) (hl : lv_has ls 4 [(0, .ref v), (1, .int (q_i p0)), (2, .int (q_i v4_2)), (3, .int (q_i v4_3))]), W p l e { frames := 2, cells := 0, slots := 0, locals := 43 } s m ([.ref v, .int (q_i p0)] : List Value).toArray below meth c H locs 0 0 (MQ below (q_Q g K L [] f (q_Pi (fun (z : Int) (f1 : Nat → va_E) => f = f1))) ([.ref v, .int (q_i p0)] : List Value).toArray s 0 0 (fun q => q ∈ L)) (F0 m 4 ls []) := by
    intro n
    induction n with
    | zero =>
      intro v4_2 lv4_2 uv4_2 v4_3 lv4_3 uv4_3 hmu
      exact absurd hmu (Nat.not_lt_zero _)
    | succ n ih4 =>
      intro v4_2 lv4_2 uv4_2 v4_3 lv4_3 uv4_3 hmu H locs hB ls hl
      have J24 : ∀ (v24_2 : Int) (lv24_2 : (-2147483648) ≤ v24_2) (uv24_2 : v24_2 ≤ 2147483647) (buv4_3 : v4_3 ≤ 60) (H : Heap) (locs : List Loc) (hB : q_B g K L (fun q => q ∈ L) [] f f s H locs) (ls : Array Slot) (hl : lv_has ls 4 [(0, .ref v), (1, .int (q_i p0)), (2, .int (q_i v24_2)), (3, .int (q_i v4_3))]), W p l e { frames := 2, cells := 0, slots := 0, locals := 43 } s m ([.ref v, .int (q_i p0)] : List Value).toArray below meth c H locs 0 0 (MQ below (q_Q g K L [] f (q_Pi (fun (z : Int) (f1 : Nat → va_E) => f = f1))) ([.ref v, .int (q_i p0)] : List Value).toArray s 0 0 (fun q => q ∈ L)) (F0 m 24 ls []) := by
        intro v24_2 lv24_2 uv24_2 buv4_3 H locs hB ls hl
        refine q_iinc (lv' := [(3, .int (q_i (v4_3 + 1))), (0, .ref v), (1, .int (q_i p0)), (2, .int (q_i v24_2))]) cx dX10_messagesWaitingAt_24 hl (k := 3) rfl (by decide) rfl (fun ls hl => ?_)
        refine lv_goto (tgt := 4) cx.1 cx.2.1 dX10_messagesWaitingAt_27 (by decide) ?_
        exact ih4 v24_2 (by omega) (by omega) (v4_3 + 1) (by omega) (by omega) (by omega) H locs hB ls (lv_sub hl [1, 2, 3, 0] rfl)
      refine q_ild_n cx dX10_messagesWaitingAt_4 rfl (lv_at hl 3 rfl) ?_
      refine q_ald_n cx dX10_messagesWaitingAt_5 rfl (lv_at hl 0 rfl) ?_
      obtain ⟨x255, ex255⟩ : ∃ zz, q_is (q_z f v 5) zz := ⟨_, q_isr _⟩
      refine q_gX10_42_14 cx hB hv kv ex255 dX10_messagesWaitingAt_6 (fun lb256 ub256 => ?_)
      refine q_icge (tgt := 30) cx ⟨by omega, by omega⟩ ⟨by omega, by omega⟩ dX10_messagesWaitingAt_9 (by decide) (fun c257 => ?_) (fun c257 => ?_)
      · refine q_ild_n cx dX10_messagesWaitingAt_30 rfl (lv_at hl 2 rfl) ?_
        refine q_iret cx hr hlk hB dX10_messagesWaitingAt_31 ⟨by omega, by omega⟩ ?_
        exact rfl
      · refine q_ald_n cx dX10_messagesWaitingAt_12 rfl (lv_at hl 0 rfl) ?_
        refine q_ild_n cx dX10_messagesWaitingAt_13 rfl (lv_at hl 3 rfl) ?_
        refine q_ild_n cx dX10_messagesWaitingAt_14 rfl (lv_at hl 1 rfl) ?_
        refine q_cVi (As := [.int (q_i v4_3), .int (q_i p0)]) (rest := []) cx hB (fun _ h => h) hN hv kv (by decide) rfl (g_X10_isWaitingAt_2 l g hN hB.2.1 v hv kv v4_3 (by omega) (by omega) p0 (by omega) (by omega)) q_cX10_185 q_dX10_isWaitingAt (by decide) rfl rfl hl.1 rfl (Nat.le_of_ble_eq_true rfl) dX10_messagesWaitingAt_15 (fun y259 H locs f258 ry259 h260 hF hB => ?_)
        obtain ⟨rfl, ly259, uy259⟩ := h260
        refine q_ifeq (tgt := 24) cx ⟨by omega, by omega⟩ dX10_messagesWaitingAt_18 (by decide) (fun c261 => ?_) (fun c261 => ?_)
        · exact J24 v4_2 (by omega) (by omega) (by omega) H locs hB ls (lv_sub hl [0, 1, 2, 3] rfl)
        · refine q_iinc (lv' := [(2, .int (q_i (v4_2 + 1))), (0, .ref v), (1, .int (q_i p0)), (3, .int (q_i v4_3))]) cx dX10_messagesWaitingAt_21 hl (k := 2) rfl (by decide) rfl (fun ls hl => ?_)
          obtain ⟨y262, ry262, ey262⟩ := q_wrap (v4_2 + 1)
          rw [ey262] at hl
          exact J24 y262 (by omega) (by omega) (by omega) H locs hB ls (lv_sub hl [1, 2, 0, 3] rfl)
  obtain ⟨H, hH⟩ : ∃ H : Heap, H = s.heap := ⟨_, rfl⟩
  obtain ⟨locs, hlocs⟩ : ∃ z : List Loc, z = [] := ⟨_, rfl⟩
  rw [← hH, ← hlocs] at hB
  rw [← hH, ← hlocs]
  refine q_iconst cx dX10_messagesWaitingAt_0 ?_
  refine lv_istore_n (lv' := [(2, .int (q_i 0)), (0, .ref v), (1, .int (q_i p0))]) cx.1 cx.2.1 dX10_messagesWaitingAt_1 rfl hl (by decide) rfl (fun ls hl => ?_)
  refine q_iconst cx dX10_messagesWaitingAt_2 ?_
  refine lv_istore_n (lv' := [(3, .int (q_i 0)), (2, .int (q_i 0)), (0, .ref v), (1, .int (q_i p0))]) cx.1 cx.2.1 dX10_messagesWaitingAt_3 rfl hl (by decide) rfl (fun ls hl => ?_)
  exact J4 ((Int.toNat (2147483647 - 0)) + 1) 0 (by decide) (by decide) 0 (by decide) (by decide) (Nat.lt_succ_self _) H locs hB ls (lv_sub hl [2, 3, 1, 0] rfl)
set_option maxHeartbeats 4000000 in
set_option maxRecDepth 100000 in
theorem g_X10_messagesWaitingAt_3 (l : Launch) (g : q_G) {K : Nat → Nat} {L : List Nat} (hN : L.Nodup) {f : Nat → va_E} (hT : q_Ty g K L f) (v : Nat) (hv : v ∈ L) (kv : K v = 15) (p0 : Int) (lp0 : (-2147483648) ≤ p0) (up0 : p0 ≤ 2147483647) : q_Ct l g K L yX10_messagesWaitingAt cX10_messagesWaitingAt 4 (some .int) 2 43 [.ref v, .int (q_i p0)] f [] (q_Pi (fun (z : Int) (f1 : Nat → va_E) => f = f1)) := by
  refine q_ofb (by decide +kernel) hN hT (Nat.le_of_ble_eq_true rfl) ?_
  intro p e s m below meth c ls cx hr hlk hB hl
  have hl : lv_has ls 4 [(0, .ref v), (1, .int (q_i p0))] := hl
  have J4 : ∀ (n : Nat) (v4_2 : Int) (lv4_2 : (-2147483648) ≤ v4_2) (uv4_2 : v4_2 ≤ 2147483647) (v4_3 : Int) (lv4_3 : 0 ≤ v4_3) (uv4_3 : v4_3 ≤ 61) (hmu : (Int.toNat (2147483647 - v4_3)) < n) (H : Heap) (locs : List Loc) (hB : q_B g K L (fun q => q ∈ L) [] f f s H locs) (ls : Array Slot) (hl : lv_has ls 4 [(0, .ref v), (1, .int (q_i p0)), (2, .int (q_i v4_2)), (3, .int (q_i v4_3))]), W p l e { frames := 2, cells := 0, slots := 0, locals := 43 } s m ([.ref v, .int (q_i p0)] : List Value).toArray below meth c H locs 0 0 (MQ below (q_Q g K L [] f (q_Pi (fun (z : Int) (f1 : Nat → va_E) => f = f1))) ([.ref v, .int (q_i p0)] : List Value).toArray s 0 0 (fun q => q ∈ L)) (F0 m 4 ls []) := by
    intro n
    induction n with
    | zero =>
      intro v4_2 lv4_2 uv4_2 v4_3 lv4_3 uv4_3 hmu
      exact absurd hmu (Nat.not_lt_zero _)
    | succ n ih4 =>
      intro v4_2 lv4_2 uv4_2 v4_3 lv4_3 uv4_3 hmu H locs hB ls hl
      have J24 : ∀ (v24_2 : Int) (lv24_2 : (-2147483648) ≤ v24_2) (uv24_2 : v24_2 ≤ 2147483647) (buv4_3 : v4_3 ≤ 60) (H : Heap) (locs : List Loc) (hB : q_B g K L (fun q => q ∈ L) [] f f s H locs) (ls : Array Slot) (hl : lv_has ls 4 [(0, .ref v), (1, .int (q_i p0)), (2, .int (q_i v24_2)), (3, .int (q_i v4_3))]), W p l e { frames := 2, cells := 0, slots := 0, locals := 43 } s m ([.ref v, .int (q_i p0)] : List Value).toArray below meth c H locs 0 0 (MQ below (q_Q g K L [] f (q_Pi (fun (z : Int) (f1 : Nat → va_E) => f = f1))) ([.ref v, .int (q_i p0)] : List Value).toArray s 0 0 (fun q => q ∈ L)) (F0 m 24 ls []) := by
        intro v24_2 lv24_2 uv24_2 buv4_3 H locs hB ls hl
        refine q_iinc (lv' := [(3, .int (q_i (v4_3 + 1))), (0, .ref v), (1, .int (q_i p0)), (2, .int (q_i v24_2))]) cx dX10_messagesWaitingAt_24 hl (k := 3) rfl (by decide) rfl (fun ls hl => ?_)
        refine lv_goto (tgt := 4) cx.1 cx.2.1 dX10_messagesWaitingAt_27 (by decide) ?_
        exact ih4 v24_2 (by omega) (by omega) (v4_3 + 1) (by omega) (by omega) (by omega) H locs hB ls (lv_sub hl [1, 2, 3, 0] rfl)
      refine q_ild_n cx dX10_messagesWaitingAt_4 rfl (lv_at hl 3 rfl) ?_
      refine q_ald_n cx dX10_messagesWaitingAt_5 rfl (lv_at hl 0 rfl) ?_
      obtain ⟨x255, ex255⟩ : ∃ zz, q_is (q_z f v 5) zz := ⟨_, q_isr _⟩
      refine q_gX10_42_15 cx hB hv kv ex255 dX10_messagesWaitingAt_6 (fun lb256 ub256 => ?_)
      refine q_icge (tgt := 30) cx ⟨by omega, by omega⟩ ⟨by omega, by omega⟩ dX10_messagesWaitingAt_9 (by decide) (fun c257 => ?_) (fun c257 => ?_)
      · refine q_ild_n cx dX10_messagesWaitingAt_30 rfl (lv_at hl 2 rfl) ?_
        refine q_iret cx hr hlk hB dX10_messagesWaitingAt_31 ⟨by omega, by omega⟩ ?_
        exact rfl
      · refine q_ald_n cx dX10_messagesWaitingAt_12 rfl (lv_at hl 0 rfl) ?_
        refine q_ild_n cx dX10_messagesWaitingAt_13 rfl (lv_at hl 3 rfl) ?_
        refine q_ild_n cx dX10_messagesWaitingAt_14 rfl (lv_at hl 1 rfl) ?_
        refine q_cVi (As := [.int (q_i v4_3), .int (q_i p0)]) (rest := []) cx hB (fun _ h => h) hN hv kv (by decide) rfl (g_X10_isWaitingAt_3 l g hN hB.2.1 v hv kv v4_3 (by omega) (by omega) p0 (by omega) (by omega)) q_cX10_185 q_dX10_isWaitingAt (by decide) rfl rfl hl.1 rfl (Nat.le_of_ble_eq_true rfl) dX10_messagesWaitingAt_15 (fun y259 H locs f258 ry259 h260 hF hB => ?_)
        obtain ⟨rfl, ly259, uy259⟩ := h260
        refine q_ifeq (tgt := 24) cx ⟨by omega, by omega⟩ dX10_messagesWaitingAt_18 (by decide) (fun c261 => ?_) (fun c261 => ?_)
        · exact J24 v4_2 (by omega) (by omega) (by omega) H locs hB ls (lv_sub hl [0, 1, 2, 3] rfl)
        · refine q_iinc (lv' := [(2, .int (q_i (v4_2 + 1))), (0, .ref v), (1, .int (q_i p0)), (3, .int (q_i v4_3))]) cx dX10_messagesWaitingAt_21 hl (k := 2) rfl (by decide) rfl (fun ls hl => ?_)
          obtain ⟨y262, ry262, ey262⟩ := q_wrap (v4_2 + 1)
          rw [ey262] at hl
          exact J24 y262 (by omega) (by omega) (by omega) H locs hB ls (lv_sub hl [1, 2, 0, 3] rfl)
  obtain ⟨H, hH⟩ : ∃ H : Heap, H = s.heap := ⟨_, rfl⟩
  obtain ⟨locs, hlocs⟩ : ∃ z : List Loc, z = [] := ⟨_, rfl⟩
  rw [← hH, ← hlocs] at hB
  rw [← hH, ← hlocs]
  refine q_iconst cx dX10_messagesWaitingAt_0 ?_
  refine lv_istore_n (lv' := [(2, .int (q_i 0)), (0, .ref v), (1, .int (q_i p0))]) cx.1 cx.2.1 dX10_messagesWaitingAt_1 rfl hl (by decide) rfl (fun ls hl => ?_)
  refine q_iconst cx dX10_messagesWaitingAt_2 ?_
  refine lv_istore_n (lv' := [(3, .int (q_i 0)), (2, .int (q_i 0)), (0, .ref v), (1, .int (q_i p0))]) cx.1 cx.2.1 dX10_messagesWaitingAt_3 rfl hl (by decide) rfl (fun ls hl => ?_)
  exact J4 ((Int.toNat (2147483647 - 0)) + 1) 0 (by decide) (by decide) 0 (by decide) (by decide) (Nat.lt_succ_self _) H locs hB ls (lv_sub hl [2, 3, 1, 0] rfl)
set_option maxHeartbeats 4000000 in
set_option maxRecDepth 100000 in
theorem g_X10_messagesWaitingAt_4 (l : Launch) (g : q_G) {K : Nat → Nat} {L : List Nat} (hN : L.Nodup) {f : Nat → va_E} (hT : q_Ty g K L f) (v : Nat) (hv : v ∈ L) (kv : K v = 16) (p0 : Int) (lp0 : (-2147483648) ≤ p0) (up0 : p0 ≤ 2147483647) : q_Ct l g K L yX10_messagesWaitingAt cX10_messagesWaitingAt 4 (some .int) 2 43 [.ref v, .int (q_i p0)] f [] (q_Pi (fun (z : Int) (f1 : Nat → va_E) => f = f1)) := by
  refine q_ofb (by decide +kernel) hN hT (Nat.le_of_ble_eq_true rfl) ?_
  intro p e s m below meth c ls cx hr hlk hB hl
  have hl : lv_has ls 4 [(0, .ref v), (1, .int (q_i p0))] := hl
  have J4 : ∀ (n : Nat) (v4_2 : Int) (lv4_2 : (-2147483648) ≤ v4_2) (uv4_2 : v4_2 ≤ 2147483647) (v4_3 : Int) (lv4_3 : 0 ≤ v4_3) (uv4_3 : v4_3 ≤ 61) (hmu : (Int.toNat (2147483647 - v4_3)) < n) (H : Heap) (locs : List Loc) (hB : q_B g K L (fun q => q ∈ L) [] f f s H locs) (ls : Array Slot) (hl : lv_has ls 4 [(0, .ref v), (1, .int (q_i p0)), (2, .int (q_i v4_2)), (3, .int (q_i v4_3))]), W p l e { frames := 2, cells := 0, slots := 0, locals := 43 } s m ([.ref v, .int (q_i p0)] : List Value).toArray below meth c H locs 0 0 (MQ below (q_Q g K L [] f (q_Pi (fun (z : Int) (f1 : Nat → va_E) => f = f1))) ([.ref v, .int (q_i p0)] : List Value).toArray s 0 0 (fun q => q ∈ L)) (F0 m 4 ls []) := by
    intro n
    induction n with
    | zero =>
      intro v4_2 lv4_2 uv4_2 v4_3 lv4_3 uv4_3 hmu
      exact absurd hmu (Nat.not_lt_zero _)
    | succ n ih4 =>
      intro v4_2 lv4_2 uv4_2 v4_3 lv4_3 uv4_3 hmu H locs hB ls hl
      have J24 : ∀ (v24_2 : Int) (lv24_2 : (-2147483648) ≤ v24_2) (uv24_2 : v24_2 ≤ 2147483647) (buv4_3 : v4_3 ≤ 60) (H : Heap) (locs : List Loc) (hB : q_B g K L (fun q => q ∈ L) [] f f s H locs) (ls : Array Slot) (hl : lv_has ls 4 [(0, .ref v), (1, .int (q_i p0)), (2, .int (q_i v24_2)), (3, .int (q_i v4_3))]), W p l e { frames := 2, cells := 0, slots := 0, locals := 43 } s m ([.ref v, .int (q_i p0)] : List Value).toArray below meth c H locs 0 0 (MQ below (q_Q g K L [] f (q_Pi (fun (z : Int) (f1 : Nat → va_E) => f = f1))) ([.ref v, .int (q_i p0)] : List Value).toArray s 0 0 (fun q => q ∈ L)) (F0 m 24 ls []) := by
        intro v24_2 lv24_2 uv24_2 buv4_3 H locs hB ls hl
        refine q_iinc (lv' := [(3, .int (q_i (v4_3 + 1))), (0, .ref v), (1, .int (q_i p0)), (2, .int (q_i v24_2))]) cx dX10_messagesWaitingAt_24 hl (k := 3) rfl (by decide) rfl (fun ls hl => ?_)
        refine lv_goto (tgt := 4) cx.1 cx.2.1 dX10_messagesWaitingAt_27 (by decide) ?_
        exact ih4 v24_2 (by omega) (by omega) (v4_3 + 1) (by omega) (by omega) (by omega) H locs hB ls (lv_sub hl [1, 2, 3, 0] rfl)
      refine q_ild_n cx dX10_messagesWaitingAt_4 rfl (lv_at hl 3 rfl) ?_
      refine q_ald_n cx dX10_messagesWaitingAt_5 rfl (lv_at hl 0 rfl) ?_
      obtain ⟨x255, ex255⟩ : ∃ zz, q_is (q_z f v 5) zz := ⟨_, q_isr _⟩
      refine q_gX10_42_16 cx hB hv kv ex255 dX10_messagesWaitingAt_6 (fun lb256 ub256 => ?_)
      refine q_icge (tgt := 30) cx ⟨by omega, by omega⟩ ⟨by omega, by omega⟩ dX10_messagesWaitingAt_9 (by decide) (fun c257 => ?_) (fun c257 => ?_)
      · refine q_ild_n cx dX10_messagesWaitingAt_30 rfl (lv_at hl 2 rfl) ?_
        refine q_iret cx hr hlk hB dX10_messagesWaitingAt_31 ⟨by omega, by omega⟩ ?_
        exact rfl
      · refine q_ald_n cx dX10_messagesWaitingAt_12 rfl (lv_at hl 0 rfl) ?_
        refine q_ild_n cx dX10_messagesWaitingAt_13 rfl (lv_at hl 3 rfl) ?_
        refine q_ild_n cx dX10_messagesWaitingAt_14 rfl (lv_at hl 1 rfl) ?_
        refine q_cVi (As := [.int (q_i v4_3), .int (q_i p0)]) (rest := []) cx hB (fun _ h => h) hN hv kv (by decide) rfl (g_X10_isWaitingAt_4 l g hN hB.2.1 v hv kv v4_3 (by omega) (by omega) p0 (by omega) (by omega)) q_cX10_185 q_dX10_isWaitingAt (by decide) rfl rfl hl.1 rfl (Nat.le_of_ble_eq_true rfl) dX10_messagesWaitingAt_15 (fun y259 H locs f258 ry259 h260 hF hB => ?_)
        obtain ⟨rfl, ly259, uy259⟩ := h260
        refine q_ifeq (tgt := 24) cx ⟨by omega, by omega⟩ dX10_messagesWaitingAt_18 (by decide) (fun c261 => ?_) (fun c261 => ?_)
        · exact J24 v4_2 (by omega) (by omega) (by omega) H locs hB ls (lv_sub hl [0, 1, 2, 3] rfl)
        · refine q_iinc (lv' := [(2, .int (q_i (v4_2 + 1))), (0, .ref v), (1, .int (q_i p0)), (3, .int (q_i v4_3))]) cx dX10_messagesWaitingAt_21 hl (k := 2) rfl (by decide) rfl (fun ls hl => ?_)
          obtain ⟨y262, ry262, ey262⟩ := q_wrap (v4_2 + 1)
          rw [ey262] at hl
          exact J24 y262 (by omega) (by omega) (by omega) H locs hB ls (lv_sub hl [1, 2, 0, 3] rfl)
  obtain ⟨H, hH⟩ : ∃ H : Heap, H = s.heap := ⟨_, rfl⟩
  obtain ⟨locs, hlocs⟩ : ∃ z : List Loc, z = [] := ⟨_, rfl⟩
  rw [← hH, ← hlocs] at hB
  rw [← hH, ← hlocs]
  refine q_iconst cx dX10_messagesWaitingAt_0 ?_
  refine lv_istore_n (lv' := [(2, .int (q_i 0)), (0, .ref v), (1, .int (q_i p0))]) cx.1 cx.2.1 dX10_messagesWaitingAt_1 rfl hl (by decide) rfl (fun ls hl => ?_)
  refine q_iconst cx dX10_messagesWaitingAt_2 ?_
  refine lv_istore_n (lv' := [(3, .int (q_i 0)), (2, .int (q_i 0)), (0, .ref v), (1, .int (q_i p0))]) cx.1 cx.2.1 dX10_messagesWaitingAt_3 rfl hl (by decide) rfl (fun ls hl => ?_)
  exact J4 ((Int.toNat (2147483647 - 0)) + 1) 0 (by decide) (by decide) 0 (by decide) (by decide) (Nat.lt_succ_self _) H locs hB ls (lv_sub hl [2, 3, 1, 0] rfl)
set_option maxHeartbeats 4000000 in
set_option maxRecDepth 100000 in
theorem g_X10_figure (l : Launch) (g : q_G) {K : Nat → Nat} {L : List Nat} (hN : L.Nodup) {f : Nat → va_E} (hT : q_Ty g K L f) (v : Nat) (hv : v ∈ L) (kv : K v = 10) (p0 : Int) (lp0 : (-2147483648) ≤ p0) (up0 : p0 ≤ 2147483647) : q_Ct l g K L yX10_figure cX10_figure 2 (some .int) 2 44 [.ref v, .int (q_i p0)] f [] (q_Pi (fun (z : Int) (f1 : Nat → va_E) => f = f1)) := by
  refine q_ofb (by decide +kernel) hN hT (Nat.le_of_ble_eq_true rfl) ?_
  intro p e s m below meth c ls cx hr hlk hB hl
  have hl : lv_has ls 2 [(0, .ref v), (1, .int (q_i p0))] := hl
  obtain ⟨H, hH⟩ : ∃ H : Heap, H = s.heap := ⟨_, rfl⟩
  obtain ⟨locs, hlocs⟩ : ∃ z : List Loc, z = [] := ⟨_, rfl⟩
  rw [← hH, ← hlocs] at hB
  rw [← hH, ← hlocs]
  refine q_ild_n cx dX10_figure_0 rfl (lv_at hl 1 rfl) ?_
  by_cases c39 : p0 = 0
  · refine lv_tableIn (tgt := 52) cx.1 cx.2.1 dX10_figure_1 (by rw [q_toInt ⟨by omega, by omega⟩]; omega) (by rw [q_toInt ⟨by omega, by omega⟩]; omega) (off := 51) (by rw [q_toInt ⟨by omega, by omega⟩, c39]; rfl) (by decide) ?_
    refine q_ald_n cx dX10_figure_52 rfl (lv_at hl 0 rfl) ?_
    obtain ⟨x40, ex40⟩ : ∃ zz, q_is (q_z f v 3) zz := ⟨_, q_isr _⟩
    refine q_gX10_35 cx hB hv kv ex40 dX10_figure_53 (fun lb41 ub41 => ?_)
    refine q_iret cx hr hlk hB dX10_figure_56 ⟨by omega, by omega⟩ ?_
    exact rfl
  by_cases c42 : p0 = 1
  · refine lv_tableIn (tgt := 57) cx.1 cx.2.1 dX10_figure_1 (by rw [q_toInt ⟨by omega, by omega⟩]; omega) (by rw [q_toInt ⟨by omega, by omega⟩]; omega) (off := 56) (by rw [q_toInt ⟨by omega, by omega⟩, c42]; rfl) (by decide) ?_
    refine q_ald_n cx dX10_figure_57 rfl (lv_at hl 0 rfl) ?_
    obtain ⟨x43, ex43⟩ : ∃ zz, q_is (q_z f v 4) zz := ⟨_, q_isr _⟩
    refine q_gX10_39 cx hB hv kv ex43 dX10_figure_58 (fun lb44 ub44 => ?_)
    refine q_iret cx hr hlk hB dX10_figure_61 ⟨by omega, by omega⟩ ?_
    exact rfl
  by_cases c45 : p0 = 2
  · refine lv_tableIn (tgt := 62) cx.1 cx.2.1 dX10_figure_1 (by rw [q_toInt ⟨by omega, by omega⟩]; omega) (by rw [q_toInt ⟨by omega, by omega⟩]; omega) (off := 61) (by rw [q_toInt ⟨by omega, by omega⟩, c45]; rfl) (by decide) ?_
    refine q_ald_n cx dX10_figure_62 rfl (lv_at hl 0 rfl) ?_
    obtain ⟨x46, ex46⟩ : ∃ zz, q_is (q_z f v 6) zz := ⟨_, q_isr _⟩
    refine q_gX10_45 cx hB hv kv ex46 dX10_figure_63 (fun lb47 ub47 => ?_)
    refine q_iret cx hr hlk hB dX10_figure_66 ⟨by omega, by omega⟩ ?_
    exact rfl
  by_cases c48 : p0 = 3
  · refine lv_tableIn (tgt := 67) cx.1 cx.2.1 dX10_figure_1 (by rw [q_toInt ⟨by omega, by omega⟩]; omega) (by rw [q_toInt ⟨by omega, by omega⟩]; omega) (off := 66) (by rw [q_toInt ⟨by omega, by omega⟩, c48]; rfl) (by decide) ?_
    refine q_ald_n cx dX10_figure_67 rfl (lv_at hl 0 rfl) ?_
    obtain ⟨x49, ex49⟩ : ∃ zz, q_is (q_z f v 11) zz := ⟨_, q_isr _⟩
    refine q_gX10_60 cx hB hv kv ex49 dX10_figure_68 (fun lb50 ub50 => ?_)
    refine q_iret cx hr hlk hB dX10_figure_71 ⟨by omega, by omega⟩ ?_
    exact rfl
  by_cases c51 : p0 = 4
  · refine lv_tableIn (tgt := 72) cx.1 cx.2.1 dX10_figure_1 (by rw [q_toInt ⟨by omega, by omega⟩]; omega) (by rw [q_toInt ⟨by omega, by omega⟩]; omega) (off := 71) (by rw [q_toInt ⟨by omega, by omega⟩, c51]; rfl) (by decide) ?_
    refine q_ald_n cx dX10_figure_72 rfl (lv_at hl 0 rfl) ?_
    obtain ⟨x52, ex52⟩ : ∃ zz, q_is (q_z f v 5) zz := ⟨_, q_isr _⟩
    refine q_gX10_42 cx hB hv kv ex52 dX10_figure_73 (fun lb53 ub53 => ?_)
    refine q_iret cx hr hlk hB dX10_figure_76 ⟨by omega, by omega⟩ ?_
    exact rfl
  by_cases c54 : p0 = 5
  · refine lv_tableIn (tgt := 77) cx.1 cx.2.1 dX10_figure_1 (by rw [q_toInt ⟨by omega, by omega⟩]; omega) (by rw [q_toInt ⟨by omega, by omega⟩]; omega) (off := 76) (by rw [q_toInt ⟨by omega, by omega⟩, c54]; rfl) (by decide) ?_
    refine q_ald_n cx dX10_figure_77 rfl (lv_at hl 0 rfl) ?_
    refine q_iconst cx dX10_figure_78 ?_
    refine q_cVi (As := [.int (q_i 1)]) (rest := []) cx hB (fun _ h => h) hN hv kv (by decide) rfl (g_X10_messagesInState l g hN hB.2.1 v hv kv 1 (by decide) (by decide)) q_cX10_188 q_dX10_messagesInState (by decide) rfl rfl hl.1 rfl (Nat.le_of_ble_eq_true rfl) dX10_figure_79 (fun y56 H locs f55 ry56 h57 hF hB => ?_)
    obtain rfl := h57
    refine q_iret cx hr hlk hB dX10_figure_82 ⟨by omega, by omega⟩ ?_
    exact rfl
  by_cases c58 : p0 = 6
  · refine lv_tableIn (tgt := 83) cx.1 cx.2.1 dX10_figure_1 (by rw [q_toInt ⟨by omega, by omega⟩]; omega) (by rw [q_toInt ⟨by omega, by omega⟩]; omega) (off := 82) (by rw [q_toInt ⟨by omega, by omega⟩, c58]; rfl) (by decide) ?_
    refine q_ald_n cx dX10_figure_83 rfl (lv_at hl 0 rfl) ?_
    refine q_cVi (As := []) (rest := []) cx hB (fun _ h => h) hN hv kv (by decide) rfl (g_X10_messagesInTime l g hN hB.2.1 v hv kv) q_cX10_191 q_dX10_messagesInTime (by decide) rfl rfl hl.1 rfl (Nat.le_of_ble_eq_true rfl) dX10_figure_84 (fun y60 H locs f59 ry60 h61 hF hB => ?_)
    obtain rfl := h61
    refine q_iret cx hr hlk hB dX10_figure_87 ⟨by omega, by omega⟩ ?_
    exact rfl
  by_cases c62 : p0 = 7
  · refine lv_tableIn (tgt := 88) cx.1 cx.2.1 dX10_figure_1 (by rw [q_toInt ⟨by omega, by omega⟩]; omega) (by rw [q_toInt ⟨by omega, by omega⟩]; omega) (off := 87) (by rw [q_toInt ⟨by omega, by omega⟩, c62]; rfl) (by decide) ?_
    refine q_ald_n cx dX10_figure_88 rfl (lv_at hl 0 rfl) ?_
    refine q_iconst cx dX10_figure_89 ?_
    refine q_cVi (As := [.int (q_i 2)]) (rest := []) cx hB (fun _ h => h) hN hv kv (by decide) rfl (g_X10_messagesInState l g hN hB.2.1 v hv kv 2 (by decide) (by decide)) q_cX10_188 q_dX10_messagesInState (by decide) rfl rfl hl.1 rfl (Nat.le_of_ble_eq_true rfl) dX10_figure_90 (fun y64 H locs f63 ry64 h65 hF hB => ?_)
    obtain rfl := h65
    refine q_iret cx hr hlk hB dX10_figure_93 ⟨by omega, by omega⟩ ?_
    exact rfl
  by_cases c66 : p0 = 8
  · refine lv_tableIn (tgt := 94) cx.1 cx.2.1 dX10_figure_1 (by rw [q_toInt ⟨by omega, by omega⟩]; omega) (by rw [q_toInt ⟨by omega, by omega⟩]; omega) (off := 93) (by rw [q_toInt ⟨by omega, by omega⟩, c66]; rfl) (by decide) ?_
    refine q_ald_n cx dX10_figure_94 rfl (lv_at hl 0 rfl) ?_
    refine q_cVi (As := []) (rest := []) cx hB (fun _ h => h) hN hv kv (by decide) rfl (g_X10_notOut l g hN hB.2.1 v hv kv) q_cX10_195 q_dX10_notOut (by decide) rfl rfl hl.1 rfl (Nat.le_of_ble_eq_true rfl) dX10_figure_95 (fun y68 H locs f67 ry68 h69 hF hB => ?_)
    obtain rfl := h69
    refine q_cSi (As := [.int (q_i y68)]) (rest := []) cx hB (fun _ h => h) hN (g_Integer_bitCount l g hN hB.2.1 y68 (by omega) (by omega)) q_cX10_198 q_dJ6_bitCount_0f7a4 (by decide) rfl rfl hl.1 rfl (Nat.le_of_ble_eq_true rfl) dX10_figure_98 (fun y71 H locs f70 ry71 h72 hF hB => ?_)
    obtain ⟨rfl, ly71, uy71⟩ := h72
    refine q_iret cx hr hlk hB dX10_figure_101 ⟨by omega, by omega⟩ ?_
    exact rfl
  refine lv_tableOut (tgt := 102) cx.1 cx.2.1 dX10_figure_1 (by rw [q_toInt ⟨by omega, by omega⟩]; omega) (by decide) ?_
  refine q_ald_n cx dX10_figure_102 rfl (lv_at hl 0 rfl) ?_
  obtain ⟨x73, ex73⟩ : ∃ zz, q_is (q_z f v 12) zz := ⟨_, q_isr _⟩
  refine q_gX10_63 cx hB hv kv ex73 dX10_figure_103 (fun lb74 ub74 => ?_)
  refine q_iret cx hr hlk hB dX10_figure_106 ⟨by omega, by omega⟩ ?_
  exact rfl
