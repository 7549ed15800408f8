set_option maxHeartbeats 4000000 in
set_option maxRecDepth 100000 in
theorem g_X10_greatestHops (l : Launch) (g : q_G) {K : Nat → Nat} {L : List Nat} (hN : L.Nodup) {f : Nat → va_E} (hT : q_Ty g K L f) (v : Nat) (hv : v ∈ L) (kv : K v = 10) : q_Ct l g K L yX10_greatestHops cX10_greatestHops 4 (some .int) 3 68 [.ref v] f [] (q_Pi (fun (z : Int) (f1 : Nat → va_E) => f = f1 ∧ 0 ≤ z ∧ z ≤ 9)) := by
  refine q_ofb (by decide +kernel) hN hT (Nat.le_of_ble_eq_true rfl) ?_
  intro p e s m below meth c ls cx hr hlk hB hl
  have hl : lv_has ls 4 [(0, .ref v)] := hl
  have J4 : ∀ (n : Nat) (v4_1 : Int) (lv4_1 : 0 ≤ v4_1) (uv4_1 : v4_1 ≤ 9) (v4_2 : Int) (lv4_2 : 0 ≤ v4_2) (uv4_2 : v4_2 ≤ 10) (hmu : (Int.toNat (2147483647 - v4_2)) < n) (H : Heap) (locs : List Loc) (hB : q_B g K L (fun q => q ∈ L) [] f f s H locs) (ls : Array Slot) (hl : lv_has ls 4 [(0, .ref v), (1, .int (q_i v4_1)), (2, .int (q_i v4_2))]), W p l e { frames := 3, cells := 0, slots := 0, locals := 68 } s m ([.ref v] : List Value).toArray below meth c H locs 0 0 (MQ below (q_Q g K L [] f (q_Pi (fun (z : Int) (f1 : Nat → va_E) => f = f1 ∧ 0 ≤ z ∧ z ≤ 9))) ([.ref v] : List Value).toArray s 0 0 (fun q => q ∈ L)) (F0 m 4 ls []) := by
    intro n
    induction n with
    | zero =>
      intro v4_1 lv4_1 uv4_1 v4_2 lv4_2 uv4_2 hmu
      exact absurd hmu (Nat.not_lt_zero _)
    | succ n ih4 =>
      intro v4_1 lv4_1 uv4_1 v4_2 lv4_2 uv4_2 hmu H locs hB ls hl
      have J14 : ∀ (n : Nat) (v14_1 : Int) (lv14_1 : 0 ≤ v14_1) (uv14_1 : v14_1 ≤ 9) (v14_3 : Int) (lv14_3 : 0 ≤ v14_3) (uv14_3 : v14_3 ≤ 9) (buv4_2 : v4_2 ≤ 9) (hmu : (Int.toNat (2147483647 - v14_3)) < n) (H : Heap) (locs : List Loc) (hB : q_B g K L (fun q => q ∈ L) [] f f s H locs) (ls : Array Slot) (hl : lv_has ls 4 [(0, .ref v), (1, .int (q_i v14_1)), (2, .int (q_i v4_2)), (3, .int (q_i v14_3))]), W p l e { frames := 3, cells := 0, slots := 0, locals := 68 } s m ([.ref v] : List Value).toArray below meth c H locs 0 0 (MQ below (q_Q g K L [] f (q_Pi (fun (z : Int) (f1 : Nat → va_E) => f = f1 ∧ 0 ≤ z ∧ z ≤ 9))) ([.ref v] : List Value).toArray s 0 0 (fun q => q ∈ L)) (F0 m 14 ls []) := by
        intro n
        induction n with
        | zero =>
          intro v14_1 lv14_1 uv14_1 v14_3 lv14_3 uv14_3 buv4_2 hmu
          exact absurd hmu (Nat.not_lt_zero _)
        | succ n ih14 =>
          intro v14_1 lv14_1 uv14_1 v14_3 lv14_3 uv14_3 buv4_2 hmu H locs hB ls hl
          refine q_ild_n cx dX10_greatestHops_14 rfl (lv_at hl 3 rfl) ?_
          refine q_ild_n cx dX10_greatestHops_15 rfl (lv_at hl 2 rfl) ?_
          refine q_icge (tgt := 36) cx ⟨by omega, by omega⟩ ⟨by omega, by omega⟩ dX10_greatestHops_16 (by decide) (fun c112 => ?_) (fun c112 => ?_)
          · refine q_iinc (lv' := [(2, .int (q_i (v4_2 + 1))), (0, .ref v), (1, .int (q_i v14_1)), (3, .int (q_i v14_3))]) cx dX10_greatestHops_36 hl (k := 2) rfl (by decide) rfl (fun ls hl => ?_)
            refine lv_goto (tgt := 4) cx.1 cx.2.1 dX10_greatestHops_39 (by decide) ?_
            exact ih4 v14_1 (by omega) (by omega) (v4_2 + 1) (by omega) (by omega) (by omega) H locs hB ls (lv_sub hl [1, 2, 0] rfl)
          · refine q_ild_n cx dX10_greatestHops_19 rfl (lv_at hl 1 rfl) ?_
            refine q_ald_n cx dX10_greatestHops_20 rfl (lv_at hl 0 rfl) ?_
            refine q_ild_n cx dX10_greatestHops_21 rfl (lv_at hl 2 rfl) ?_
            refine q_ild_n cx dX10_greatestHops_22 rfl (lv_at hl 3 rfl) ?_
            refine q_cVi (As := [.int (q_i v4_2), .int (q_i v14_3)]) (rest := [.int (q_i v14_1)]) cx hB (fun _ h => h) hN hv kv (by decide) rfl (g_X10_hopsBetween l g hN hB.2.1 v hv kv v4_2 (by omega) (by omega) v14_3 (by omega) (by omega)) q_cX10_240 q_dX10_hopsBetween (by decide) rfl rfl hl.1 rfl (Nat.le_of_ble_eq_true rfl) dX10_greatestHops_23 (fun y114 H locs f113 ry114 h115 hF hB => ?_)
            obtain ⟨rfl, ly114, uy114⟩ := h115
            refine q_mmax (rest := []) cx hl.1 q_h658 q_h659 q_h157 q_h660 (by decide) (Nat.le_of_ble_eq_true rfl) (by decide) (by decide) ⟨by omega, by omega⟩ ⟨by omega, by omega⟩ dX10_greatestHops_26 (fun y116 ay116 by116 ey116 => ?_)
            refine lv_istore_n (lv' := [(1, .int (q_i y116)), (0, .ref v), (2, .int (q_i v4_2)), (3, .int (q_i v14_3))]) cx.1 cx.2.1 dX10_greatestHops_29 rfl hl (by decide) rfl (fun ls hl => ?_)
            refine q_iinc (lv' := [(3, .int (q_i (v14_3 + 1))), (1, .int (q_i y116)), (0, .ref v), (2, .int (q_i v4_2))]) cx dX10_greatestHops_30 hl (k := 3) rfl (by decide) rfl (fun ls hl => ?_)
            refine lv_goto (tgt := 14) cx.1 cx.2.1 dX10_greatestHops_33 (by decide) ?_
            exact ih14 y116 (by omega) (by omega) (v14_3 + 1) (by omega) (by omega) (by omega) (by omega) H locs hB ls (lv_sub hl [2, 1, 3, 0] rfl)
      refine q_ild_n cx dX10_greatestHops_4 rfl (lv_at hl 2 rfl) ?_
      refine q_ald_n cx dX10_greatestHops_5 rfl (lv_at hl 0 rfl) ?_
      obtain ⟨x117, ex117⟩ : ∃ zz, q_is (q_z f v 3) zz := ⟨_, q_isr _⟩
      refine q_gX10_35 cx hB hv kv ex117 dX10_greatestHops_6 (fun lb118 ub118 => ?_)
      refine q_icge (tgt := 42) cx ⟨by omega, by omega⟩ ⟨by omega, by omega⟩ dX10_greatestHops_9 (by decide) (fun c119 => ?_) (fun c119 => ?_)
      · refine q_ild_n cx dX10_greatestHops_42 rfl (lv_at hl 1 rfl) ?_
        refine q_iret cx hr hlk hB dX10_greatestHops_43 ⟨by omega, by omega⟩ ?_
        exact ⟨rfl, (by omega), (by omega)⟩
      · refine q_iconst cx dX10_greatestHops_12 ?_
        refine lv_istore_n (lv' := [(3, .int (q_i 0)), (0, .ref v), (1, .int (q_i v4_1)), (2, .int (q_i v4_2))]) cx.1 cx.2.1 dX10_greatestHops_13 rfl hl (by decide) rfl (fun ls hl => ?_)
        exact J14 ((Int.toNat (2147483647 - 0)) + 1) v4_1 (by omega) (by omega) 0 (by decide) (by decide) (by omega) (Nat.lt_succ_self _) H locs hB ls (lv_sub hl [1, 2, 3, 0] rfl)
  obtain ⟨H, hH⟩ : ∃ H : Heap, H = s.heap := ⟨_, rfl⟩
  obtain ⟨locs, hlocs⟩ : ∃ z : List Loc, z = [] := ⟨_, rfl⟩
  rw [← hH, ← hlocs] at hB
  rw [← hH, ← hlocs]
  refine q_iconst cx dX10_greatestHops_0 ?_
  refine lv_istore_n (lv' := [(1, .int (q_i 0)), (0, .ref v)]) cx.1 cx.2.1 dX10_greatestHops_1 rfl hl (by decide) rfl (fun ls hl => ?_)
  refine q_iconst cx dX10_greatestHops_2 ?_
  refine lv_istore_n (lv' := [(2, .int (q_i 0)), (1, .int (q_i 0)), (0, .ref v)]) cx.1 cx.2.1 dX10_greatestHops_3 rfl hl (by decide) rfl (fun ls hl => ?_)
  exact J4 ((Int.toNat (2147483647 - 0)) + 1) 0 (by decide) (by decide) 0 (by decide) (by decide) (Nat.lt_succ_self _) H locs hB ls (lv_sub hl [2, 1, 0] rfl)
set_option maxHeartbeats 4000000 in
set_option maxRecDepth 100000 in
theorem g_X10_greatestHops_1 (l : Launch) (g : q_G) {K : Nat → Nat} {L : List Nat} (hN : L.Nodup) {f : Nat → va_E} (hT : q_Ty g K L f) (v : Nat) (hv : v ∈ L) (kv : K v = 13) : q_Ct l g K L yX10_greatestHops cX10_greatestHops 4 (some .int) 3 68 [.ref v] f [] (q_Pi (fun (z : Int) (f1 : Nat → va_E) => f = f1 ∧ 0 ≤ z ∧ z ≤ 9)) := by
  refine q_ofb (by decide +kernel) hN hT (Nat.le_of_ble_eq_true rfl) ?_
  intro p e s m below meth c ls cx hr hlk hB hl
  have hl : lv_has ls 4 [(0, .ref v)] := hl
  have J4 : ∀ (n : Nat) (v4_1 : Int) (lv4_1 : 0 ≤ v4_1) (uv4_1 : v4_1 ≤ 9) (v4_2 : Int) (lv4_2 : 0 ≤ v4_2) (uv4_2 : v4_2 ≤ 10) (hmu : (Int.toNat (2147483647 - v4_2)) < n) (H : Heap) (locs : List Loc) (hB : q_B g K L (fun q => q ∈ L) [] f f s H locs) (ls : Array Slot) (hl : lv_has ls 4 [(0, .ref v), (1, .int (q_i v4_1)), (2, .int (q_i v4_2))]), W p l e { frames := 3, cells := 0, slots := 0, locals := 68 } s m ([.ref v] : List Value).toArray below meth c H locs 0 0 (MQ below (q_Q g K L [] f (q_Pi (fun (z : Int) (f1 : Nat → va_E) => f = f1 ∧ 0 ≤ z ∧ z ≤ 9))) ([.ref v] : List Value).toArray s 0 0 (fun q => q ∈ L)) (F0 m 4 ls []) := by
    intro n
    induction n with
    | zero =>
      intro v4_1 lv4_1 uv4_1 v4_2 lv4_2 uv4_2 hmu
      exact absurd hmu (Nat.not_lt_zero _)
    | succ n ih4 =>
      intro v4_1 lv4_1 uv4_1 v4_2 lv4_2 uv4_2 hmu H locs hB ls hl
      have J14 : ∀ (n : Nat) (v14_1 : Int) (lv14_1 : 0 ≤ v14_1) (uv14_1 : v14_1 ≤ 9) (v14_3 : Int) (lv14_3 : 0 ≤ v14_3) (uv14_3 : v14_3 ≤ 9) (buv4_2 : v4_2 ≤ 9) (hmu : (Int.toNat (2147483647 - v14_3)) < n) (H : Heap) (locs : List Loc) (hB : q_B g K L (fun q => q ∈ L) [] f f s H locs) (ls : Array Slot) (hl : lv_has ls 4 [(0, .ref v), (1, .int (q_i v14_1)), (2, .int (q_i v4_2)), (3, .int (q_i v14_3))]), W p l e { frames := 3, cells := 0, slots := 0, locals := 68 } s m ([.ref v] : List Value).toArray below meth c H locs 0 0 (MQ below (q_Q g K L [] f (q_Pi (fun (z : Int) (f1 : Nat → va_E) => f = f1 ∧ 0 ≤ z ∧ z ≤ 9))) ([.ref v] : List Value).toArray s 0 0 (fun q => q ∈ L)) (F0 m 14 ls []) := by
        intro n
        induction n with
        | zero =>
          intro v14_1 lv14_1 uv14_1 v14_3 lv14_3 uv14_3 buv4_2 hmu
          exact absurd hmu (Nat.not_lt_zero _)
        | succ n ih14 =>
          intro v14_1 lv14_1 uv14_1 v14_3 lv14_3 uv14_3 buv4_2 hmu H locs hB ls hl
          refine q_ild_n cx dX10_greatestHops_14 rfl (lv_at hl 3 rfl) ?_
          refine q_ild_n cx dX10_greatestHops_15 rfl (lv_at hl 2 rfl) ?_
          refine q_icge (tgt := 36) cx ⟨by omega, by omega⟩ ⟨by omega, by omega⟩ dX10_greatestHops_16 (by decide) (fun c112 => ?_) (fun c112 => ?_)
          · refine q_iinc (lv' := [(2, .int (q_i (v4_2 + 1))), (0, .ref v), (1, .int (q_i v14_1)), (3, .int (q_i v14_3))]) cx dX10_greatestHops_36 hl (k := 2) rfl (by decide) rfl (fun ls hl => ?_)
            refine lv_goto (tgt := 4) cx.1 cx.2.1 dX10_greatestHops_39 (by decide) ?_
            exact ih4 v14_1 (by omega) (by omega) (v4_2 + 1) (by omega) (by omega) (by omega) H locs hB ls (lv_sub hl [1, 2, 0] rfl)
          · refine q_ild_n cx dX10_greatestHops_19 rfl (lv_at hl 1 rfl) ?_
            refine q_ald_n cx dX10_greatestHops_20 rfl (lv_at hl 0 rfl) ?_
            refine q_ild_n cx dX10_greatestHops_21 rfl (lv_at hl 2 rfl) ?_
            refine q_ild_n cx dX10_greatestHops_22 rfl (lv_at hl 3 rfl) ?_
            refine q_cVi (As := [.int (q_i v4_2), .int (q_i v14_3)]) (rest := [.int (q_i v14_1)]) cx hB (fun _ h => h) hN hv kv (by decide) rfl (g_X10_hopsBetween_1 l g hN hB.2.1 v hv kv v4_2 (by omega) (by omega) v14_3 (by omega) (by omega)) q_cX10_240 q_dX10_hopsBetween (by decide) rfl rfl hl.1 rfl (Nat.le_of_ble_eq_true rfl) dX10_greatestHops_23 (fun y114 H locs f113 ry114 h115 hF hB => ?_)
            obtain ⟨rfl, ly114, uy114⟩ := h115
            refine q_mmax (rest := []) cx hl.1 q_h658 q_h659 q_h157 q_h660 (by decide) (Nat.le_of_ble_eq_true rfl) (by decide) (by decide) ⟨by omega, by omega⟩ ⟨by omega, by omega⟩ dX10_greatestHops_26 (fun y116 ay116 by116 ey116 => ?_)
            refine lv_istore_n (lv' := [(1, .int (q_i y116)), (0, .ref v), (2, .int (q_i v4_2)), (3, .int (q_i v14_3))]) cx.1 cx.2.1 dX10_greatestHops_29 rfl hl (by decide) rfl (fun ls hl => ?_)
            refine q_iinc (lv' := [(3, .int (q_i (v14_3 + 1))), (1, .int (q_i y116)), (0, .ref v), (2, .int (q_i v4_2))]) cx dX10_greatestHops_30 hl (k := 3) rfl (by decide) rfl (fun ls hl => ?_)
            refine lv_goto (tgt := 14) cx.1 cx.2.1 dX10_greatestHops_33 (by decide) ?_
            exact ih14 y116 (by omega) (by omega) (v14_3 + 1) (by omega) (by omega) (by omega) (by omega) H locs hB ls (lv_sub hl [2, 1, 3, 0] rfl)
      refine q_ild_n cx dX10_greatestHops_4 rfl (lv_at hl 2 rfl) ?_
      refine q_ald_n cx dX10_greatestHops_5 rfl (lv_at hl 0 rfl) ?_
      obtain ⟨x117, ex117⟩ : ∃ zz, q_is (q_z f v 3) zz := ⟨_, q_isr _⟩
      refine q_gX10_35_13 cx hB hv kv ex117 dX10_greatestHops_6 (fun lb118 ub118 => ?_)
      refine q_icge (tgt := 42) cx ⟨by omega, by omega⟩ ⟨by omega, by omega⟩ dX10_greatestHops_9 (by decide) (fun c119 => ?_) (fun c119 => ?_)
      · refine q_ild_n cx dX10_greatestHops_42 rfl (lv_at hl 1 rfl) ?_
        refine q_iret cx hr hlk hB dX10_greatestHops_43 ⟨by omega, by omega⟩ ?_
        exact ⟨rfl, (by omega), (by omega)⟩
      · refine q_iconst cx dX10_greatestHops_12 ?_
        refine lv_istore_n (lv' := [(3, .int (q_i 0)), (0, .ref v), (1, .int (q_i v4_1)), (2, .int (q_i v4_2))]) cx.1 cx.2.1 dX10_greatestHops_13 rfl hl (by decide) rfl (fun ls hl => ?_)
        exact J14 ((Int.toNat (2147483647 - 0)) + 1) v4_1 (by omega) (by omega) 0 (by decide) (by decide) (by omega) (Nat.lt_succ_self _) H locs hB ls (lv_sub hl [1, 2, 3, 0] rfl)
  obtain ⟨H, hH⟩ : ∃ H : Heap, H = s.heap := ⟨_, rfl⟩
  obtain ⟨locs, hlocs⟩ : ∃ z : List Loc, z = [] := ⟨_, rfl⟩
  rw [← hH, ← hlocs] at hB
  rw [← hH, ← hlocs]
  refine q_iconst cx dX10_greatestHops_0 ?_
  refine lv_istore_n (lv' := [(1, .int (q_i 0)), (0, .ref v)]) cx.1 cx.2.1 dX10_greatestHops_1 rfl hl (by decide) rfl (fun ls hl => ?_)
  refine q_iconst cx dX10_greatestHops_2 ?_
  refine lv_istore_n (lv' := [(2, .int (q_i 0)), (1, .int (q_i 0)), (0, .ref v)]) cx.1 cx.2.1 dX10_greatestHops_3 rfl hl (by decide) rfl (fun ls hl => ?_)
  exact J4 ((Int.toNat (2147483647 - 0)) + 1) 0 (by decide) (by decide) 0 (by decide) (by decide) (Nat.lt_succ_self _) H locs hB ls (lv_sub hl [2, 1, 0] rfl)
set_option maxHeartbeats 4000000 in
set_option maxRecDepth 100000 in
theorem g_X10_greatestHops_2 (l : Launch) (g : q_G) {K : Nat → Nat} {L : List Nat} (hN : L.Nodup) {f : Nat → va_E} (hT : q_Ty g K L f) (v : Nat) (hv : v ∈ L) (kv : K v = 14) : q_Ct l g K L yX10_greatestHops cX10_greatestHops 4 (some .int) 3 68 [.ref v] f [] (q_Pi (fun (z : Int) (f1 : Nat → va_E) => f = f1 ∧ 0 ≤ z ∧ z ≤ 9)) := by
  refine q_ofb (by decide +kernel) hN hT (Nat.le_of_ble_eq_true rfl) ?_
  intro p e s m below meth c ls cx hr hlk hB hl
  have hl : lv_has ls 4 [(0, .ref v)] := hl
  have J4 : ∀ (n : Nat) (v4_1 : Int) (lv4_1 : 0 ≤ v4_1) (uv4_1 : v4_1 ≤ 9) (v4_2 : Int) (lv4_2 : 0 ≤ v4_2) (uv4_2 : v4_2 ≤ 10) (hmu : (Int.toNat (2147483647 - v4_2)) < n) (H : Heap) (locs : List Loc) (hB : q_B g K L (fun q => q ∈ L) [] f f s H locs) (ls : Array Slot) (hl : lv_has ls 4 [(0, .ref v), (1, .int (q_i v4_1)), (2, .int (q_i v4_2))]), W p l e { frames := 3, cells := 0, slots := 0, locals := 68 } s m ([.ref v] : List Value).toArray below meth c H locs 0 0 (MQ below (q_Q g K L [] f (q_Pi (fun (z : Int) (f1 : Nat → va_E) => f = f1 ∧ 0 ≤ z ∧ z ≤ 9))) ([.ref v] : List Value).toArray s 0 0 (fun q => q ∈ L)) (F0 m 4 ls []) := by
    intro n
    induction n with
    | zero =>
      intro v4_1 lv4_1 uv4_1 v4_2 lv4_2 uv4_2 hmu
      exact absurd hmu (Nat.not_lt_zero _)
    | succ n ih4 =>
      intro v4_1 lv4_1 uv4_1 v4_2 lv4_2 uv4_2 hmu H locs hB ls hl
      have J14 : ∀ (n : Nat) (v14_1 : Int) (lv14_1 : 0 ≤ v14_1) (uv14_1 : v14_1 ≤ 9) (v14_3 : Int) (lv14_3 : 0 ≤ v14_3) (uv14_3 : v14_3 ≤ 9) (buv4_2 : v4_2 ≤ 9) (hmu : (Int.toNat (2147483647 - v14_3)) < n) (H : Heap) (locs : List Loc) (hB : q_B g K L (fun q => q ∈ L) [] f f s H locs) (ls : Array Slot) (hl : lv_has ls 4 [(0, .ref v), (1, .int (q_i v14_1)), (2, .int (q_i v4_2)), (3, .int (q_i v14_3))]), W p l e { frames := 3, cells := 0, slots := 0, locals := 68 } s m ([.ref v] : List Value).toArray below meth c H locs 0 0 (MQ below (q_Q g K L [] f (q_Pi (fun (z : Int) (f1 : Nat → va_E) => f = f1 ∧ 0 ≤ z ∧ z ≤ 9))) ([.ref v] : List Value).toArray s 0 0 (fun q => q ∈ L)) (F0 m 14 ls []) := by
        intro n
        induction n with
        | zero =>
          intro v14_1 lv14_1 uv14_1 v14_3 lv14_3 uv14_3 buv4_2 hmu
          exact absurd hmu (Nat.not_lt_zero _)
        | succ n ih14 =>
          intro v14_1 lv14_1 uv14_1 v14_3 lv14_3 uv14_3 buv4_2 hmu H locs hB ls hl
          refine q_ild_n cx dX10_greatestHops_14 rfl (lv_at hl 3 rfl) ?_
          refine q_ild_n cx dX10_greatestHops_15 rfl (lv_at hl 2 rfl) ?_
          refine q_icge (tgt := 36) cx ⟨by omega, by omega⟩ ⟨by omega, by omega⟩ dX10_greatestHops_16 (by decide) (fun c112 => ?_) (fun c112 => ?_)
          · refine q_iinc (lv' := [(2, .int (q_i (v4_2 + 1))), (0, .ref v), (1, .int (q_i v14_1)), (3, .int (q_i v14_3))]) cx dX10_greatestHops_36 hl (k := 2) rfl (by decide) rfl (fun ls hl => ?_)
            refine lv_goto (tgt := 4) cx.1 cx.2.1 dX10_greatestHops_39 (by decide) ?_
            exact ih4 v14_1 (by omega) (by omega) (v4_2 + 1) (by omega) (by omega) (by omega) H locs hB ls (lv_sub hl [1, 2, 0] rfl)
          · refine q_ild_n cx dX10_greatestHops_19 rfl (lv_at hl 1 rfl) ?_
            refine q_ald_n cx dX10_greatestHops_20 rfl (lv_at hl 0 rfl) ?_
            refine q_ild_n cx dX10_greatestHops_21 rfl (lv_at hl 2 rfl) ?_
            refine q_ild_n cx dX10_greatestHops_22 rfl (lv_at hl 3 rfl) ?_
            refine q_cVi (As := [.int (q_i v4_2), .int (q_i v14_3)]) (rest := [.int (q_i v14_1)]) cx hB (fun _ h => h) hN hv kv (by decide) rfl (g_X10_hopsBetween_2 l g hN hB.2.1 v hv kv v4_2 (by omega) (by omega) v14_3 (by omega) (by omega)) q_cX10_240 q_dX10_hopsBetween (by decide) rfl rfl hl.1 rfl (Nat.le_of_ble_eq_true rfl) dX10_greatestHops_23 (fun y114 H locs f113 ry114 h115 hF hB => ?_)
            obtain ⟨rfl, ly114, uy114⟩ := h115
            refine q_mmax (rest := []) cx hl.1 q_h658 q_h659 q_h157 q_h660 (by decide) (Nat.le_of_ble_eq_true rfl) (by decide) (by decide) ⟨by omega, by omega⟩ ⟨by omega, by omega⟩ dX10_greatestHops_26 (fun y116 ay116 by116 ey116 => ?_)
            refine lv_istore_n (lv' := [(1, .int (q_i y116)), (0, .ref v), (2, .int (q_i v4_2)), (3, .int (q_i v14_3))]) cx.1 cx.2.1 dX10_greatestHops_29 rfl hl (by decide) rfl (fun ls hl => ?_)
            refine q_iinc (lv' := [(3, .int (q_i (v14_3 + 1))), (1, .int (q_i y116)), (0, .ref v), (2, .int (q_i v4_2))]) cx dX10_greatestHops_30 hl (k := 3) rfl (by decide) rfl (fun ls hl => ?_)
            refine lv_goto (tgt := 14) cx.1 cx.2.1 dX10_greatestHops_33 (by decide) ?_
            exact ih14 y116 (by omega) (by omega) (v14_3 + 1) (by omega) (by omega) (by omega) (by omega) H locs hB ls (lv_sub hl [2, 1, 3, 0] rfl)
      refine q_ild_n cx dX10_greatestHops_4 rfl (lv_at hl 2 rfl) ?_
      refine q_ald_n cx dX10_greatestHops_5 rfl (lv_at hl 0 rfl) ?_
      obtain ⟨x117, ex117⟩ : ∃ zz, q_is (q_z f v 3) zz := ⟨_, q_isr _⟩
      refine q_gX10_35_14 cx hB hv kv ex117 dX10_greatestHops_6 (fun lb118 ub118 => ?_)
      refine q_icge (tgt := 42) cx ⟨by omega, by omega⟩ ⟨by omega, by omega⟩ dX10_greatestHops_9 (by decide) (fun c119 => ?_) (fun c119 => ?_)
      · refine q_ild_n cx dX10_greatestHops_42 rfl (lv_at hl 1 rfl) ?_
        refine q_iret cx hr hlk hB dX10_greatestHops_43 ⟨by omega, by omega⟩ ?_
        exact ⟨rfl, (by omega), (by omega)⟩
      · refine q_iconst cx dX10_greatestHops_12 ?_
        refine lv_istore_n (lv' := [(3, .int (q_i 0)), (0, .ref v), (1, .int (q_i v4_1)), (2, .int (q_i v4_2))]) cx.1 cx.2.1 dX10_greatestHops_13 rfl hl (by decide) rfl (fun ls hl => ?_)
        exact J14 ((Int.toNat (2147483647 - 0)) + 1) v4_1 (by omega) (by omega) 0 (by decide) (by decide) (by omega) (Nat.lt_succ_self _) H locs hB ls (lv_sub hl [1, 2, 3, 0] rfl)
  obtain ⟨H, hH⟩ : ∃ H : Heap, H = s.heap := ⟨_, rfl⟩
  obtain ⟨locs, hlocs⟩ : ∃ z : List Loc, z = [] := ⟨_, rfl⟩
  rw [← hH, ← hlocs] at hB
  rw [← hH, ← hlocs]
  refine q_iconst cx dX10_greatestHops_0 ?_
  refine lv_istore_n (lv' := [(1, .int (q_i 0)), (0, .ref v)]) cx.1 cx.2.1 dX10_greatestHops_1 rfl hl (by decide) rfl (fun ls hl => ?_)
  refine q_iconst cx dX10_greatestHops_2 ?_
  refine lv_istore_n (lv' := [(2, .int (q_i 0)), (1, .int (q_i 0)), (0, .ref v)]) cx.1 cx.2.1 dX10_greatestHops_3 rfl hl (by decide) rfl (fun ls hl => ?_)
  exact J4 ((Int.toNat (2147483647 - 0)) + 1) 0 (by decide) (by decide) 0 (by decide) (by decide) (Nat.lt_succ_self _) H locs hB ls (lv_sub hl [2, 1, 0] rfl)
set_option maxHeartbeats 4000000 in
set_option maxRecDepth 100000 in
theorem g_X10_greatestHops_3 (l : Launch) (g : q_G) {K : Nat → Nat} {L : List Nat} (hN : L.Nodup) {f : Nat → va_E} (hT : q_Ty g K L f) (v : Nat) (hv : v ∈ L) (kv : K v = 15) : q_Ct l g K L yX10_greatestHops cX10_greatestHops 4 (some .int) 3 68 [.ref v] f [] (q_Pi (fun (z : Int) (f1 : Nat → va_E) => f = f1 ∧ 0 ≤ z ∧ z ≤ 9)) := by
  refine q_ofb (by decide +kernel) hN hT (Nat.le_of_ble_eq_true rfl) ?_
  intro p e s m below meth c ls cx hr hlk hB hl
  have hl : lv_has ls 4 [(0, .ref v)] := hl
  have J4 : ∀ (n : Nat) (v4_1 : Int) (lv4_1 : 0 ≤ v4_1) (uv4_1 : v4_1 ≤ 9) (v4_2 : Int) (lv4_2 : 0 ≤ v4_2) (uv4_2 : v4_2 ≤ 10) (hmu : (Int.toNat (2147483647 - v4_2)) < n) (H : Heap) (locs : List Loc) (hB : q_B g K L (fun q => q ∈ L) [] f f s H locs) (ls : Array Slot) (hl : lv_has ls 4 [(0, .ref v), (1, .int (q_i v4_1)), (2, .int (q_i v4_2))]), W p l e { frames := 3, cells := 0, slots := 0, locals := 68 } s m ([.ref v] : List Value).toArray below meth c H locs 0 0 (MQ below (q_Q g K L [] f (q_Pi (fun (z : Int) (f1 : Nat → va_E) => f = f1 ∧ 0 ≤ z ∧ z ≤ 9))) ([.ref v] : List Value).toArray s 0 0 (fun q => q ∈ L)) (F0 m 4 ls []) := by
    intro n
    induction n with
    | zero =>
      intro v4_1 lv4_1 uv4_1 v4_2 lv4_2 uv4_2 hmu
      exact absurd hmu (Nat.not_lt_zero _)
    | succ n ih4 =>
      intro v4_1 lv4_1 uv4_1 v4_2 lv4_2 uv4_2 hmu H locs hB ls hl
      have J14 : ∀ (n : Nat) (v14_1 : Int) (lv14_1 : 0 ≤ v14_1) (uv14_1 : v14_1 ≤ 9) (v14_3 : Int) (lv14_3 : 0 ≤ v14_3) (uv14_3 : v14_3 ≤ 9) (buv4_2 : v4_2 ≤ 9) (hmu : (Int.toNat (2147483647 - v14_3)) < n) (H : Heap) (locs : List Loc) (hB : q_B g K L (fun q => q ∈ L) [] f f s H locs) (ls : Array Slot) (hl : lv_has ls 4 [(0, .ref v), (1, .int (q_i v14_1)), (2, .int (q_i v4_2)), (3, .int (q_i v14_3))]), W p l e { frames := 3, cells := 0, slots := 0, locals := 68 } s m ([.ref v] : List Value).toArray below meth c H locs 0 0 (MQ below (q_Q g K L [] f (q_Pi (fun (z : Int) (f1 : Nat → va_E) => f = f1 ∧ 0 ≤ z ∧ z ≤ 9))) ([.ref v] : List Value).toArray s 0 0 (fun q => q ∈ L)) (F0 m 14 ls []) := by
        intro n
        induction n with
        | zero =>
          intro v14_1 lv14_1 uv14_1 v14_3 lv14_3 uv14_3 buv4_2 hmu
          exact absurd hmu (Nat.not_lt_zero _)
        | succ n ih14 =>
          intro v14_1 lv14_1 uv14_1 v14_3 lv14_3 uv14_3 buv4_2 hmu H locs hB ls hl
          refine q_ild_n cx dX10_greatestHops_14 rfl (lv_at hl 3 rfl) ?_
          refine q_ild_n cx dX10_greatestHops_15 rfl (lv_at hl 2 rfl) ?_
          refine q_icge (tgt := 36) cx ⟨by omega, by omega⟩ ⟨by omega, by omega⟩ dX10_greatestHops_16 (by decide) (fun c112 => ?_) (fun c112 => ?_)
          · refine q_iinc (lv' := [(2, .int (q_i (v4_2 + 1))), (0, .ref v), (1, .int (q_i v14_1)), (3, .int (q_i v14_3))]) cx dX10_greatestHops_36 hl (k := 2) rfl (by decide) rfl (fun ls hl => ?_)
            refine lv_goto (tgt := 4) cx.1 cx.2.1 dX10_greatestHops_39 (by decide) ?_
            exact ih4 v14_1 (by omega) (by omega) (v4_2 + 1) (by omega) (by omega) (by omega) H locs hB ls (lv_sub hl [1, 2, 0] rfl)
          · refine q_ild_n cx dX10_greatestHops_19 rfl (lv_at hl 1 rfl) ?_
            refine q_ald_n cx dX10_greatestHops_20 rfl (lv_at hl 0 rfl) ?_
            refine q_ild_n cx dX10_greatestHops_21 rfl (lv_at hl 2 rfl) ?_
            refine q_ild_n cx dX10_greatestHops_22 rfl (lv_at hl 3 rfl) ?_
            refine q_cVi (As := [.int (q_i v4_2), .int (q_i v14_3)]) (rest := [.int (q_i v14_1)]) cx hB (fun _ h => h) hN hv kv (by decide) rfl (g_X10_hopsBetween_3 l g hN hB.2.1 v hv kv v4_2 (by omega) (by omega) v14_3 (by omega) (by omega)) q_cX10_240 q_dX10_hopsBetween (by decide) rfl rfl hl.1 rfl (Nat.le_of_ble_eq_true rfl) dX10_greatestHops_23 (fun y114 H locs f113 ry114 h115 hF hB => ?_)
            obtain ⟨rfl, ly114, uy114⟩ := h115
            refine q_mmax (rest := []) cx hl.1 q_h658 q_h659 q_h157 q_h660 (by decide) (Nat.le_of_ble_eq_true rfl) (by decide) (by decide) ⟨by omega, by omega⟩ ⟨by omega, by omega⟩ dX10_greatestHops_26 (fun y116 ay116 by116 ey116 => ?_)
            refine lv_istore_n (lv' := [(1, .int (q_i y116)), (0, .ref v), (2, .int (q_i v4_2)), (3, .int (q_i v14_3))]) cx.1 cx.2.1 dX10_greatestHops_29 rfl hl (by decide) rfl (fun ls hl => ?_)
            refine q_iinc (lv' := [(3, .int (q_i (v14_3 + 1))), (1, .int (q_i y116)), (0, .ref v), (2, .int (q_i v4_2))]) cx dX10_greatestHops_30 hl (k := 3) rfl (by decide) rfl (fun ls hl => ?_)
            refine lv_goto (tgt := 14) cx.1 cx.2.1 dX10_greatestHops_33 (by decide) ?_
            exact ih14 y116 (by omega) (by omega) (v14_3 + 1) (by omega) (by omega) (by omega) (by omega) H locs hB ls (lv_sub hl [2, 1, 3, 0] rfl)
      refine q_ild_n cx dX10_greatestHops_4 rfl (lv_at hl 2 rfl) ?_
      refine q_ald_n cx dX10_greatestHops_5 rfl (lv_at hl 0 rfl) ?_
      obtain ⟨x117, ex117⟩ : ∃ zz, q_is (q_z f v 3) zz := ⟨_, q_isr _⟩
      refine q_gX10_35_15 cx hB hv kv ex117 dX10_greatestHops_6 (fun lb118 ub118 => ?_)
      refine q_icge (tgt := 42) cx ⟨by omega, by omega⟩ ⟨by omega, by omega⟩ dX10_greatestHops_9 (by decide) (fun c119 => ?_) (fun c119 => ?_)
      · refine q_ild_n cx dX10_greatestHops_42 rfl (lv_at hl 1 rfl) ?_
        refine q_iret cx hr hlk hB dX10_greatestHops_43 ⟨by omega, by omega⟩ ?_
        exact ⟨rfl, (by omega), (by omega)⟩
      · refine q_iconst cx dX10_greatestHops_12 ?_
        refine lv_istore_n (lv' := [(3, .int (q_i 0)), (0, .ref v), (1, .int (q_i v4_1)), (2, .int (q_i v4_2))]) cx.1 cx.2.1 dX10_greatestHops_13 rfl hl (by decide) rfl (fun ls hl => ?_)
        exact J14 ((Int.toNat (2147483647 - 0)) + 1) v4_1 (by omega) (by omega) 0 (by decide) (by decide) (by omega) (Nat.lt_succ_self _) H locs hB ls (lv_sub hl [1, 2, 3, 0] rfl)
  obtain ⟨H, hH⟩ : ∃ H : Heap, H = s.heap := ⟨_, rfl⟩
  obtain ⟨locs, hlocs⟩ : ∃ z : List Loc, z = [] := ⟨_, rfl⟩
  rw [← hH, ← hlocs] at hB
  rw [← hH, ← hlocs]
  refine q_iconst cx dX10_greatestHops_0 ?_
  refine lv_istore_n (lv' := [(1, .int (q_i 0)), (0, .ref v)]) cx.1 cx.2.1 dX10_greatestHops_1 rfl hl (by decide) rfl (fun ls hl => ?_)
  refine q_iconst cx dX10_greatestHops_2 ?_
  refine lv_istore_n (lv' := [(2, .int (q_i 0)), (1, .int (q_i 0)), (0, .ref v)]) cx.1 cx.2.1 dX10_greatestHops_3 rfl hl (by decide) rfl (fun ls hl => ?_)
  exact J4 ((Int.toNat (2147483647 - 0)) + 1) 0 (by decide) (by decide) 0 (by decide) (by decide) (Nat.lt_succ_self _) H locs hB ls (lv_sub hl [2, 1, 0] rfl)
set_option maxHeartbeats 4000000 in
set_option maxRecDepth 100000 in
theorem g_X10_greatestHops_4 (l : Launch) (g : q_G) {K : Nat → Nat} {L : List Nat} (hN : L.Nodup) {f : Nat → va_E} (hT : q_Ty g K L f) (v : Nat) (hv : v ∈ L) (kv : K v = 16) : q_Ct l g K L yX10_greatestHops cX10_greatestHops 4 (some .int) 3 68 [.ref v] f [] (q_Pi (fun (z : Int) (f1 : Nat → va_E) => f = f1 ∧ 0 ≤ z ∧ z ≤ 9)) := by
  refine q_ofb (by decide +kernel) hN hT (Nat.le_of_ble_eq_true rfl) ?_
  intro p e s m below meth c ls cx hr hlk hB hl
  have hl : lv_has ls 4 [(0, .ref v)] := hl
  have J4 : ∀ (n : Nat) (v4_1 : Int) (lv4_1 : 0 ≤ v4_1) (uv4_1 : v4_1 ≤ 9) (v4_2 : Int) (lv4_2 : 0 ≤ v4_2) (uv4_2 : v4_2 ≤ 10) (hmu : (Int.toNat (2147483647 - v4_2)) < n) (H : Heap) (locs : List Loc) (hB : q_B g K L (fun q => q ∈ L) [] f f s H locs) (ls : Array Slot) (hl : lv_has ls 4 [(0, .ref v), (1, .int (q_i v4_1)), (2, .int (q_i v4_2))]), W p l e { frames := 3, cells := 0, slots := 0, locals := 68 } s m ([.ref v] : List Value).toArray below meth c H locs 0 0 (MQ below (q_Q g K L [] f (q_Pi (fun (z : Int) (f1 : Nat → va_E) => f = f1 ∧ 0 ≤ z ∧ z ≤ 9))) ([.ref v] : List Value).toArray s 0 0 (fun q => q ∈ L)) (F0 m 4 ls []) := by
    intro n
    induction n with
    | zero =>
      intro v4_1 lv4_1 uv4_1 v4_2 lv4_2 uv4_2 hmu
      exact absurd hmu (Nat.not_lt_zero _)
    | succ n ih4 =>
      intro v4_1 lv4_1 uv4_1 v4_2 lv4_2 uv4_2 hmu H locs hB ls hl
      have J14 : ∀ (n : Nat) (v14_1 : Int) (lv14_1 : 0 ≤ v14_1) (uv14_1 : v14_1 ≤ 9) (v14_3 : Int) (lv14_3 : 0 ≤ v14_3) (uv14_3 : v14_3 ≤ 9) (buv4_2 : v4_2 ≤ 9) (hmu : (Int.toNat (2147483647 - v14_3)) < n) (H : Heap) (locs : List Loc) (hB : q_B g K L (fun q => q ∈ L) [] f f s H locs) (ls : Array Slot) (hl : lv_has ls 4 [(0, .ref v), (1, .int (q_i v14_1)), (2, .int (q_i v4_2)), (3, .int (q_i v14_3))]), W p l e { frames := 3, cells := 0, slots := 0, locals := 68 } s m ([.ref v] : List Value).toArray below meth c H locs 0 0 (MQ below (q_Q g K L [] f (q_Pi (fun (z : Int) (f1 : Nat → va_E) => f = f1 ∧ 0 ≤ z ∧ z ≤ 9))) ([.ref v] : List Value).toArray s 0 0 (fun q => q ∈ L)) (F0 m 14 ls []) := by
        intro n
        induction n with
        | zero =>
          intro v14_1 lv14_1 uv14_1 v14_3 lv14_3 uv14_3 buv4_2 hmu
          exact absurd hmu (Nat.not_lt_zero _)
        | succ n ih14 =>
          intro v14_1 lv14_1 uv14_1 v14_3 lv14_3 uv14_3 buv4_2 hmu H locs hB ls hl
          refine q_ild_n cx dX10_greatestHops_14 rfl (lv_at hl 3 rfl) ?_
          refine q_ild_n cx dX10_greatestHops_15 rfl (lv_at hl 2 rfl) ?_
          refine q_icge (tgt := 36) cx ⟨by omega, by omega⟩ ⟨by omega, by omega⟩ dX10_greatestHops_16 (by decide) (fun c112 => ?_) (fun c112 => ?_)
          · refine q_iinc (lv' := [(2, .int (q_i (v4_2 + 1))), (0, .ref v), (1, .int (q_i v14_1)), (3, .int (q_i v14_3))]) cx dX10_greatestHops_36 hl (k := 2) rfl (by decide) rfl (fun ls hl => ?_)
            refine lv_goto (tgt := 4) cx.1 cx.2.1 dX10_greatestHops_39 (by decide) ?_
            exact ih4 v14_1 (by omega) (by omega) (v4_2 + 1) (by omega) (by omega) (by omega) H locs hB ls (lv_sub hl [1, 2, 0] rfl)
          · refine q_ild_n cx dX10_greatestHops_19 rfl (lv_at hl 1 rfl) ?_
            refine q_ald_n cx dX10_greatestHops_20 rfl (lv_at hl 0 rfl) ?_
            refine q_ild_n cx dX10_greatestHops_21 rfl (lv_at hl 2 rfl) ?_
            refine q_ild_n cx dX10_greatestHops_22 rfl (lv_at hl 3 rfl) ?_
            refine q_cVi (As := [.int (q_i v4_2), .int (q_i v14_3)]) (rest := [.int (q_i v14_1)]) cx hB (fun _ h => h) hN hv kv (by decide) rfl (g_X10_hopsBetween_4 l g hN hB.2.1 v hv kv v4_2 (by omega) (by omega) v14_3 (by omega) (by omega)) q_cX10_240 q_dX10_hopsBetween (by decide) rfl rfl hl.1 rfl (Nat.le_of_ble_eq_true rfl) dX10_greatestHops_23 (fun y114 H locs f113 ry114 h115 hF hB => ?_)
            obtain ⟨rfl, ly114, uy114⟩ := h115
            refine q_mmax (rest := []) cx hl.1 q_h658 q_h659 q_h157 q_h660 (by decide) (Nat.le_of_ble_eq_true rfl) (by decide) (by decide) ⟨by omega, by omega⟩ ⟨by omega, by omega⟩ dX10_greatestHops_26 (fun y116 ay116 by116 ey116 => ?_)
            refine lv_istore_n (lv' := [(1, .int (q_i y116)), (0, .ref v), (2, .int (q_i v4_2)), (3, .int (q_i v14_3))]) cx.1 cx.2.1 dX10_greatestHops_29 rfl hl (by decide) rfl (fun ls hl => ?_)
            refine q_iinc (lv' := [(3, .int (q_i (v14_3 + 1))), (1, .int (q_i y116)), (0, .ref v), (2, .int (q_i v4_2))]) cx dX10_greatestHops_30 hl (k := 3) rfl (by decide) rfl (fun ls hl => ?_)
            refine lv_goto (tgt := 14) cx.1 cx.2.1 dX10_greatestHops_33 (by decide) ?_
            exact ih14 y116 (by omega) (by omega) (v14_3 + 1) (by omega) (by omega) (by omega) (by omega) H locs hB ls (lv_sub hl [2, 1, 3, 0] rfl)
      refine q_ild_n cx dX10_greatestHops_4 rfl (lv_at hl 2 rfl) ?_
      refine q_ald_n cx dX10_greatestHops_5 rfl (lv_at hl 0 rfl) ?_
      obtain ⟨x117, ex117⟩ : ∃ zz, q_is (q_z f v 3) zz := ⟨_, q_isr _⟩
      refine q_gX10_35_16 cx hB hv kv ex117 dX10_greatestHops_6 (fun lb118 ub118 => ?_)
      refine q_icge (tgt := 42) cx ⟨by omega, by omega⟩ ⟨by omega, by omega⟩ dX10_greatestHops_9 (by decide) (fun c119 => ?_) (fun c119 => ?_)
      · refine q_ild_n cx dX10_greatestHops_42 rfl (lv_at hl 1 rfl) ?_
        refine q_iret cx hr hlk hB dX10_greatestHops_43 ⟨by omega, by omega⟩ ?_
        exact ⟨rfl, (by omega), (by omega)⟩
      · refine q_iconst cx dX10_greatestHops_12 ?_
        refine lv_istore_n (lv' := [(3, .int (q_i 0)), (0, .ref v), (1, .int (q_i v4_1)), (2, .int (q_i v4_2))]) cx.1 cx.2.1 dX10_greatestHops_13 rfl hl (by decide) rfl (fun ls hl => ?_)
        exact J14 ((Int.toNat (2147483647 - 0)) + 1) v4_1 (by omega) (by omega) 0 (by decide) (by decide) (by omega) (Nat.lt_succ_self _) H locs hB ls (lv_sub hl [1, 2, 3, 0] rfl)
  obtain ⟨H, hH⟩ : ∃ H : Heap, H = s.heap := ⟨_, rfl⟩
  obtain ⟨locs, hlocs⟩ : ∃ z : List Loc, z = [] := ⟨_, rfl⟩
  rw [← hH, ← hlocs] at hB
  rw [← hH, ← hlocs]
  refine q_iconst cx dX10_greatestHops_0 ?_
  refine lv_istore_n (lv' := [(1, .int (q_i 0)), (0, .ref v)]) cx.1 cx.2.1 dX10_greatestHops_1 rfl hl (by decide) rfl (fun ls hl => ?_)
  refine q_iconst cx dX10_greatestHops_2 ?_
  refine lv_istore_n (lv' := [(2, .int (q_i 0)), (1, .int (q_i 0)), (0, .ref v)]) cx.1 cx.2.1 dX10_greatestHops_3 rfl hl (by decide) rfl (fun ls hl => ?_)
  exact J4 ((Int.toNat (2147483647 - 0)) + 1) 0 (by decide) (by decide) 0 (by decide) (by decide) (Nat.lt_succ_self _) H locs hB ls (lv_sub hl [2, 1, 0] rfl)
