set_option maxHeartbeats 4000000 in
set_option maxRecDepth 100000 in
theorem g_X10_greatestLateness_4 (l : Launch) (g : q_G) {K : Nat → Nat} {L : List Nat} (hN : L.Nodup) {f : Nat → va_E} (hT : q_Ty g K L f) (v : Nat) (hv : v ∈ L) (kv : K v = 16) (p0 : Int) (lp0 : (-2147483648) ≤ p0) (up0 : p0 ≤ 2147483647) (p1 : Int) (lp1 : (-2147483648) ≤ p1) (up1 : p1 ≤ 2147483647) : q_Ct l g K L yX10_greatestLateness cX10_greatestLateness 5 (some .int) 5 117 [.ref v, .int (q_i p0), .int (q_i p1)] f [] (q_Pi (fun (z : Int) (f1 : Nat → va_E) => f = f1 ∧ 0 ≤ z ∧ z ≤ 61)) := by
  refine q_ofb (by decide +kernel) hN hT (Nat.le_of_ble_eq_true rfl) ?_
  intro p e s m below meth c ls cx hr hlk hB hl
  have hl : lv_has ls 5 [(0, .ref v), (1, .int (q_i p0)), (2, .int (q_i p1))] := hl
  have J5 : ∀ (n : Nat) (v5_3 : Int) (lv5_3 : 0 ≤ v5_3) (uv5_3 : v5_3 ≤ 61) (v5_4 : Int) (lv5_4 : 0 ≤ v5_4) (uv5_4 : v5_4 ≤ 10) (hmu : (Int.toNat (2147483647 - v5_4)) < n) (H : Heap) (locs : List Loc) (hB : q_B g K L (fun q => q ∈ L) [] f f s H locs) (ls : Array Slot) (hl : lv_has ls 5 [(0, .ref v), (1, .int (q_i p0)), (2, .int (q_i p1)), (3, .int (q_i v5_3)), (4, .int (q_i v5_4))]), W p l e { frames := 5, cells := 0, slots := 0, locals := 117 } s m ([.ref v, .int (q_i p0), .int (q_i p1)] : List Value).toArray below meth c H locs 0 0 (MQ below (q_Q g K L [] f (q_Pi (fun (z : Int) (f1 : Nat → va_E) => f = f1 ∧ 0 ≤ z ∧ z ≤ 61))) ([.ref v, .int (q_i p0), .int (q_i p1)] : List Value).toArray s 0 0 (fun q => q ∈ L)) (F0 m 5 ls []) := by
    intro n
    induction n with
    | zero =>
      intro v5_3 lv5_3 uv5_3 v5_4 lv5_4 uv5_4 hmu
      exact absurd hmu (Nat.not_lt_zero _)
    | succ n ih5 =>
      intro v5_3 lv5_3 uv5_3 v5_4 lv5_4 uv5_4 hmu H locs hB ls hl
      have J43 : ∀ (v43_3 : Int) (lv43_3 : 0 ≤ v43_3) (uv43_3 : v43_3 ≤ 61) (buv5_4 : v5_4 ≤ 9) (H : Heap) (locs : List Loc) (hB : q_B g K L (fun q => q ∈ L) [] f f s H locs) (ls : Array Slot) (hl : lv_has ls 5 [(0, .ref v), (1, .int (q_i p0)), (2, .int (q_i p1)), (3, .int (q_i v43_3)), (4, .int (q_i v5_4))]), W p l e { frames := 5, cells := 0, slots := 0, locals := 117 } s m ([.ref v, .int (q_i p0), .int (q_i p1)] : List Value).toArray below meth c H locs 0 0 (MQ below (q_Q g K L [] f (q_Pi (fun (z : Int) (f1 : Nat → va_E) => f = f1 ∧ 0 ≤ z ∧ z ≤ 61))) ([.ref v, .int (q_i p0), .int (q_i p1)] : List Value).toArray s 0 0 (fun q => q ∈ L)) (F0 m 43 ls []) := by
        intro v43_3 lv43_3 uv43_3 buv5_4 H locs hB ls hl
        refine q_iinc (lv' := [(4, .int (q_i (v5_4 + 1))), (0, .ref v), (1, .int (q_i p0)), (2, .int (q_i p1)), (3, .int (q_i v43_3))]) cx dX10_greatestLateness_43 hl (k := 4) rfl (by decide) rfl (fun ls hl => ?_)
        refine lv_goto (tgt := 5) cx.1 cx.2.1 dX10_greatestLateness_46 (by decide) ?_
        exact ih5 v43_3 (by omega) (by omega) (v5_4 + 1) (by omega) (by omega) (by omega) H locs hB ls (lv_sub hl [1, 2, 3, 4, 0] rfl)
      refine lv_iload cx.1 cx.2.1 dX10_greatestLateness_5 (lv_at hl 4 rfl) ?_
      refine q_ald_n cx dX10_greatestLateness_7 rfl (lv_at hl 0 rfl) ?_
      obtain ⟨x161, ex161⟩ : ∃ zz, q_is (q_z f v 3) zz := ⟨_, q_isr _⟩
      refine q_gX10_35_16 cx hB hv kv ex161 dX10_greatestLateness_8 (fun lb162 ub162 => ?_)
      refine q_icge (tgt := 49) cx ⟨by omega, by omega⟩ ⟨by omega, by omega⟩ dX10_greatestLateness_11 (by decide) (fun c163 => ?_) (fun c163 => ?_)
      · refine q_ild_n cx dX10_greatestLateness_49 rfl (lv_at hl 3 rfl) ?_
        refine q_iret cx hr hlk hB dX10_greatestLateness_50 ⟨by omega, by omega⟩ ?_
        exact ⟨rfl, (by omega), (by omega)⟩
      · refine q_ald_n cx dX10_greatestLateness_14 rfl (lv_at hl 0 rfl) ?_
        refine q_ild_n cx dX10_greatestLateness_15 rfl (lv_at hl 1 rfl) ?_
        refine q_cVr (As := [.int (q_i p0)]) (rest := []) cx hB (fun _ h => h) hN hv kv (by decide) rfl (g_X10_nodeAt_4 l g hN hB.2.1 v hv kv p0 (by omega) (by omega)) q_cX10_66 q_dX10_nodeAt (by decide) rfl rfl hl.1 rfl (Nat.le_of_ble_eq_true rfl) dX10_greatestLateness_16 (fun y165 H locs f164 h166 hF hB => ?_)
        obtain ⟨rfl, hy165, ky165⟩ := h166
        obtain ⟨x167, ex167⟩ : ∃ zz, q_is (q_z f y165 5) zz := ⟨_, q_isr _⟩
        refine q_gX10_104_20 cx hB hy165 ky165 ex167 dX10_greatestLateness_19 (fun lb168 ub168 => ?_)
        refine lv_iload cx.1 cx.2.1 dX10_greatestLateness_22 (lv_at hl 4 rfl) ?_
        refine q_cSi (As := [.int (q_i x167), .int (q_i v5_4)]) (rest := []) cx hB (fun _ h => h) hN (g_X10_has l g hN hB.2.1 x167 (by omega) (by omega) v5_4 (by omega) (by omega)) q_cX10_181 q_dX10_has (by decide) rfl rfl hl.1 rfl (Nat.le_of_ble_eq_true rfl) dX10_greatestLateness_24 (fun y170 H locs f169 ry170 h171 hF hB => ?_)
        obtain ⟨rfl, ly170, uy170⟩ := h171
        refine q_ifeq (tgt := 43) cx ⟨by omega, by omega⟩ dX10_greatestLateness_27 (by decide) (fun c172 => ?_) (fun c172 => ?_)
        · exact J43 v5_3 (by omega) (by omega) (by omega) H locs hB ls (lv_sub hl [0, 1, 2, 3, 4] rfl)
        · refine q_ild_n cx dX10_greatestLateness_30 rfl (lv_at hl 3 rfl) ?_
          refine q_ald_n cx dX10_greatestLateness_31 rfl (lv_at hl 0 rfl) ?_
          refine q_ild_n cx dX10_greatestLateness_32 rfl (lv_at hl 1 rfl) ?_
          refine q_ild_n cx dX10_greatestLateness_33 rfl (lv_at hl 2 rfl) ?_
          refine lv_iload cx.1 cx.2.1 dX10_greatestLateness_34 (lv_at hl 4 rfl) ?_
          refine q_cVi (As := [.int (q_i p0), .int (q_i p1), .int (q_i v5_4)]) (rest := [.int (q_i v5_3)]) cx hB (fun _ h => h) hN hv kv (by decide) rfl (g_X10_lateness_4 l g hN hB.2.1 v hv kv p0 (by omega) (by omega) p1 (by omega) (by omega) v5_4 (by omega) (by omega)) q_cX10_222 q_dX10_lateness (by decide) rfl rfl hl.1 rfl (Nat.le_of_ble_eq_true rfl) dX10_greatestLateness_36 (fun y174 H locs f173 ry174 h175 hF hB => ?_)
          obtain ⟨rfl, ly174, uy174⟩ := h175
          refine q_mmax (rest := []) cx hl.1 q_h658 q_h659 q_h157 q_h660 (by decide) (Nat.le_of_ble_eq_true rfl) (by decide) (by decide) ⟨by omega, by omega⟩ ⟨by omega, by omega⟩ dX10_greatestLateness_39 (fun y176 ay176 by176 ey176 => ?_)
          refine lv_istore_n (lv' := [(3, .int (q_i y176)), (0, .ref v), (1, .int (q_i p0)), (2, .int (q_i p1)), (4, .int (q_i v5_4))]) cx.1 cx.2.1 dX10_greatestLateness_42 rfl hl (by decide) rfl (fun ls hl => ?_)
          exact J43 y176 (by omega) (by omega) (by omega) H locs hB ls (lv_sub hl [1, 2, 3, 0, 4] rfl)
  obtain ⟨H, hH⟩ : ∃ H : Heap, H = s.heap := ⟨_, rfl⟩
  obtain ⟨locs, hlocs⟩ : ∃ z : List Loc, z = [] := ⟨_, rfl⟩
  rw [← hH, ← hlocs] at hB
  rw [← hH, ← hlocs]
  refine q_iconst cx dX10_greatestLateness_0 ?_
  refine lv_istore_n (lv' := [(3, .int (q_i 0)), (0, .ref v), (1, .int (q_i p0)), (2, .int (q_i p1))]) cx.1 cx.2.1 dX10_greatestLateness_1 rfl hl (by decide) rfl (fun ls hl => ?_)
  refine q_iconst cx dX10_greatestLateness_2 ?_
  refine lv_istore (lv' := [(4, .int (q_i 0)), (3, .int (q_i 0)), (0, .ref v), (1, .int (q_i p0)), (2, .int (q_i p1))]) cx.1 cx.2.1 dX10_greatestLateness_3 hl (by decide) rfl (fun ls hl => ?_)
  exact J5 ((Int.toNat (2147483647 - 0)) + 1) 0 (by decide) (by decide) 0 (by decide) (by decide) (Nat.lt_succ_self _) H locs hB ls (lv_sub hl [2, 3, 4, 1, 0] rfl)
set_option maxHeartbeats 4000000 in
set_option maxRecDepth 100000 in
theorem g_X10_shiftToMeetSoonest (l : Launch) (g : q_G) {K : Nat → Nat} {L : List Nat} (hN : L.Nodup) {f : Nat → va_E} (hT : q_Ty g K L f) (v : Nat) (hv : v ∈ L) (kv : K v = 10) (p0 : Int) (lp0 : (-2147483648) ≤ p0) (up0 : p0 ≤ 2147483647) : q_Ct l g K L yX10_shiftToMeetSoonest cX10_shiftToMeetSoonest 6 (some .int) 6 141 [.ref v, .int (q_i p0)] f [] (q_Pi (fun (z : Int) (f1 : Nat → va_E) => f = f1 ∧ (-1) ≤ z ∧ z ≤ 59)) := by
  refine q_ofb (by decide +kernel) hN hT (Nat.le_of_ble_eq_true rfl) ?_
  intro p e s m below meth c ls cx hr hlk hB hl
  have hl : lv_has ls 6 [(0, .ref v), (1, .int (q_i p0))] := hl
  have J25 : ∀ (n : Nat) (v25_2 : Int) (lv25_2 : 0 ≤ v25_2) (uv25_2 : v25_2 ≤ 59) (v25_3 : Int) (lv25_3 : 0 ≤ v25_3) (uv25_3 : v25_3 ≤ 61) (v25_4 : Int) (lv25_4 : 1 ≤ v25_4) (uv25_4 : v25_4 ≤ 60) (hmu : (Int.toNat (2147483647 - v25_4)) < n) (H : Heap) (locs : List Loc) (hB : q_B g K L (fun q => q ∈ L) [] f f s H locs) (ls : Array Slot) (hl : lv_has ls 6 [(0, .ref v), (1, .int (q_i p0)), (2, .int (q_i v25_2)), (3, .int (q_i v25_3)), (4, .int (q_i v25_4))]), W p l e { frames := 6, cells := 0, slots := 0, locals := 141 } s m ([.ref v, .int (q_i p0)] : List Value).toArray below meth c H locs 0 0 (MQ below (q_Q g K L [] f (q_Pi (fun (z : Int) (f1 : Nat → va_E) => f = f1 ∧ (-1) ≤ z ∧ z ≤ 59))) ([.ref v, .int (q_i p0)] : List Value).toArray s 0 0 (fun q => q ∈ L)) (F0 m 25 ls []) := by
    intro n
    induction n with
    | zero =>
      intro v25_2 lv25_2 uv25_2 v25_3 lv25_3 uv25_3 v25_4 lv25_4 uv25_4 hmu
      exact absurd hmu (Nat.not_lt_zero _)
    | succ n ih25 =>
      intro v25_2 lv25_2 uv25_2 v25_3 lv25_3 uv25_3 v25_4 lv25_4 uv25_4 hmu H locs hB ls hl
      have J55 : ∀ (v55_2 : Int) (lv55_2 : 0 ≤ v55_2) (uv55_2 : v55_2 ≤ 59) (v55_3 : Int) (lv55_3 : 0 ≤ v55_3) (uv55_3 : v55_3 ≤ 61) (buv25_4 : v25_4 ≤ 59) (H : Heap) (locs : List Loc) (hB : q_B g K L (fun q => q ∈ L) [] f f s H locs) (ls : Array Slot) (hl : lv_has ls 6 [(0, .ref v), (1, .int (q_i p0)), (2, .int (q_i v55_2)), (3, .int (q_i v55_3)), (4, .int (q_i v25_4))]), W p l e { frames := 6, cells := 0, slots := 0, locals := 141 } s m ([.ref v, .int (q_i p0)] : List Value).toArray below meth c H locs 0 0 (MQ below (q_Q g K L [] f (q_Pi (fun (z : Int) (f1 : Nat → va_E) => f = f1 ∧ (-1) ≤ z ∧ z ≤ 59))) ([.ref v, .int (q_i p0)] : List Value).toArray s 0 0 (fun q => q ∈ L)) (F0 m 55 ls []) := by
        intro v55_2 lv55_2 uv55_2 v55_3 lv55_3 uv55_3 buv25_4 H locs hB ls hl
        refine q_iinc (lv' := [(4, .int (q_i (v25_4 + 1))), (0, .ref v), (1, .int (q_i p0)), (2, .int (q_i v55_2)), (3, .int (q_i v55_3))]) cx dX10_shiftToMeetSoonest_55 hl (k := 4) rfl (by decide) rfl (fun ls hl => ?_)
        refine lv_goto (tgt := 25) cx.1 cx.2.1 dX10_shiftToMeetSoonest_58 (by decide) ?_
        exact ih25 v55_2 (by omega) (by omega) v55_3 (by omega) (by omega) (v25_4 + 1) (by omega) (by omega) (by omega) H locs hB ls (lv_sub hl [1, 2, 3, 4, 0] rfl)
      refine lv_iload cx.1 cx.2.1 dX10_shiftToMeetSoonest_25 (lv_at hl 4 rfl) ?_
      refine q_ald_n cx dX10_shiftToMeetSoonest_27 rfl (lv_at hl 0 rfl) ?_
      obtain ⟨x143, ex143⟩ : ∃ zz, q_is (q_z f v 6) zz := ⟨_, q_isr _⟩
      refine q_gX10_45 cx hB hv kv ex143 dX10_shiftToMeetSoonest_28 (fun lb144 ub144 => ?_)
      refine q_icge (tgt := 61) cx ⟨by omega, by omega⟩ ⟨by omega, by omega⟩ dX10_shiftToMeetSoonest_31 (by decide) (fun c145 => ?_) (fun c145 => ?_)
      · refine q_ild_n cx dX10_shiftToMeetSoonest_61 rfl (lv_at hl 2 rfl) ?_
        refine q_iret cx hr hlk hB dX10_shiftToMeetSoonest_62 ⟨by omega, by omega⟩ ?_
        exact ⟨rfl, (by omega), (by omega)⟩
      · refine q_ald_n cx dX10_shiftToMeetSoonest_34 rfl (lv_at hl 0 rfl) ?_
        refine q_ild_n cx dX10_shiftToMeetSoonest_35 rfl (lv_at hl 1 rfl) ?_
        refine lv_iload cx.1 cx.2.1 dX10_shiftToMeetSoonest_36 (lv_at hl 4 rfl) ?_
        refine q_cVi (As := [.int (q_i p0), .int (q_i v25_4)]) (rest := []) cx hB (fun _ h => h) hN hv kv (by decide) rfl (g_X10_greatestLateness l g hN hB.2.1 v hv kv p0 (by omega) (by omega) v25_4 (by omega) (by omega)) q_cX10_231 q_dX10_greatestLateness (by decide) rfl rfl hl.1 rfl (Nat.le_of_ble_eq_true rfl) dX10_shiftToMeetSoonest_38 (fun y147 H locs f146 ry147 h148 hF hB => ?_)
        obtain ⟨rfl, ly147, uy147⟩ := h148
        refine lv_istore (lv' := [(5, .int (q_i y147)), (0, .ref v), (1, .int (q_i p0)), (2, .int (q_i v25_2)), (3, .int (q_i v25_3)), (4, .int (q_i v25_4))]) cx.1 cx.2.1 dX10_shiftToMeetSoonest_41 hl (by decide) rfl (fun ls hl => ?_)
        refine lv_iload cx.1 cx.2.1 dX10_shiftToMeetSoonest_43 (lv_at hl 0 rfl) ?_
        refine q_ild_n cx dX10_shiftToMeetSoonest_45 rfl (lv_at hl 4 rfl) ?_
        refine q_icge (tgt := 55) cx ⟨by omega, by omega⟩ ⟨by omega, by omega⟩ dX10_shiftToMeetSoonest_46 (by decide) (fun c149 => ?_) (fun c149 => ?_)
        · exact J55 v25_2 (by omega) (by omega) v25_3 (by omega) (by omega) (by omega) H locs hB ls (lv_sub hl [1, 2, 3, 4, 5] rfl)
        · refine lv_iload cx.1 cx.2.1 dX10_shiftToMeetSoonest_49 (lv_at hl 5 rfl) ?_
          refine lv_istore_n (lv' := [(2, .int (q_i v25_4)), (5, .int (q_i y147)), (0, .ref v), (1, .int (q_i p0)), (3, .int (q_i v25_3)), (4, .int (q_i v25_4))]) cx.1 cx.2.1 dX10_shiftToMeetSoonest_51 rfl hl (by decide) rfl (fun ls hl => ?_)
          refine lv_iload cx.1 cx.2.1 dX10_shiftToMeetSoonest_52 (lv_at hl 1 rfl) ?_
          refine lv_istore_n (lv' := [(3, .int (q_i y147)), (2, .int (q_i v25_4)), (5, .int (q_i y147)), (0, .ref v), (1, .int (q_i p0)), (4, .int (q_i v25_4))]) cx.1 cx.2.1 dX10_shiftToMeetSoonest_54 rfl hl (by decide) rfl (fun ls hl => ?_)
          exact J55 v25_4 (by omega) (by omega) y147 (by omega) (by omega) (by omega) H locs hB ls (lv_sub hl [3, 4, 1, 0, 5] rfl)
  obtain ⟨H, hH⟩ : ∃ H : Heap, H = s.heap := ⟨_, rfl⟩
  obtain ⟨locs, hlocs⟩ : ∃ z : List Loc, z = [] := ⟨_, rfl⟩
  rw [← hH, ← hlocs] at hB
  rw [← hH, ← hlocs]
  refine q_ald_n cx dX10_shiftToMeetSoonest_0 rfl (lv_at hl 0 rfl) ?_
  refine q_ild_n cx dX10_shiftToMeetSoonest_1 rfl (lv_at hl 1 rfl) ?_
  refine q_cVr (As := [.int (q_i p0)]) (rest := []) cx hB (fun _ h => h) hN hv kv (by decide) rfl (g_X10_nodeAt l g hN hB.2.1 v hv kv p0 (by omega) (by omega)) q_cX10_66 q_dX10_nodeAt (by decide) rfl rfl hl.1 rfl (Nat.le_of_ble_eq_true rfl) dX10_shiftToMeetSoonest_2 (fun y151 H locs f150 h152 hF hB => ?_)
  obtain ⟨rfl, hy151, ky151⟩ := h152
  obtain ⟨x153, ex153⟩ : ∃ zz, q_is (q_z f y151 5) zz := ⟨_, q_isr _⟩
  refine q_gX10_104 cx hB hy151 ky151 ex153 dX10_shiftToMeetSoonest_5 (fun lb154 ub154 => ?_)
  refine q_ifne (tgt := 13) cx ⟨by omega, by omega⟩ dX10_shiftToMeetSoonest_8 (by decide) (fun c155 => ?_) (fun c155 => ?_)
  · refine q_iconst cx dX10_shiftToMeetSoonest_13 ?_
    refine lv_istore_n (lv' := [(2, .int (q_i 0)), (0, .ref v), (1, .int (q_i p0))]) cx.1 cx.2.1 dX10_shiftToMeetSoonest_14 rfl hl (by decide) rfl (fun ls hl => ?_)
    refine q_ald_n cx dX10_shiftToMeetSoonest_15 rfl (lv_at hl 1 rfl) ?_
    refine q_ild_n cx dX10_shiftToMeetSoonest_16 rfl (lv_at hl 2 rfl) ?_
    refine q_iconst cx dX10_shiftToMeetSoonest_17 ?_
    refine q_cVi (As := [.int (q_i p0), .int (q_i 0)]) (rest := []) cx hB (fun _ h => h) hN hv kv (by decide) rfl (g_X10_greatestLateness l g hN hB.2.1 v hv kv p0 (by omega) (by omega) 0 (by decide) (by decide)) q_cX10_231 q_dX10_greatestLateness (by decide) rfl rfl hl.1 rfl (Nat.le_of_ble_eq_true rfl) dX10_shiftToMeetSoonest_18 (fun y157 H locs f156 ry157 h158 hF hB => ?_)
    obtain ⟨rfl, ly157, uy157⟩ := h158
    refine lv_istore_n (lv' := [(3, .int (q_i y157)), (2, .int (q_i 0)), (0, .ref v), (1, .int (q_i p0))]) cx.1 cx.2.1 dX10_shiftToMeetSoonest_21 rfl hl (by decide) rfl (fun ls hl => ?_)
    refine q_iconst cx dX10_shiftToMeetSoonest_22 ?_
    refine lv_istore (lv' := [(4, .int (q_i 1)), (3, .int (q_i y157)), (2, .int (q_i 0)), (0, .ref v), (1, .int (q_i p0))]) cx.1 cx.2.1 dX10_shiftToMeetSoonest_23 hl (by decide) rfl (fun ls hl => ?_)
    exact J25 ((Int.toNat (2147483647 - 1)) + 1) 0 (by decide) (by decide) y157 (by omega) (by omega) 1 (by decide) (by decide) (Nat.lt_succ_self _) H locs hB ls (lv_sub hl [3, 4, 2, 1, 0] rfl)
  · refine q_iconst cx dX10_shiftToMeetSoonest_11 ?_
    refine q_iret cx hr hlk hB dX10_shiftToMeetSoonest_12 ⟨by decide, by decide⟩ ?_
    exact ⟨rfl, (by decide), (by decide)⟩
set_option maxHeartbeats 4000000 in
set_option maxRecDepth 100000 in
theorem g_X10_shiftToMeetSoonest_1 (l : Launch) (g : q_G) {K : Nat → Nat} {L : List Nat} (hN : L.Nodup) {f : Nat → va_E} (hT : q_Ty g K L f) (v : Nat) (hv : v ∈ L) (kv : K v = 13) (p0 : Int) (lp0 : (-2147483648) ≤ p0) (up0 : p0 ≤ 2147483647) : q_Ct l g K L yX10_shiftToMeetSoonest cX10_shiftToMeetSoonest 6 (some .int) 6 141 [.ref v, .int (q_i p0)] f [] (q_Pi (fun (z : Int) (f1 : Nat → va_E) => f = f1 ∧ (-1) ≤ z ∧ z ≤ 59)) := by
  refine q_ofb (by decide +kernel) hN hT (Nat.le_of_ble_eq_true rfl) ?_
  intro p e s m below meth c ls cx hr hlk hB hl
  have hl : lv_has ls 6 [(0, .ref v), (1, .int (q_i p0))] := hl
  have J25 : ∀ (n : Nat) (v25_2 : Int) (lv25_2 : 0 ≤ v25_2) (uv25_2 : v25_2 ≤ 59) (v25_3 : Int) (lv25_3 : 0 ≤ v25_3) (uv25_3 : v25_3 ≤ 61) (v25_4 : Int) (lv25_4 : 1 ≤ v25_4) (uv25_4 : v25_4 ≤ 60) (hmu : (Int.toNat (2147483647 - v25_4)) < n) (H : Heap) (locs : List Loc) (hB : q_B g K L (fun q => q ∈ L) [] f f s H locs) (ls : Array Slot) (hl : lv_has ls 6 [(0, .ref v), (1, .int (q_i p0)), (2, .int (q_i v25_2)), (3, .int (q_i v25_3)), (4, .int (q_i v25_4))]), W p l e { frames := 6, cells := 0, slots := 0, locals := 141 } s m ([.ref v, .int (q_i p0)] : List Value).toArray below meth c H locs 0 0 (MQ below (q_Q g K L [] f (q_Pi (fun (z : Int) (f1 : Nat → va_E) => f = f1 ∧ (-1) ≤ z ∧ z ≤ 59))) ([.ref v, .int (q_i p0)] : List Value).toArray s 0 0 (fun q => q ∈ L)) (F0 m 25 ls []) := by
    intro n
    induction n with
    | zero =>
      intro v25_2 lv25_2 uv25_2 v25_3 lv25_3 uv25_3 v25_4 lv25_4 uv25_4 hmu
      exact absurd hmu (Nat.not_lt_zero _)
    | succ n ih25 =>
      intro v25_2 lv25_2 uv25_2 v25_3 lv25_3 uv25_3 v25_4 lv25_4 uv25_4 hmu H locs hB ls hl
      have J55 : ∀ (v55_2 : Int) (lv55_2 : 0 ≤ v55_2) (uv55_2 : v55_2 ≤ 59) (v55_3 : Int) (lv55_3 : 0 ≤ v55_3) (uv55_3 : v55_3 ≤ 61) (buv25_4 : v25_4 ≤ 59) (H : Heap) (locs : List Loc) (hB : q_B g K L (fun q => q ∈ L) [] f f s H locs) (ls : Array Slot) (hl : lv_has ls 6 [(0, .ref v), (1, .int (q_i p0)), (2, .int (q_i v55_2)), (3, .int (q_i v55_3)), (4, .int (q_i v25_4))]), W p l e { frames := 6, cells := 0, slots := 0, locals := 141 } s m ([.ref v, .int (q_i p0)] : List Value).toArray below meth c H locs 0 0 (MQ below (q_Q g K L [] f (q_Pi (fun (z : Int) (f1 : Nat → va_E) => f = f1 ∧ (-1) ≤ z ∧ z ≤ 59))) ([.ref v, .int (q_i p0)] : List Value).toArray s 0 0 (fun q => q ∈ L)) (F0 m 55 ls []) := by
        intro v55_2 lv55_2 uv55_2 v55_3 lv55_3 uv55_3 buv25_4 H locs hB ls hl
        refine q_iinc (lv' := [(4, .int (q_i (v25_4 + 1))), (0, .ref v), (1, .int (q_i p0)), (2, .int (q_i v55_2)), (3, .int (q_i v55_3))]) cx dX10_shiftToMeetSoonest_55 hl (k := 4) rfl (by decide) rfl (fun ls hl => ?_)
        refine lv_goto (tgt := 25) cx.1 cx.2.1 dX10_shiftToMeetSoonest_58 (by decide) ?_
        exact ih25 v55_2 (by omega) (by omega) v55_3 (by omega) (by omega) (v25_4 + 1) (by omega) (by omega) (by omega) H locs hB ls (lv_sub hl [1, 2, 3, 4, 0] rfl)
      refine lv_iload cx.1 cx.2.1 dX10_shiftToMeetSoonest_25 (lv_at hl 4 rfl) ?_
      refine q_ald_n cx dX10_shiftToMeetSoonest_27 rfl (lv_at hl 0 rfl) ?_
      obtain ⟨x143, ex143⟩ : ∃ zz, q_is (q_z f v 6) zz := ⟨_, q_isr _⟩
      refine q_gX10_45_13 cx hB hv kv ex143 dX10_shiftToMeetSoonest_28 (fun lb144 ub144 => ?_)
      refine q_icge (tgt := 61) cx ⟨by omega, by omega⟩ ⟨by omega, by omega⟩ dX10_shiftToMeetSoonest_31 (by decide) (fun c145 => ?_) (fun c145 => ?_)
      · refine q_ild_n cx dX10_shiftToMeetSoonest_61 rfl (lv_at hl 2 rfl) ?_
        refine q_iret cx hr hlk hB dX10_shiftToMeetSoonest_62 ⟨by omega, by omega⟩ ?_
        exact ⟨rfl, (by omega), (by omega)⟩
      · refine q_ald_n cx dX10_shiftToMeetSoonest_34 rfl (lv_at hl 0 rfl) ?_
        refine q_ild_n cx dX10_shiftToMeetSoonest_35 rfl (lv_at hl 1 rfl) ?_
        refine lv_iload cx.1 cx.2.1 dX10_shiftToMeetSoonest_36 (lv_at hl 4 rfl) ?_
        refine q_cVi (As := [.int (q_i p0), .int (q_i v25_4)]) (rest := []) cx hB (fun _ h => h) hN hv kv (by decide) rfl (g_X10_greatestLateness_1 l g hN hB.2.1 v hv kv p0 (by omega) (by omega) v25_4 (by omega) (by omega)) q_cX10_231 q_dX10_greatestLateness (by decide) rfl rfl hl.1 rfl (Nat.le_of_ble_eq_true rfl) dX10_shiftToMeetSoonest_38 (fun y147 H locs f146 ry147 h148 hF hB => ?_)
        obtain ⟨rfl, ly147, uy147⟩ := h148
        refine lv_istore (lv' := [(5, .int (q_i y147)), (0, .ref v), (1, .int (q_i p0)), (2, .int (q_i v25_2)), (3, .int (q_i v25_3)), (4, .int (q_i v25_4))]) cx.1 cx.2.1 dX10_shiftToMeetSoonest_41 hl (by decide) rfl (fun ls hl => ?_)
        refine lv_iload cx.1 cx.2.1 dX10_shiftToMeetSoonest_43 (lv_at hl 0 rfl) ?_
        refine q_ild_n cx dX10_shiftToMeetSoonest_45 rfl (lv_at hl 4 rfl) ?_
        refine q_icge (tgt := 55) cx ⟨by omega, by omega⟩ ⟨by omega, by omega⟩ dX10_shiftToMeetSoonest_46 (by decide) (fun c149 => ?_) (fun c149 => ?_)
        · exact J55 v25_2 (by omega) (by omega) v25_3 (by omega) (by omega) (by omega) H locs hB ls (lv_sub hl [1, 2, 3, 4, 5] rfl)
        · refine lv_iload cx.1 cx.2.1 dX10_shiftToMeetSoonest_49 (lv_at hl 5 rfl) ?_
          refine lv_istore_n (lv' := [(2, .int (q_i v25_4)), (5, .int (q_i y147)), (0, .ref v), (1, .int (q_i p0)), (3, .int (q_i v25_3)), (4, .int (q_i v25_4))]) cx.1 cx.2.1 dX10_shiftToMeetSoonest_51 rfl hl (by decide) rfl (fun ls hl => ?_)
          refine lv_iload cx.1 cx.2.1 dX10_shiftToMeetSoonest_52 (lv_at hl 1 rfl) ?_
          refine lv_istore_n (lv' := [(3, .int (q_i y147)), (2, .int (q_i v25_4)), (5, .int (q_i y147)), (0, .ref v), (1, .int (q_i p0)), (4, .int (q_i v25_4))]) cx.1 cx.2.1 dX10_shiftToMeetSoonest_54 rfl hl (by decide) rfl (fun ls hl => ?_)
          exact J55 v25_4 (by omega) (by omega) y147 (by omega) (by omega) (by omega) H locs hB ls (lv_sub hl [3, 4, 1, 0, 5] rfl)
  obtain ⟨H, hH⟩ : ∃ H : Heap, H = s.heap := ⟨_, rfl⟩
  obtain ⟨locs, hlocs⟩ : ∃ z : List Loc, z = [] := ⟨_, rfl⟩
  rw [← hH, ← hlocs] at hB
  rw [← hH, ← hlocs]
  refine q_ald_n cx dX10_shiftToMeetSoonest_0 rfl (lv_at hl 0 rfl) ?_
  refine q_ild_n cx dX10_shiftToMeetSoonest_1 rfl (lv_at hl 1 rfl) ?_
  refine q_cVr (As := [.int (q_i p0)]) (rest := []) cx hB (fun _ h => h) hN hv kv (by decide) rfl (g_X10_nodeAt_1 l g hN hB.2.1 v hv kv p0 (by omega) (by omega)) q_cX10_66 q_dX10_nodeAt (by decide) rfl rfl hl.1 rfl (Nat.le_of_ble_eq_true rfl) dX10_shiftToMeetSoonest_2 (fun y151 H locs f150 h152 hF hB => ?_)
  obtain ⟨rfl, hy151, ky151⟩ := h152
  obtain ⟨x153, ex153⟩ : ∃ zz, q_is (q_z f y151 5) zz := ⟨_, q_isr _⟩
  refine q_gX10_104_17 cx hB hy151 ky151 ex153 dX10_shiftToMeetSoonest_5 (fun lb154 ub154 => ?_)
  refine q_ifne (tgt := 13) cx ⟨by omega, by omega⟩ dX10_shiftToMeetSoonest_8 (by decide) (fun c155 => ?_) (fun c155 => ?_)
  · refine q_iconst cx dX10_shiftToMeetSoonest_13 ?_
    refine lv_istore_n (lv' := [(2, .int (q_i 0)), (0, .ref v), (1, .int (q_i p0))]) cx.1 cx.2.1 dX10_shiftToMeetSoonest_14 rfl hl (by decide) rfl (fun ls hl => ?_)
    refine q_ald_n cx dX10_shiftToMeetSoonest_15 rfl (lv_at hl 1 rfl) ?_
    refine q_ild_n cx dX10_shiftToMeetSoonest_16 rfl (lv_at hl 2 rfl) ?_
    refine q_iconst cx dX10_shiftToMeetSoonest_17 ?_
    refine q_cVi (As := [.int (q_i p0), .int (q_i 0)]) (rest := []) cx hB (fun _ h => h) hN hv kv (by decide) rfl (g_X10_greatestLateness_1 l g hN hB.2.1 v hv kv p0 (by omega) (by omega) 0 (by decide) (by decide)) q_cX10_231 q_dX10_greatestLateness (by decide) rfl rfl hl.1 rfl (Nat.le_of_ble_eq_true rfl) dX10_shiftToMeetSoonest_18 (fun y157 H locs f156 ry157 h158 hF hB => ?_)
    obtain ⟨rfl, ly157, uy157⟩ := h158
    refine lv_istore_n (lv' := [(3, .int (q_i y157)), (2, .int (q_i 0)), (0, .ref v), (1, .int (q_i p0))]) cx.1 cx.2.1 dX10_shiftToMeetSoonest_21 rfl hl (by decide) rfl (fun ls hl => ?_)
    refine q_iconst cx dX10_shiftToMeetSoonest_22 ?_
    refine lv_istore (lv' := [(4, .int (q_i 1)), (3, .int (q_i y157)), (2, .int (q_i 0)), (0, .ref v), (1, .int (q_i p0))]) cx.1 cx.2.1 dX10_shiftToMeetSoonest_23 hl (by decide) rfl (fun ls hl => ?_)
    exact J25 ((Int.toNat (2147483647 - 1)) + 1) 0 (by decide) (by decide) y157 (by omega) (by omega) 1 (by decide) (by decide) (Nat.lt_succ_self _) H locs hB ls (lv_sub hl [3, 4, 2, 1, 0] rfl)
  · refine q_iconst cx dX10_shiftToMeetSoonest_11 ?_
    refine q_iret cx hr hlk hB dX10_shiftToMeetSoonest_12 ⟨by decide, by decide⟩ ?_
    exact ⟨rfl, (by decide), (by decide)⟩
set_option maxHeartbeats 4000000 in
set_option maxRecDepth 100000 in
theorem g_X10_shiftToMeetSoonest_2 (l : Launch) (g : q_G) {K : Nat → Nat} {L : List Nat} (hN : L.Nodup) {f : Nat → va_E} (hT : q_Ty g K L f) (v : Nat) (hv : v ∈ L) (kv : K v = 14) (p0 : Int) (lp0 : (-2147483648) ≤ p0) (up0 : p0 ≤ 2147483647) : q_Ct l g K L yX10_shiftToMeetSoonest cX10_shiftToMeetSoonest 6 (some .int) 6 141 [.ref v, .int (q_i p0)] f [] (q_Pi (fun (z : Int) (f1 : Nat → va_E) => f = f1 ∧ (-1) ≤ z ∧ z ≤ 59)) := by
  refine q_ofb (by decide +kernel) hN hT (Nat.le_of_ble_eq_true rfl) ?_
  intro p e s m below meth c ls cx hr hlk hB hl
  have hl : lv_has ls 6 [(0, .ref v), (1, .int (q_i p0))] := hl
  have J25 : ∀ (n : Nat) (v25_2 : Int) (lv25_2 : 0 ≤ v25_2) (uv25_2 : v25_2 ≤ 59) (v25_3 : Int) (lv25_3 : 0 ≤ v25_3) (uv25_3 : v25_3 ≤ 61) (v25_4 : Int) (lv25_4 : 1 ≤ v25_4) (uv25_4 : v25_4 ≤ 60) (hmu : (Int.toNat (2147483647 - v25_4)) < n) (H : Heap) (locs : List Loc) (hB : q_B g K L (fun q => q ∈ L) [] f f s H locs) (ls : Array Slot) (hl : lv_has ls 6 [(0, .ref v), (1, .int (q_i p0)), (2, .int (q_i v25_2)), (3, .int (q_i v25_3)), (4, .int (q_i v25_4))]), W p l e { frames := 6, cells := 0, slots := 0, locals := 141 } s m ([.ref v, .int (q_i p0)] : List Value).toArray below meth c H locs 0 0 (MQ below (q_Q g K L [] f (q_Pi (fun (z : Int) (f1 : Nat → va_E) => f = f1 ∧ (-1) ≤ z ∧ z ≤ 59))) ([.ref v, .int (q_i p0)] : List Value).toArray s 0 0 (fun q => q ∈ L)) (F0 m 25 ls []) := by
    intro n
    induction n with
    | zero =>
      intro v25_2 lv25_2 uv25_2 v25_3 lv25_3 uv25_3 v25_4 lv25_4 uv25_4 hmu
      exact absurd hmu (Nat.not_lt_zero _)
    | succ n ih25 =>
      intro v25_2 lv25_2 uv25_2 v25_3 lv25_3 uv25_3 v25_4 lv25_4 uv25_4 hmu H locs hB ls hl
      have J55 : ∀ (v55_2 : Int) (lv55_2 : 0 ≤ v55_2) (uv55_2 : v55_2 ≤ 59) (v55_3 : Int) (lv55_3 : 0 ≤ v55_3) (uv55_3 : v55_3 ≤ 61) (buv25_4 : v25_4 ≤ 59) (H : Heap) (locs : List Loc) (hB : q_B g K L (fun q => q ∈ L) [] f f s H locs) (ls : Array Slot) (hl : lv_has ls 6 [(0, .ref v), (1, .int (q_i p0)), (2, .int (q_i v55_2)), (3, .int (q_i v55_3)), (4, .int (q_i v25_4))]), W p l e { frames := 6, cells := 0, slots := 0, locals := 141 } s m ([.ref v, .int (q_i p0)] : List Value).toArray below meth c H locs 0 0 (MQ below (q_Q g K L [] f (q_Pi (fun (z : Int) (f1 : Nat → va_E) => f = f1 ∧ (-1) ≤ z ∧ z ≤ 59))) ([.ref v, .int (q_i p0)] : List Value).toArray s 0 0 (fun q => q ∈ L)) (F0 m 55 ls []) := by
        intro v55_2 lv55_2 uv55_2 v55_3 lv55_3 uv55_3 buv25_4 H locs hB ls hl
        refine q_iinc (lv' := [(4, .int (q_i (v25_4 + 1))), (0, .ref v), (1, .int (q_i p0)), (2, .int (q_i v55_2)), (3, .int (q_i v55_3))]) cx dX10_shiftToMeetSoonest_55 hl (k := 4) rfl (by decide) rfl (fun ls hl => ?_)
        refine lv_goto (tgt := 25) cx.1 cx.2.1 dX10_shiftToMeetSoonest_58 (by decide) ?_
        exact ih25 v55_2 (by omega) (by omega) v55_3 (by omega) (by omega) (v25_4 + 1) (by omega) (by omega) (by omega) H locs hB ls (lv_sub hl [1, 2, 3, 4, 0] rfl)
      refine lv_iload cx.1 cx.2.1 dX10_shiftToMeetSoonest_25 (lv_at hl 4 rfl) ?_
      refine q_ald_n cx dX10_shiftToMeetSoonest_27 rfl (lv_at hl 0 rfl) ?_
      obtain ⟨x143, ex143⟩ : ∃ zz, q_is (q_z f v 6) zz := ⟨_, q_isr _⟩
      refine q_gX10_45_14 cx hB hv kv ex143 dX10_shiftToMeetSoonest_28 (fun lb144 ub144 => ?_)
      refine q_icge (tgt := 61) cx ⟨by omega, by omega⟩ ⟨by omega, by omega⟩ dX10_shiftToMeetSoonest_31 (by decide) (fun c145 => ?_) (fun c145 => ?_)
      · refine q_ild_n cx dX10_shiftToMeetSoonest_61 rfl (lv_at hl 2 rfl) ?_
        refine q_iret cx hr hlk hB dX10_shiftToMeetSoonest_62 ⟨by omega, by omega⟩ ?_
        exact ⟨rfl, (by omega), (by omega)⟩
      · refine q_ald_n cx dX10_shiftToMeetSoonest_34 rfl (lv_at hl 0 rfl) ?_
        refine q_ild_n cx dX10_shiftToMeetSoonest_35 rfl (lv_at hl 1 rfl) ?_
        refine lv_iload cx.1 cx.2.1 dX10_shiftToMeetSoonest_36 (lv_at hl 4 rfl) ?_
        refine q_cVi (As := [.int (q_i p0), .int (q_i v25_4)]) (rest := []) cx hB (fun _ h => h) hN hv kv (by decide) rfl (g_X10_greatestLateness_2 l g hN hB.2.1 v hv kv p0 (by omega) (by omega) v25_4 (by omega) (by omega)) q_cX10_231 q_dX10_greatestLateness (by decide) rfl rfl hl.1 rfl (Nat.le_of_ble_eq_true rfl) dX10_shiftToMeetSoonest_38 (fun y147 H locs f146 ry147 h148 hF hB => ?_)
        obtain ⟨rfl, ly147, uy147⟩ := h148
        refine lv_istore (lv' := [(5, .int (q_i y147)), (0, .ref v), (1, .int (q_i p0)), (2, .int (q_i v25_2)), (3, .int (q_i v25_3)), (4, .int (q_i v25_4))]) cx.1 cx.2.1 dX10_shiftToMeetSoonest_41 hl (by decide) rfl (fun ls hl => ?_)
        refine lv_iload cx.1 cx.2.1 dX10_shiftToMeetSoonest_43 (lv_at hl 0 rfl) ?_
        refine q_ild_n cx dX10_shiftToMeetSoonest_45 rfl (lv_at hl 4 rfl) ?_
        refine q_icge (tgt := 55) cx ⟨by omega, by omega⟩ ⟨by omega, by omega⟩ dX10_shiftToMeetSoonest_46 (by decide) (fun c149 => ?_) (fun c149 => ?_)
        · exact J55 v25_2 (by omega) (by omega) v25_3 (by omega) (by omega) (by omega) H locs hB ls (lv_sub hl [1, 2, 3, 4, 5] rfl)
        · refine lv_iload cx.1 cx.2.1 dX10_shiftToMeetSoonest_49 (lv_at hl 5 rfl) ?_
          refine lv_istore_n (lv' := [(2, .int (q_i v25_4)), (5, .int (q_i y147)), (0, .ref v), (1, .int (q_i p0)), (3, .int (q_i v25_3)), (4, .int (q_i v25_4))]) cx.1 cx.2.1 dX10_shiftToMeetSoonest_51 rfl hl (by decide) rfl (fun ls hl => ?_)
          refine lv_iload cx.1 cx.2.1 dX10_shiftToMeetSoonest_52 (lv_at hl 1 rfl) ?_
          refine lv_istore_n (lv' := [(3, .int (q_i y147)), (2, .int (q_i v25_4)), (5, .int (q_i y147)), (0, .ref v), (1, .int (q_i p0)), (4, .int (q_i v25_4))]) cx.1 cx.2.1 dX10_shiftToMeetSoonest_54 rfl hl (by decide) rfl (fun ls hl => ?_)
          exact J55 v25_4 (by omega) (by omega) y147 (by omega) (by omega) (by omega) H locs hB ls (lv_sub hl [3, 4, 1, 0, 5] rfl)
  obtain ⟨H, hH⟩ : ∃ H : Heap, H = s.heap := ⟨_, rfl⟩
  obtain ⟨locs, hlocs⟩ : ∃ z : List Loc, z = [] := ⟨_, rfl⟩
  rw [← hH, ← hlocs] at hB
  rw [← hH, ← hlocs]
  refine q_ald_n cx dX10_shiftToMeetSoonest_0 rfl (lv_at hl 0 rfl) ?_
  refine q_ild_n cx dX10_shiftToMeetSoonest_1 rfl (lv_at hl 1 rfl) ?_
  refine q_cVr (As := [.int (q_i p0)]) (rest := []) cx hB (fun _ h => h) hN hv kv (by decide) rfl (g_X10_nodeAt_2 l g hN hB.2.1 v hv kv p0 (by omega) (by omega)) q_cX10_66 q_dX10_nodeAt (by decide) rfl rfl hl.1 rfl (Nat.le_of_ble_eq_true rfl) dX10_shiftToMeetSoonest_2 (fun y151 H locs f150 h152 hF hB => ?_)
  obtain ⟨rfl, hy151, ky151⟩ := h152
  obtain ⟨x153, ex153⟩ : ∃ zz, q_is (q_z f y151 5) zz := ⟨_, q_isr _⟩
  refine q_gX10_104_18 cx hB hy151 ky151 ex153 dX10_shiftToMeetSoonest_5 (fun lb154 ub154 => ?_)
  refine q_ifne (tgt := 13) cx ⟨by omega, by omega⟩ dX10_shiftToMeetSoonest_8 (by decide) (fun c155 => ?_) (fun c155 => ?_)
  · refine q_iconst cx dX10_shiftToMeetSoonest_13 ?_
    refine lv_istore_n (lv' := [(2, .int (q_i 0)), (0, .ref v), (1, .int (q_i p0))]) cx.1 cx.2.1 dX10_shiftToMeetSoonest_14 rfl hl (by decide) rfl (fun ls hl => ?_)
    refine q_ald_n cx dX10_shiftToMeetSoonest_15 rfl (lv_at hl 1 rfl) ?_
    refine q_ild_n cx dX10_shiftToMeetSoonest_16 rfl (lv_at hl 2 rfl) ?_
    refine q_iconst cx dX10_shiftToMeetSoonest_17 ?_
    refine q_cVi (As := [.int (q_i p0), .int (q_i 0)]) (rest := []) cx hB (fun _ h => h) hN hv kv (by decide) rfl (g_X10_greatestLateness_2 l g hN hB.2.1 v hv kv p0 (by omega) (by omega) 0 (by decide) (by decide)) q_cX10_231 q_dX10_greatestLateness (by decide) rfl rfl hl.1 rfl (Nat.le_of_ble_eq_true rfl) dX10_shiftToMeetSoonest_18 (fun y157 H locs f156 ry157 h158 hF hB => ?_)
    obtain ⟨rfl, ly157, uy157⟩ := h158
    refine lv_istore_n (lv' := [(3, .int (q_i y157)), (2, .int (q_i 0)), (0, .ref v), (1, .int (q_i p0))]) cx.1 cx.2.1 dX10_shiftToMeetSoonest_21 rfl hl (by decide) rfl (fun ls hl => ?_)
    refine q_iconst cx dX10_shiftToMeetSoonest_22 ?_
    refine lv_istore (lv' := [(4, .int (q_i 1)), (3, .int (q_i y157)), (2, .int (q_i 0)), (0, .ref v), (1, .int (q_i p0))]) cx.1 cx.2.1 dX10_shiftToMeetSoonest_23 hl (by decide) rfl (fun ls hl => ?_)
    exact J25 ((Int.toNat (2147483647 - 1)) + 1) 0 (by decide) (by decide) y157 (by omega) (by omega) 1 (by decide) (by decide) (Nat.lt_succ_self _) H locs hB ls (lv_sub hl [3, 4, 2, 1, 0] rfl)
  · refine q_iconst cx dX10_shiftToMeetSoonest_11 ?_
    refine q_iret cx hr hlk hB dX10_shiftToMeetSoonest_12 ⟨by decide, by decide⟩ ?_
    exact ⟨rfl, (by decide), (by decide)⟩
set_option maxHeartbeats 4000000 in
set_option maxRecDepth 100000 in
theorem g_X10_shiftToMeetSoonest_3 (l : Launch) (g : q_G) {K : Nat → Nat} {L : List Nat} (hN : L.Nodup) {f : Nat → va_E} (hT : q_Ty g K L f) (v : Nat) (hv : v ∈ L) (kv : K v = 15) (p0 : Int) (lp0 : (-2147483648) ≤ p0) (up0 : p0 ≤ 2147483647) : q_Ct l g K L yX10_shiftToMeetSoonest cX10_shiftToMeetSoonest 6 (some .int) 6 141 [.ref v, .int (q_i p0)] f [] (q_Pi (fun (z : Int) (f1 : Nat → va_E) => f = f1 ∧ (-1) ≤ z ∧ z ≤ 59)) := by
  refine q_ofb (by decide +kernel) hN hT (Nat.le_of_ble_eq_true rfl) ?_
  intro p e s m below meth c ls cx hr hlk hB hl
  have hl : lv_has ls 6 [(0, .ref v), (1, .int (q_i p0))] := hl
  have J25 : ∀ (n : Nat) (v25_2 : Int) (lv25_2 : 0 ≤ v25_2) (uv25_2 : v25_2 ≤ 59) (v25_3 : Int) (lv25_3 : 0 ≤ v25_3) (uv25_3 : v25_3 ≤ 61) (v25_4 : Int) (lv25_4 : 1 ≤ v25_4) (uv25_4 : v25_4 ≤ 60) (hmu : (Int.toNat (2147483647 - v25_4)) < n) (H : Heap) (locs : List Loc) (hB : q_B g K L (fun q => q ∈ L) [] f f s H locs) (ls : Array Slot) (hl : lv_has ls 6 [(0, .ref v), (1, .int (q_i p0)), (2, .int (q_i v25_2)), (3, .int (q_i v25_3)), (4, .int (q_i v25_4))]), W p l e { frames := 6, cells := 0, slots := 0, locals := 141 } s m ([.ref v, .int (q_i p0)] : List Value).toArray below meth c H locs 0 0 (MQ below (q_Q g K L [] f (q_Pi (fun (z : Int) (f1 : Nat → va_E) => f = f1 ∧ (-1) ≤ z ∧ z ≤ 59))) ([.ref v, .int (q_i p0)] : List Value).toArray s 0 0 (fun q => q ∈ L)) (F0 m 25 ls []) := by
    intro n
    induction n with
    | zero =>
      intro v25_2 lv25_2 uv25_2 v25_3 lv25_3 uv25_3 v25_4 lv25_4 uv25_4 hmu
      exact absurd hmu (Nat.not_lt_zero _)
    | succ n ih25 =>
      intro v25_2 lv25_2 uv25_2 v25_3 lv25_3 uv25_3 v25_4 lv25_4 uv25_4 hmu H locs hB ls hl
      have J55 : ∀ (v55_2 : Int) (lv55_2 : 0 ≤ v55_2) (uv55_2 : v55_2 ≤ 59) (v55_3 : Int) (lv55_3 : 0 ≤ v55_3) (uv55_3 : v55_3 ≤ 61) (buv25_4 : v25_4 ≤ 59) (H : Heap) (locs : List Loc) (hB : q_B g K L (fun q => q ∈ L) [] f f s H locs) (ls : Array Slot) (hl : lv_has ls 6 [(0, .ref v), (1, .int (q_i p0)), (2, .int (q_i v55_2)), (3, .int (q_i v55_3)), (4, .int (q_i v25_4))]), W p l e { frames := 6, cells := 0, slots := 0, locals := 141 } s m ([.ref v, .int (q_i p0)] : List Value).toArray below meth c H locs 0 0 (MQ below (q_Q g K L [] f (q_Pi (fun (z : Int) (f1 : Nat → va_E) => f = f1 ∧ (-1) ≤ z ∧ z ≤ 59))) ([.ref v, .int (q_i p0)] : List Value).toArray s 0 0 (fun q => q ∈ L)) (F0 m 55 ls []) := by
        intro v55_2 lv55_2 uv55_2 v55_3 lv55_3 uv55_3 buv25_4 H locs hB ls hl
        refine q_iinc (lv' := [(4, .int (q_i (v25_4 + 1))), (0, .ref v), (1, .int (q_i p0)), (2, .int (q_i v55_2)), (3, .int (q_i v55_3))]) cx dX10_shiftToMeetSoonest_55 hl (k := 4) rfl (by decide) rfl (fun ls hl => ?_)
        refine lv_goto (tgt := 25) cx.1 cx.2.1 dX10_shiftToMeetSoonest_58 (by decide) ?_
        exact ih25 v55_2 (by omega) (by omega) v55_3 (by omega) (by omega) (v25_4 + 1) (by omega) (by omega) (by omega) H locs hB ls (lv_sub hl [1, 2, 3, 4, 0] rfl)
      refine lv_iload cx.1 cx.2.1 dX10_shiftToMeetSoonest_25 (lv_at hl 4 rfl) ?_
      refine q_ald_n cx dX10_shiftToMeetSoonest_27 rfl (lv_at hl 0 rfl) ?_
      obtain ⟨x143, ex143⟩ : ∃ zz, q_is (q_z f v 6) zz := ⟨_, q_isr _⟩
      refine q_gX10_45_15 cx hB hv kv ex143 dX10_shiftToMeetSoonest_28 (fun lb144 ub144 => ?_)
      refine q_icge (tgt := 61) cx ⟨by omega, by omega⟩ ⟨by omega, by omega⟩ dX10_shiftToMeetSoonest_31 (by decide) (fun c145 => ?_) (fun c145 => ?_)
      · refine q_ild_n cx dX10_shiftToMeetSoonest_61 rfl (lv_at hl 2 rfl) ?_
        refine q_iret cx hr hlk hB dX10_shiftToMeetSoonest_62 ⟨by omega, by omega⟩ ?_
        exact ⟨rfl, (by omega), (by omega)⟩
      · refine q_ald_n cx dX10_shiftToMeetSoonest_34 rfl (lv_at hl 0 rfl) ?_
        refine q_ild_n cx dX10_shiftToMeetSoonest_35 rfl (lv_at hl 1 rfl) ?_
        refine lv_iload cx.1 cx.2.1 dX10_shiftToMeetSoonest_36 (lv_at hl 4 rfl) ?_
        refine q_cVi (As := [.int (q_i p0), .int (q_i v25_4)]) (rest := []) cx hB (fun _ h => h) hN hv kv (by decide) rfl (g_X10_greatestLateness_3 l g hN hB.2.1 v hv kv p0 (by omega) (by omega) v25_4 (by omega) (by omega)) q_cX10_231 q_dX10_greatestLateness (by decide) rfl rfl hl.1 rfl (Nat.le_of_ble_eq_true rfl) dX10_shiftToMeetSoonest_38 (fun y147 H locs f146 ry147 h148 hF hB => ?_)
        obtain ⟨rfl, ly147, uy147⟩ := h148
        refine lv_istore (lv' := [(5, .int (q_i y147)), (0, .ref v), (1, .int (q_i p0)), (2, .int (q_i v25_2)), (3, .int (q_i v25_3)), (4, .int (q_i v25_4))]) cx.1 cx.2.1 dX10_shiftToMeetSoonest_41 hl (by decide) rfl (fun ls hl => ?_)
        refine lv_iload cx.1 cx.2.1 dX10_shiftToMeetSoonest_43 (lv_at hl 0 rfl) ?_
        refine q_ild_n cx dX10_shiftToMeetSoonest_45 rfl (lv_at hl 4 rfl) ?_
        refine q_icge (tgt := 55) cx ⟨by omega, by omega⟩ ⟨by omega, by omega⟩ dX10_shiftToMeetSoonest_46 (by decide) (fun c149 => ?_) (fun c149 => ?_)
        · exact J55 v25_2 (by omega) (by omega) v25_3 (by omega) (by omega) (by omega) H locs hB ls (lv_sub hl [1, 2, 3, 4, 5] rfl)
        · refine lv_iload cx.1 cx.2.1 dX10_shiftToMeetSoonest_49 (lv_at hl 5 rfl) ?_
          refine lv_istore_n (lv' := [(2, .int (q_i v25_4)), (5, .int (q_i y147)), (0, .ref v), (1, .int (q_i p0)), (3, .int (q_i v25_3)), (4, .int (q_i v25_4))]) cx.1 cx.2.1 dX10_shiftToMeetSoonest_51 rfl hl (by decide) rfl (fun ls hl => ?_)
          refine lv_iload cx.1 cx.2.1 dX10_shiftToMeetSoonest_52 (lv_at hl 1 rfl) ?_
          refine lv_istore_n (lv' := [(3, .int (q_i y147)), (2, .int (q_i v25_4)), (5, .int (q_i y147)), (0, .ref v), (1, .int (q_i p0)), (4, .int (q_i v25_4))]) cx.1 cx.2.1 dX10_shiftToMeetSoonest_54 rfl hl (by decide) rfl (fun ls hl => ?_)
          exact J55 v25_4 (by omega) (by omega) y147 (by omega) (by omega) (by omega) H locs hB ls (lv_sub hl [3, 4, 1, 0, 5] rfl)
  obtain ⟨H, hH⟩ : ∃ H : Heap, H = s.heap := ⟨_, rfl⟩
  obtain ⟨locs, hlocs⟩ : ∃ z : List Loc, z = [] := ⟨_, rfl⟩
  rw [← hH, ← hlocs] at hB
  rw [← hH, ← hlocs]
  refine q_ald_n cx dX10_shiftToMeetSoonest_0 rfl (lv_at hl 0 rfl) ?_
  refine q_ild_n cx dX10_shiftToMeetSoonest_1 rfl (lv_at hl 1 rfl) ?_
  refine q_cVr (As := [.int (q_i p0)]) (rest := []) cx hB (fun _ h => h) hN hv kv (by decide) rfl (g_X10_nodeAt_3 l g hN hB.2.1 v hv kv p0 (by omega) (by omega)) q_cX10_66 q_dX10_nodeAt (by decide) rfl rfl hl.1 rfl (Nat.le_of_ble_eq_true rfl) dX10_shiftToMeetSoonest_2 (fun y151 H locs f150 h152 hF hB => ?_)
  obtain ⟨rfl, hy151, ky151⟩ := h152
  obtain ⟨x153, ex153⟩ : ∃ zz, q_is (q_z f y151 5) zz := ⟨_, q_isr _⟩
  refine q_gX10_104_19 cx hB hy151 ky151 ex153 dX10_shiftToMeetSoonest_5 (fun lb154 ub154 => ?_)
  refine q_ifne (tgt := 13) cx ⟨by omega, by omega⟩ dX10_shiftToMeetSoonest_8 (by decide) (fun c155 => ?_) (fun c155 => ?_)
  · refine q_iconst cx dX10_shiftToMeetSoonest_13 ?_
    refine lv_istore_n (lv' := [(2, .int (q_i 0)), (0, .ref v), (1, .int (q_i p0))]) cx.1 cx.2.1 dX10_shiftToMeetSoonest_14 rfl hl (by decide) rfl (fun ls hl => ?_)
    refine q_ald_n cx dX10_shiftToMeetSoonest_15 rfl (lv_at hl 1 rfl) ?_
    refine q_ild_n cx dX10_shiftToMeetSoonest_16 rfl (lv_at hl 2 rfl) ?_
    refine q_iconst cx dX10_shiftToMeetSoonest_17 ?_
    refine q_cVi (As := [.int (q_i p0), .int (q_i 0)]) (rest := []) cx hB (fun _ h => h) hN hv kv (by decide) rfl (g_X10_greatestLateness_3 l g hN hB.2.1 v hv kv p0 (by omega) (by omega) 0 (by decide) (by decide)) q_cX10_231 q_dX10_greatestLateness (by decide) rfl rfl hl.1 rfl (Nat.le_of_ble_eq_true rfl) dX10_shiftToMeetSoonest_18 (fun y157 H locs f156 ry157 h158 hF hB => ?_)
    obtain ⟨rfl, ly157, uy157⟩ := h158
    refine lv_istore_n (lv' := [(3, .int (q_i y157)), (2, .int (q_i 0)), (0, .ref v), (1, .int (q_i p0))]) cx.1 cx.2.1 dX10_shiftToMeetSoonest_21 rfl hl (by decide) rfl (fun ls hl => ?_)
    refine q_iconst cx dX10_shiftToMeetSoonest_22 ?_
    refine lv_istore (lv' := [(4, .int (q_i 1)), (3, .int (q_i y157)), (2, .int (q_i 0)), (0, .ref v), (1, .int (q_i p0))]) cx.1 cx.2.1 dX10_shiftToMeetSoonest_23 hl (by decide) rfl (fun ls hl => ?_)
    exact J25 ((Int.toNat (2147483647 - 1)) + 1) 0 (by decide) (by decide) y157 (by omega) (by omega) 1 (by decide) (by decide) (Nat.lt_succ_self _) H locs hB ls (lv_sub hl [3, 4, 2, 1, 0] rfl)
  · refine q_iconst cx dX10_shiftToMeetSoonest_11 ?_
    refine q_iret cx hr hlk hB dX10_shiftToMeetSoonest_12 ⟨by decide, by decide⟩ ?_
    exact ⟨rfl, (by decide), (by decide)⟩
set_option maxHeartbeats 4000000 in
set_option maxRecDepth 100000 in
theorem g_X10_shiftToMeetSoonest_4 (l : Launch) (g : q_G) {K : Nat → Nat} {L : List Nat} (hN : L.Nodup) {f : Nat → va_E} (hT : q_Ty g K L f) (v : Nat) (hv : v ∈ L) (kv : K v = 16) (p0 : Int) (lp0 : (-2147483648) ≤ p0) (up0 : p0 ≤ 2147483647) : q_Ct l g K L yX10_shiftToMeetSoonest cX10_shiftToMeetSoonest 6 (some .int) 6 141 [.ref v, .int (q_i p0)] f [] (q_Pi (fun (z : Int) (f1 : Nat → va_E) => f = f1 ∧ (-1) ≤ z ∧ z ≤ 59)) := by
  refine q_ofb (by decide +kernel) hN hT (Nat.le_of_ble_eq_true rfl) ?_
  intro p e s m below meth c ls cx hr hlk hB hl
  have hl : lv_has ls 6 [(0, .ref v), (1, .int (q_i p0))] := hl
  have J25 : ∀ (n : Nat) (v25_2 : Int) (lv25_2 : 0 ≤ v25_2) (uv25_2 : v25_2 ≤ 59) (v25_3 : Int) (lv25_3 : 0 ≤ v25_3) (uv25_3 : v25_3 ≤ 61) (v25_4 : Int) (lv25_4 : 1 ≤ v25_4) (uv25_4 : v25_4 ≤ 60) (hmu : (Int.toNat (2147483647 - v25_4)) < n) (H : Heap) (locs : List Loc) (hB : q_B g K L (fun q => q ∈ L) [] f f s H locs) (ls : Array Slot) (hl : lv_has ls 6 [(0, .ref v), (1, .int (q_i p0)), (2, .int (q_i v25_2)), (3, .int (q_i v25_3)), (4, .int (q_i v25_4))]), W p l e { frames := 6, cells := 0, slots := 0, locals := 141 } s m ([.ref v, .int (q_i p0)] : List Value).toArray below meth c H locs 0 0 (MQ below (q_Q g K L [] f (q_Pi (fun (z : Int) (f1 : Nat → va_E) => f = f1 ∧ (-1) ≤ z ∧ z ≤ 59))) ([.ref v, .int (q_i p0)] : List Value).toArray s 0 0 (fun q => q ∈ L)) (F0 m 25 ls []) := by
    intro n
    induction n with
    | zero =>
      intro v25_2 lv25_2 uv25_2 v25_3 lv25_3 uv25_3 v25_4 lv25_4 uv25_4 hmu
      exact absurd hmu (Nat.not_lt_zero _)
    | succ n ih25 =>
      intro v25_2 lv25_2 uv25_2 v25_3 lv25_3 uv25_3 v25_4 lv25_4 uv25_4 hmu H locs hB ls hl
      have J55 : ∀ (v55_2 : Int) (lv55_2 : 0 ≤ v55_2) (uv55_2 : v55_2 ≤ 59) (v55_3 : Int) (lv55_3 : 0 ≤ v55_3) (uv55_3 : v55_3 ≤ 61) (buv25_4 : v25_4 ≤ 59) (H : Heap) (locs : List Loc) (hB : q_B g K L (fun q => q ∈ L) [] f f s H locs) (ls : Array Slot) (hl : lv_has ls 6 [(0, .ref v), (1, .int (q_i p0)), (2, .int (q_i v55_2)), (3, .int (q_i v55_3)), (4, .int (q_i v25_4))]), W p l e { frames := 6, cells := 0, slots := 0, locals := 141 } s m ([.ref v, .int (q_i p0)] : List Value).toArray below meth c H locs 0 0 (MQ below (q_Q g K L [] f (q_Pi (fun (z : Int) (f1 : Nat → va_E) => f = f1 ∧ (-1) ≤ z ∧ z ≤ 59))) ([.ref v, .int (q_i p0)] : List Value).toArray s 0 0 (fun q => q ∈ L)) (F0 m 55 ls []) := by
        intro v55_2 lv55_2 uv55_2 v55_3 lv55_3 uv55_3 buv25_4 H locs hB ls hl
        refine q_iinc (lv' := [(4, .int (q_i (v25_4 + 1))), (0, .ref v), (1, .int (q_i p0)), (2, .int (q_i v55_2)), (3, .int (q_i v55_3))]) cx dX10_shiftToMeetSoonest_55 hl (k := 4) rfl (by decide) rfl (fun ls hl => ?_)
        refine lv_goto (tgt := 25) cx.1 cx.2.1 dX10_shiftToMeetSoonest_58 (by decide) ?_
        exact ih25 v55_2 (by omega) (by omega) v55_3 (by omega) (by omega) (v25_4 + 1) (by omega) (by omega) (by omega) H locs hB ls (lv_sub hl [1, 2, 3, 4, 0] rfl)
      refine lv_iload cx.1 cx.2.1 dX10_shiftToMeetSoonest_25 (lv_at hl 4 rfl) ?_
      refine q_ald_n cx dX10_shiftToMeetSoonest_27 rfl (lv_at hl 0 rfl) ?_
      obtain ⟨x143, ex143⟩ : ∃ zz, q_is (q_z f v 6) zz := ⟨_, q_isr _⟩
      refine q_gX10_45_16 cx hB hv kv ex143 dX10_shiftToMeetSoonest_28 (fun lb144 ub144 => ?_)
      refine q_icge (tgt := 61) cx ⟨by omega, by omega⟩ ⟨by omega, by omega⟩ dX10_shiftToMeetSoonest_31 (by decide) (fun c145 => ?_) (fun c145 => ?_)
      · refine q_ild_n cx dX10_shiftToMeetSoonest_61 rfl (lv_at hl 2 rfl) ?_
        refine q_iret cx hr hlk hB dX10_shiftToMeetSoonest_62 ⟨by omega, by omega⟩ ?_
        exact ⟨rfl, (by omega), (by omega)⟩
      · refine q_ald_n cx dX10_shiftToMeetSoonest_34 rfl (lv_at hl 0 rfl) ?_
        refine q_ild_n cx dX10_shiftToMeetSoonest_35 rfl (lv_at hl 1 rfl) ?_
        refine lv_iload cx.1 cx.2.1 dX10_shiftToMeetSoonest_36 (lv_at hl 4 rfl) ?_
        refine q_cVi (As := [.int (q_i p0), .int (q_i v25_4)]) (rest := []) cx hB (fun _ h => h) hN hv kv (by decide) rfl (g_X10_greatestLateness_4 l g hN hB.2.1 v hv kv p0 (by omega) (by omega) v25_4 (by omega) (by omega)) q_cX10_231 q_dX10_greatestLateness (by decide) rfl rfl hl.1 rfl (Nat.le_of_ble_eq_true rfl) dX10_shiftToMeetSoonest_38 (fun y147 H locs f146 ry147 h148 hF hB => ?_)
        obtain ⟨rfl, ly147, uy147⟩ := h148
        refine lv_istore (lv' := [(5, .int (q_i y147)), (0, .ref v), (1, .int (q_i p0)), (2, .int (q_i v25_2)), (3, .int (q_i v25_3)), (4, .int (q_i v25_4))]) cx.1 cx.2.1 dX10_shiftToMeetSoonest_41 hl (by decide) rfl (fun ls hl => ?_)
        refine lv_iload cx.1 cx.2.1 dX10_shiftToMeetSoonest_43 (lv_at hl 0 rfl) ?_
        refine q_ild_n cx dX10_shiftToMeetSoonest_45 rfl (lv_at hl 4 rfl) ?_
        refine q_icge (tgt := 55) cx ⟨by omega, by omega⟩ ⟨by omega, by omega⟩ dX10_shiftToMeetSoonest_46 (by decide) (fun c149 => ?_) (fun c149 => ?_)
        · exact J55 v25_2 (by omega) (by omega) v25_3 (by omega) (by omega) (by omega) H locs hB ls (lv_sub hl [1, 2, 3, 4, 5] rfl)
        · refine lv_iload cx.1 cx.2.1 dX10_shiftToMeetSoonest_49 (lv_at hl 5 rfl) ?_
          refine lv_istore_n (lv' := [(2, .int (q_i v25_4)), (5, .int (q_i y147)), (0, .ref v), (1, .int (q_i p0)), (3, .int (q_i v25_3)), (4, .int (q_i v25_4))]) cx.1 cx.2.1 dX10_shiftToMeetSoonest_51 rfl hl (by decide) rfl (fun ls hl => ?_)
          refine lv_iload cx.1 cx.2.1 dX10_shiftToMeetSoonest_52 (lv_at hl 1 rfl) ?_
          refine lv_istore_n (lv' := [(3, .int (q_i y147)), (2, .int (q_i v25_4)), (5, .int (q_i y147)), (0, .ref v), (1, .int (q_i p0)), (4, .int (q_i v25_4))]) cx.1 cx.2.1 dX10_shiftToMeetSoonest_54 rfl hl (by decide) rfl (fun ls hl => ?_)
          exact J55 v25_4 (by omega) (by omega) y147 (by omega) (by omega) (by omega) H locs hB ls (lv_sub hl [3, 4, 1, 0, 5] rfl)
  obtain ⟨H, hH⟩ : ∃ H : Heap, H = s.heap := ⟨_, rfl⟩
  obtain ⟨locs, hlocs⟩ : ∃ z : List Loc, z = [] := ⟨_, rfl⟩
  rw [← hH, ← hlocs] at hB
  rw [← hH, ← hlocs]
  refine q_ald_n cx dX10_shiftToMeetSoonest_0 rfl (lv_at hl 0 rfl) ?_
  refine q_ild_n cx dX10_shiftToMeetSoonest_1 rfl (lv_at hl 1 rfl) ?_
  refine q_cVr (As := [.int (q_i p0)]) (rest := []) cx hB (fun _ h => h) hN hv kv (by decide) rfl (g_X10_nodeAt_4 l g hN hB.2.1 v hv kv p0 (by omega) (by omega)) q_cX10_66 q_dX10_nodeAt (by decide) rfl rfl hl.1 rfl (Nat.le_of_ble_eq_true rfl) dX10_shiftToMeetSoonest_2 (fun y151 H locs f150 h152 hF hB => ?_)
  obtain ⟨rfl, hy151, ky151⟩ := h152
  obtain ⟨x153, ex153⟩ : ∃ zz, q_is (q_z f y151 5) zz := ⟨_, q_isr _⟩
  refine q_gX10_104_20 cx hB hy151 ky151 ex153 dX10_shiftToMeetSoonest_5 (fun lb154 ub154 => ?_)
  refine q_ifne (tgt := 13) cx ⟨by omega, by omega⟩ dX10_shiftToMeetSoonest_8 (by decide) (fun c155 => ?_) (fun c155 => ?_)
  · refine q_iconst cx dX10_shiftToMeetSoonest_13 ?_
    refine lv_istore_n (lv' := [(2, .int (q_i 0)), (0, .ref v), (1, .int (q_i p0))]) cx.1 cx.2.1 dX10_shiftToMeetSoonest_14 rfl hl (by decide) rfl (fun ls hl => ?_)
    refine q_ald_n cx dX10_shiftToMeetSoonest_15 rfl (lv_at hl 1 rfl) ?_
    refine q_ild_n cx dX10_shiftToMeetSoonest_16 rfl (lv_at hl 2 rfl) ?_
    refine q_iconst cx dX10_shiftToMeetSoonest_17 ?_
    refine q_cVi (As := [.int (q_i p0), .int (q_i 0)]) (rest := []) cx hB (fun _ h => h) hN hv kv (by decide) rfl (g_X10_greatestLateness_4 l g hN hB.2.1 v hv kv p0 (by omega) (by omega) 0 (by decide) (by decide)) q_cX10_231 q_dX10_greatestLateness (by decide) rfl rfl hl.1 rfl (Nat.le_of_ble_eq_true rfl) dX10_shiftToMeetSoonest_18 (fun y157 H locs f156 ry157 h158 hF hB => ?_)
    obtain ⟨rfl, ly157, uy157⟩ := h158
    refine lv_istore_n (lv' := [(3, .int (q_i y157)), (2, .int (q_i 0)), (0, .ref v), (1, .int (q_i p0))]) cx.1 cx.2.1 dX10_shiftToMeetSoonest_21 rfl hl (by decide) rfl (fun ls hl => ?_)
    refine q_iconst cx dX10_shiftToMeetSoonest_22 ?_
    refine lv_istore (lv' := [(4, .int (q_i 1)), (3, .int (q_i y157)), (2, .int (q_i 0)), (0, .ref v), (1, .int (q_i p0))]) cx.1 cx.2.1 dX10_shiftToMeetSoonest_23 hl (by decide) rfl (fun ls hl => ?_)
    exact J25 ((Int.toNat (2147483647 - 1)) + 1) 0 (by decide) (by decide) y157 (by omega) (by omega) 1 (by decide) (by decide) (Nat.lt_succ_self _) H locs hB ls (lv_sub hl [3, 4, 2, 1, 0] rfl)
  · refine q_iconst cx dX10_shiftToMeetSoonest_11 ?_
    refine q_iret cx hr hlk hB dX10_shiftToMeetSoonest_12 ⟨by decide, by decide⟩ ?_
    exact ⟨rfl, (by decide), (by decide)⟩
set_option maxHeartbeats 4000000 in
set_option maxRecDepth 100000 in
theorem g_X10_hopsBetween (l : Launch) (g : q_G) {K : Nat → Nat} {L : List Nat} (hN : L.Nodup) {f : Nat → va_E} (hT : q_Ty g K L f) (v : Nat) (hv : v ∈ L) (kv : K v = 10) (p0 : Int) (lp0 : (-2147483648) ≤ p0) (up0 : p0 ≤ 2147483647) (p1 : Int) (lp1 : (-2147483648) ≤ p1) (up1 : p1 ≤ 2147483647) : q_Ct l g K L yX10_hopsBetween cX10_hopsBetween 6 (some .int) 2 43 [.ref v, .int (q_i p0), .int (q_i p1)] f [] (q_Pi (fun (z : Int) (f1 : Nat → va_E) => f = f1 ∧ (-1) ≤ z ∧ z ≤ 9)) := by
  refine q_ofb (by decide +kernel) hN hT (Nat.le_of_ble_eq_true rfl) ?_
  intro p e s m below meth c ls cx hr hlk hB hl
  have hl : lv_has ls 6 [(0, .ref v), (1, .int (q_i p0)), (2, .int (q_i p1))] := hl
  have J15 : ∀ (n : Nat) (v15_3 : Int) (lv15_3 : (-2147483648) ≤ v15_3) (uv15_3 : v15_3 ≤ 2147483647) (v15_4 : Int) (lv15_4 : (-2147483648) ≤ v15_4) (uv15_4 : v15_4 ≤ 2147483647) (v15_5 : Int) (lv15_5 : 0 ≤ v15_5) (uv15_5 : v15_5 ≤ 10) (hmu : (Int.toNat (2147483647 - v15_5)) < n) (H : Heap) (locs : List Loc) (hB : q_B g K L (fun q => q ∈ L) [] f f s H locs) (ls : Array Slot) (hl : lv_has ls 6 [(0, .ref v), (2, .int (q_i p1)), (3, .int (q_i v15_3)), (4, .int (q_i v15_4)), (5, .int (q_i v15_5))]), W p l e { frames := 2, cells := 0, slots := 0, locals := 43 } s m ([.ref v, .int (q_i p0), .int (q_i p1)] : List Value).toArray below meth c H locs 0 0 (MQ below (q_Q g K L [] f (q_Pi (fun (z : Int) (f1 : Nat → va_E) => f = f1 ∧ (-1) ≤ z ∧ z ≤ 9))) ([.ref v, .int (q_i p0), .int (q_i p1)] : List Value).toArray s 0 0 (fun q => q ∈ L)) (F0 m 15 ls []) := by
    intro n
    induction n with
    | zero =>
      intro v15_3 lv15_3 uv15_3 v15_4 lv15_4 uv15_4 v15_5 lv15_5 uv15_5 hmu
      exact absurd hmu (Nat.not_lt_zero _)
    | succ n ih15 =>
      intro v15_3 lv15_3 uv15_3 v15_4 lv15_4 uv15_4 v15_5 lv15_5 uv15_5 hmu H locs hB ls hl
      refine lv_iload cx.1 cx.2.1 dX10_hopsBetween_15 (lv_at hl 4 rfl) ?_
      refine q_bipush cx dX10_hopsBetween_17 rfl ?_
      refine q_icge (tgt := 49) cx ⟨by omega, by omega⟩ ⟨by decide, by decide⟩ dX10_hopsBetween_19 (by decide) (fun c86 => ?_) (fun c86 => ?_)
      · refine q_iconst cx dX10_hopsBetween_49 ?_
        refine q_iret cx hr hlk hB dX10_hopsBetween_50 ⟨by decide, by decide⟩ ?_
        exact ⟨rfl, (by decide), (by decide)⟩
      · refine lv_iload cx.1 cx.2.1 dX10_hopsBetween_22 (lv_at hl 3 rfl) ?_
        refine q_ild_n cx dX10_hopsBetween_24 rfl (lv_at hl 1 rfl) ?_
        refine q_cSi (As := [.int (q_i v15_4), .int (q_i p1)]) (rest := []) cx hB (fun _ h => h) hN (g_X10_has l g hN hB.2.1 v15_4 (by omega) (by omega) p1 (by omega) (by omega)) q_cX10_181 q_dX10_has (by decide) rfl rfl hl.1 rfl (Nat.le_of_ble_eq_true rfl) dX10_hopsBetween_25 (fun y88 H locs f87 ry88 h89 hF hB => ?_)
        obtain ⟨rfl, ly88, uy88⟩ := h89
        refine q_ifeq (tgt := 34) cx ⟨by omega, by omega⟩ dX10_hopsBetween_28 (by decide) (fun c90 => ?_) (fun c90 => ?_)
        · refine q_ald_n cx dX10_hopsBetween_34 rfl (lv_at hl 0 rfl) ?_
          refine lv_iload cx.1 cx.2.1 dX10_hopsBetween_35 (lv_at hl 3 rfl) ?_
          refine q_ild_n cx dX10_hopsBetween_37 rfl (lv_at hl 2 rfl) ?_
          refine q_cVi (As := [.int (q_i v15_4), .int (q_i v15_3)]) (rest := []) cx hB (fun _ h => h) hN hv kv (by decide) rfl (g_X10_grown l g hN hB.2.1 v hv kv v15_4 (by omega) (by omega) v15_3 (by omega) (by omega)) q_cX10_234 q_dX10_grown (by decide) rfl rfl hl.1 rfl (Nat.le_of_ble_eq_true rfl) dX10_hopsBetween_38 (fun y92 H locs f91 ry92 h93 hF hB => ?_)
          obtain rfl := h93
          refine lv_istore (lv' := [(4, .int (q_i y92)), (0, .ref v), (2, .int (q_i p1)), (3, .int (q_i v15_3)), (5, .int (q_i v15_5))]) cx.1 cx.2.1 dX10_hopsBetween_41 hl (by decide) rfl (fun ls hl => ?_)
          refine q_iinc (lv' := [(5, .int (q_i (v15_5 + 1))), (4, .int (q_i y92)), (0, .ref v), (2, .int (q_i p1)), (3, .int (q_i v15_3))]) cx dX10_hopsBetween_43 hl (k := 4) rfl (by decide) rfl (fun ls hl => ?_)
          refine lv_goto (tgt := 15) cx.1 cx.2.1 dX10_hopsBetween_46 (by decide) ?_
          exact ih15 v15_3 (by omega) (by omega) y92 (by omega) (by omega) (v15_5 + 1) (by omega) (by omega) (by omega) H locs hB ls (lv_sub hl [2, 3, 4, 1, 0] rfl)
        · refine lv_iload cx.1 cx.2.1 dX10_hopsBetween_31 (lv_at hl 4 rfl) ?_
          refine q_iret cx hr hlk hB dX10_hopsBetween_33 ⟨by omega, by omega⟩ ?_
          exact ⟨rfl, (by omega), (by omega)⟩
  obtain ⟨H, hH⟩ : ∃ H : Heap, H = s.heap := ⟨_, rfl⟩
  obtain ⟨locs, hlocs⟩ : ∃ z : List Loc, z = [] := ⟨_, rfl⟩
  rw [← hH, ← hlocs] at hB
  rw [← hH, ← hlocs]
  refine q_ald_n cx dX10_hopsBetween_0 rfl (lv_at hl 0 rfl) ?_
  refine q_cVi (As := []) (rest := []) cx hB (fun _ h => h) hN hv kv (by decide) rfl (g_X10_notOut l g hN hB.2.1 v hv kv) q_cX10_195 q_dX10_notOut (by decide) rfl rfl hl.1 rfl (Nat.le_of_ble_eq_true rfl) dX10_hopsBetween_1 (fun y95 H locs f94 ry95 h96 hF hB => ?_)
  obtain rfl := h96
  refine lv_istore_n (lv' := [(3, .int (q_i y95)), (0, .ref v), (1, .int (q_i p0)), (2, .int (q_i p1))]) cx.1 cx.2.1 dX10_hopsBetween_4 rfl hl (by decide) rfl (fun ls hl => ?_)
  refine q_iconst cx dX10_hopsBetween_5 ?_
  refine q_ild_n cx dX10_hopsBetween_6 rfl (lv_at hl 2 rfl) ?_
  refine q_ishl cx dX10_hopsBetween_7 (fun y97 ry97 ey97 => ?_)
  refine q_ild_n cx dX10_hopsBetween_8 rfl (lv_at hl 0 rfl) ?_
  refine q_iand cx dX10_hopsBetween_9 (fun y98 ry98 ey98 => ?_)
  refine lv_istore (lv' := [(4, .int (q_i y98)), (3, .int (q_i y95)), (0, .ref v), (1, .int (q_i p0)), (2, .int (q_i p1))]) cx.1 cx.2.1 dX10_hopsBetween_10 hl (by decide) rfl (fun ls hl => ?_)
  refine q_iconst cx dX10_hopsBetween_12 ?_
  refine lv_istore (lv' := [(5, .int (q_i 0)), (4, .int (q_i y98)), (3, .int (q_i y95)), (0, .ref v), (1, .int (q_i p0)), (2, .int (q_i p1))]) cx.1 cx.2.1 dX10_hopsBetween_13 hl (by decide) rfl (fun ls hl => ?_)
  exact J15 ((Int.toNat (2147483647 - 0)) + 1) y95 (by omega) (by omega) y98 (by omega) (by omega) 0 (by decide) (by decide) (Nat.lt_succ_self _) H locs hB ls (lv_sub hl [3, 5, 2, 1, 0] rfl)
set_option maxHeartbeats 4000000 in
set_option maxRecDepth 100000 in
theorem g_X10_hopsBetween_1 (l : Launch) (g : q_G) {K : Nat → Nat} {L : List Nat} (hN : L.Nodup) {f : Nat → va_E} (hT : q_Ty g K L f) (v : Nat) (hv : v ∈ L) (kv : K v = 13) (p0 : Int) (lp0 : (-2147483648) ≤ p0) (up0 : p0 ≤ 2147483647) (p1 : Int) (lp1 : (-2147483648) ≤ p1) (up1 : p1 ≤ 2147483647) : q_Ct l g K L yX10_hopsBetween cX10_hopsBetween 6 (some .int) 2 43 [.ref v, .int (q_i p0), .int (q_i p1)] f [] (q_Pi (fun (z : Int) (f1 : Nat → va_E) => f = f1 ∧ (-1) ≤ z ∧ z ≤ 9)) := by
  refine q_ofb (by decide +kernel) hN hT (Nat.le_of_ble_eq_true rfl) ?_
  intro p e s m below meth c ls cx hr hlk hB hl
  have hl : lv_has ls 6 [(0, .ref v), (1, .int (q_i p0)), (2, .int (q_i p1))] := hl
  have J15 : ∀ (n : Nat) (v15_3 : Int) (lv15_3 : (-2147483648) ≤ v15_3) (uv15_3 : v15_3 ≤ 2147483647) (v15_4 : Int) (lv15_4 : (-2147483648) ≤ v15_4) (uv15_4 : v15_4 ≤ 2147483647) (v15_5 : Int) (lv15_5 : 0 ≤ v15_5) (uv15_5 : v15_5 ≤ 10) (hmu : (Int.toNat (2147483647 - v15_5)) < n) (H : Heap) (locs : List Loc) (hB : q_B g K L (fun q => q ∈ L) [] f f s H locs) (ls : Array Slot) (hl : lv_has ls 6 [(0, .ref v), (2, .int (q_i p1)), (3, .int (q_i v15_3)), (4, .int (q_i v15_4)), (5, .int (q_i v15_5))]), W p l e { frames := 2, cells := 0, slots := 0, locals := 43 } s m ([.ref v, .int (q_i p0), .int (q_i p1)] : List Value).toArray below meth c H locs 0 0 (MQ below (q_Q g K L [] f (q_Pi (fun (z : Int) (f1 : Nat → va_E) => f = f1 ∧ (-1) ≤ z ∧ z ≤ 9))) ([.ref v, .int (q_i p0), .int (q_i p1)] : List Value).toArray s 0 0 (fun q => q ∈ L)) (F0 m 15 ls []) := by
    intro n
    induction n with
    | zero =>
      intro v15_3 lv15_3 uv15_3 v15_4 lv15_4 uv15_4 v15_5 lv15_5 uv15_5 hmu
      exact absurd hmu (Nat.not_lt_zero _)
    | succ n ih15 =>
      intro v15_3 lv15_3 uv15_3 v15_4 lv15_4 uv15_4 v15_5 lv15_5 uv15_5 hmu H locs hB ls hl
      refine lv_iload cx.1 cx.2.1 dX10_hopsBetween_15 (lv_at hl 4 rfl) ?_
      refine q_bipush cx dX10_hopsBetween_17 rfl ?_
      refine q_icge (tgt := 49) cx ⟨by omega, by omega⟩ ⟨by decide, by decide⟩ dX10_hopsBetween_19 (by decide) (fun c86 => ?_) (fun c86 => ?_)
      · refine q_iconst cx dX10_hopsBetween_49 ?_
        refine q_iret cx hr hlk hB dX10_hopsBetween_50 ⟨by decide, by decide⟩ ?_
        exact ⟨rfl, (by decide), (by decide)⟩
      · refine lv_iload cx.1 cx.2.1 dX10_hopsBetween_22 (lv_at hl 3 rfl) ?_
        refine q_ild_n cx dX10_hopsBetween_24 rfl (lv_at hl 1 rfl) ?_
        refine q_cSi (As := [.int (q_i v15_4), .int (q_i p1)]) (rest := []) cx hB (fun _ h => h) hN (g_X10_has l g hN hB.2.1 v15_4 (by omega) (by omega) p1 (by omega) (by omega)) q_cX10_181 q_dX10_has (by decide) rfl rfl hl.1 rfl (Nat.le_of_ble_eq_true rfl) dX10_hopsBetween_25 (fun y88 H locs f87 ry88 h89 hF hB => ?_)
        obtain ⟨rfl, ly88, uy88⟩ := h89
        refine q_ifeq (tgt := 34) cx ⟨by omega, by omega⟩ dX10_hopsBetween_28 (by decide) (fun c90 => ?_) (fun c90 => ?_)
        · refine q_ald_n cx dX10_hopsBetween_34 rfl (lv_at hl 0 rfl) ?_
          refine lv_iload cx.1 cx.2.1 dX10_hopsBetween_35 (lv_at hl 3 rfl) ?_
          refine q_ild_n cx dX10_hopsBetween_37 rfl (lv_at hl 2 rfl) ?_
          refine q_cVi (As := [.int (q_i v15_4), .int (q_i v15_3)]) (rest := []) cx hB (fun _ h => h) hN hv kv (by decide) rfl (g_X10_grown_1 l g hN hB.2.1 v hv kv v15_4 (by omega) (by omega) v15_3 (by omega) (by omega)) q_cX10_234 q_dX10_grown (by decide) rfl rfl hl.1 rfl (Nat.le_of_ble_eq_true rfl) dX10_hopsBetween_38 (fun y92 H locs f91 ry92 h93 hF hB => ?_)
          obtain rfl := h93
          refine lv_istore (lv' := [(4, .int (q_i y92)), (0, .ref v), (2, .int (q_i p1)), (3, .int (q_i v15_3)), (5, .int (q_i v15_5))]) cx.1 cx.2.1 dX10_hopsBetween_41 hl (by decide) rfl (fun ls hl => ?_)
          refine q_iinc (lv' := [(5, .int (q_i (v15_5 + 1))), (4, .int (q_i y92)), (0, .ref v), (2, .int (q_i p1)), (3, .int (q_i v15_3))]) cx dX10_hopsBetween_43 hl (k := 4) rfl (by decide) rfl (fun ls hl => ?_)
          refine lv_goto (tgt := 15) cx.1 cx.2.1 dX10_hopsBetween_46 (by decide) ?_
          exact ih15 v15_3 (by omega) (by omega) y92 (by omega) (by omega) (v15_5 + 1) (by omega) (by omega) (by omega) H locs hB ls (lv_sub hl [2, 3, 4, 1, 0] rfl)
        · refine lv_iload cx.1 cx.2.1 dX10_hopsBetween_31 (lv_at hl 4 rfl) ?_
          refine q_iret cx hr hlk hB dX10_hopsBetween_33 ⟨by omega, by omega⟩ ?_
          exact ⟨rfl, (by omega), (by omega)⟩
  obtain ⟨H, hH⟩ : ∃ H : Heap, H = s.heap := ⟨_, rfl⟩
  obtain ⟨locs, hlocs⟩ : ∃ z : List Loc, z = [] := ⟨_, rfl⟩
  rw [← hH, ← hlocs] at hB
  rw [← hH, ← hlocs]
  refine q_ald_n cx dX10_hopsBetween_0 rfl (lv_at hl 0 rfl) ?_
  refine q_cVi (As := []) (rest := []) cx hB (fun _ h => h) hN hv kv (by decide) rfl (g_X10_notOut_1 l g hN hB.2.1 v hv kv) q_cX10_195 q_dX10_notOut (by decide) rfl rfl hl.1 rfl (Nat.le_of_ble_eq_true rfl) dX10_hopsBetween_1 (fun y95 H locs f94 ry95 h96 hF hB => ?_)
  obtain rfl := h96
  refine lv_istore_n (lv' := [(3, .int (q_i y95)), (0, .ref v), (1, .int (q_i p0)), (2, .int (q_i p1))]) cx.1 cx.2.1 dX10_hopsBetween_4 rfl hl (by decide) rfl (fun ls hl => ?_)
  refine q_iconst cx dX10_hopsBetween_5 ?_
  refine q_ild_n cx dX10_hopsBetween_6 rfl (lv_at hl 2 rfl) ?_
  refine q_ishl cx dX10_hopsBetween_7 (fun y97 ry97 ey97 => ?_)
  refine q_ild_n cx dX10_hopsBetween_8 rfl (lv_at hl 0 rfl) ?_
  refine q_iand cx dX10_hopsBetween_9 (fun y98 ry98 ey98 => ?_)
  refine lv_istore (lv' := [(4, .int (q_i y98)), (3, .int (q_i y95)), (0, .ref v), (1, .int (q_i p0)), (2, .int (q_i p1))]) cx.1 cx.2.1 dX10_hopsBetween_10 hl (by decide) rfl (fun ls hl => ?_)
  refine q_iconst cx dX10_hopsBetween_12 ?_
  refine lv_istore (lv' := [(5, .int (q_i 0)), (4, .int (q_i y98)), (3, .int (q_i y95)), (0, .ref v), (1, .int (q_i p0)), (2, .int (q_i p1))]) cx.1 cx.2.1 dX10_hopsBetween_13 hl (by decide) rfl (fun ls hl => ?_)
  exact J15 ((Int.toNat (2147483647 - 0)) + 1) y95 (by omega) (by omega) y98 (by omega) (by omega) 0 (by decide) (by decide) (Nat.lt_succ_self _) H locs hB ls (lv_sub hl [3, 5, 2, 1, 0] rfl)
set_option maxHeartbeats 4000000 in
set_option maxRecDepth 100000 in
theorem g_X10_hopsBetween_2 (l : Launch) (g : q_G) {K : Nat → Nat} {L : List Nat} (hN : L.Nodup) {f : Nat → va_E} (hT : q_Ty g K L f) (v : Nat) (hv : v ∈ L) (kv : K v = 14) (p0 : Int) (lp0 : (-2147483648) ≤ p0) (up0 : p0 ≤ 2147483647) (p1 : Int) (lp1 : (-2147483648) ≤ p1) (up1 : p1 ≤ 2147483647) : q_Ct l g K L yX10_hopsBetween cX10_hopsBetween 6 (some .int) 2 43 [.ref v, .int (q_i p0), .int (q_i p1)] f [] (q_Pi (fun (z : Int) (f1 : Nat → va_E) => f = f1 ∧ (-1) ≤ z ∧ z ≤ 9)) := by
  refine q_ofb (by decide +kernel) hN hT (Nat.le_of_ble_eq_true rfl) ?_
  intro p e s m below meth c ls cx hr hlk hB hl
  have hl : lv_has ls 6 [(0, .ref v), (1, .int (q_i p0)), (2, .int (q_i p1))] := hl
  have J15 : ∀ (n : Nat) (v15_3 : Int) (lv15_3 : (-2147483648) ≤ v15_3) (uv15_3 : v15_3 ≤ 2147483647) (v15_4 : Int) (lv15_4 : (-2147483648) ≤ v15_4) (uv15_4 : v15_4 ≤ 2147483647) (v15_5 : Int) (lv15_5 : 0 ≤ v15_5) (uv15_5 : v15_5 ≤ 10) (hmu : (Int.toNat (2147483647 - v15_5)) < n) (H : Heap) (locs : List Loc) (hB : q_B g K L (fun q => q ∈ L) [] f f s H locs) (ls : Array Slot) (hl : lv_has ls 6 [(0, .ref v), (2, .int (q_i p1)), (3, .int (q_i v15_3)), (4, .int (q_i v15_4)), (5, .int (q_i v15_5))]), W p l e { frames := 2, cells := 0, slots := 0, locals := 43 } s m ([.ref v, .int (q_i p0), .int (q_i p1)] : List Value).toArray below meth c H locs 0 0 (MQ below (q_Q g K L [] f (q_Pi (fun (z : Int) (f1 : Nat → va_E) => f = f1 ∧ (-1) ≤ z ∧ z ≤ 9))) ([.ref v, .int (q_i p0), .int (q_i p1)] : List Value).toArray s 0 0 (fun q => q ∈ L)) (F0 m 15 ls []) := by
    intro n
    induction n with
    | zero =>
      intro v15_3 lv15_3 uv15_3 v15_4 lv15_4 uv15_4 v15_5 lv15_5 uv15_5 hmu
      exact absurd hmu (Nat.not_lt_zero _)
    | succ n ih15 =>
      intro v15_3 lv15_3 uv15_3 v15_4 lv15_4 uv15_4 v15_5 lv15_5 uv15_5 hmu H locs hB ls hl
      refine lv_iload cx.1 cx.2.1 dX10_hopsBetween_15 (lv_at hl 4 rfl) ?_
      refine q_bipush cx dX10_hopsBetween_17 rfl ?_
      refine q_icge (tgt := 49) cx ⟨by omega, by omega⟩ ⟨by decide, by decide⟩ dX10_hopsBetween_19 (by decide) (fun c86 => ?_) (fun c86 => ?_)
      · refine q_iconst cx dX10_hopsBetween_49 ?_
        refine q_iret cx hr hlk hB dX10_hopsBetween_50 ⟨by decide, by decide⟩ ?_
        exact ⟨rfl, (by decide), (by decide)⟩
      · refine lv_iload cx.1 cx.2.1 dX10_hopsBetween_22 (lv_at hl 3 rfl) ?_
        refine q_ild_n cx dX10_hopsBetween_24 rfl (lv_at hl 1 rfl) ?_
        refine q_cSi (As := [.int (q_i v15_4), .int (q_i p1)]) (rest := []) cx hB (fun _ h => h) hN (g_X10_has l g hN hB.2.1 v15_4 (by omega) (by omega) p1 (by omega) (by omega)) q_cX10_181 q_dX10_has (by decide) rfl rfl hl.1 rfl (Nat.le_of_ble_eq_true rfl) dX10_hopsBetween_25 (fun y88 H locs f87 ry88 h89 hF hB => ?_)
        obtain ⟨rfl, ly88, uy88⟩ := h89
        refine q_ifeq (tgt := 34) cx ⟨by omega, by omega⟩ dX10_hopsBetween_28 (by decide) (fun c90 => ?_) (fun c90 => ?_)
        · refine q_ald_n cx dX10_hopsBetween_34 rfl (lv_at hl 0 rfl) ?_
          refine lv_iload cx.1 cx.2.1 dX10_hopsBetween_35 (lv_at hl 3 rfl) ?_
          refine q_ild_n cx dX10_hopsBetween_37 rfl (lv_at hl 2 rfl) ?_
          refine q_cVi (As := [.int (q_i v15_4), .int (q_i v15_3)]) (rest := []) cx hB (fun _ h => h) hN hv kv (by decide) rfl (g_X10_grown_2 l g hN hB.2.1 v hv kv v15_4 (by omega) (by omega) v15_3 (by omega) (by omega)) q_cX10_234 q_dX10_grown (by decide) rfl rfl hl.1 rfl (Nat.le_of_ble_eq_true rfl) dX10_hopsBetween_38 (fun y92 H locs f91 ry92 h93 hF hB => ?_)
          obtain rfl := h93
          refine lv_istore (lv' := [(4, .int (q_i y92)), (0, .ref v), (2, .int (q_i p1)), (3, .int (q_i v15_3)), (5, .int (q_i v15_5))]) cx.1 cx.2.1 dX10_hopsBetween_41 hl (by decide) rfl (fun ls hl => ?_)
          refine q_iinc (lv' := [(5, .int (q_i (v15_5 + 1))), (4, .int (q_i y92)), (0, .ref v), (2, .int (q_i p1)), (3, .int (q_i v15_3))]) cx dX10_hopsBetween_43 hl (k := 4) rfl (by decide) rfl (fun ls hl => ?_)
          refine lv_goto (tgt := 15) cx.1 cx.2.1 dX10_hopsBetween_46 (by decide) ?_
          exact ih15 v15_3 (by omega) (by omega) y92 (by omega) (by omega) (v15_5 + 1) (by omega) (by omega) (by omega) H locs hB ls (lv_sub hl [2, 3, 4, 1, 0] rfl)
        · refine lv_iload cx.1 cx.2.1 dX10_hopsBetween_31 (lv_at hl 4 rfl) ?_
          refine q_iret cx hr hlk hB dX10_hopsBetween_33 ⟨by omega, by omega⟩ ?_
          exact ⟨rfl, (by omega), (by omega)⟩
  obtain ⟨H, hH⟩ : ∃ H : Heap, H = s.heap := ⟨_, rfl⟩
  obtain ⟨locs, hlocs⟩ : ∃ z : List Loc, z = [] := ⟨_, rfl⟩
  rw [← hH, ← hlocs] at hB
  rw [← hH, ← hlocs]
  refine q_ald_n cx dX10_hopsBetween_0 rfl (lv_at hl 0 rfl) ?_
  refine q_cVi (As := []) (rest := []) cx hB (fun _ h => h) hN hv kv (by decide) rfl (g_X10_notOut_2 l g hN hB.2.1 v hv kv) q_cX10_195 q_dX10_notOut (by decide) rfl rfl hl.1 rfl (Nat.le_of_ble_eq_true rfl) dX10_hopsBetween_1 (fun y95 H locs f94 ry95 h96 hF hB => ?_)
  obtain rfl := h96
  refine lv_istore_n (lv' := [(3, .int (q_i y95)), (0, .ref v), (1, .int (q_i p0)), (2, .int (q_i p1))]) cx.1 cx.2.1 dX10_hopsBetween_4 rfl hl (by decide) rfl (fun ls hl => ?_)
  refine q_iconst cx dX10_hopsBetween_5 ?_
  refine q_ild_n cx dX10_hopsBetween_6 rfl (lv_at hl 2 rfl) ?_
  refine q_ishl cx dX10_hopsBetween_7 (fun y97 ry97 ey97 => ?_)
  refine q_ild_n cx dX10_hopsBetween_8 rfl (lv_at hl 0 rfl) ?_
  refine q_iand cx dX10_hopsBetween_9 (fun y98 ry98 ey98 => ?_)
  refine lv_istore (lv' := [(4, .int (q_i y98)), (3, .int (q_i y95)), (0, .ref v), (1, .int (q_i p0)), (2, .int (q_i p1))]) cx.1 cx.2.1 dX10_hopsBetween_10 hl (by decide) rfl (fun ls hl => ?_)
  refine q_iconst cx dX10_hopsBetween_12 ?_
  refine lv_istore (lv' := [(5, .int (q_i 0)), (4, .int (q_i y98)), (3, .int (q_i y95)), (0, .ref v), (1, .int (q_i p0)), (2, .int (q_i p1))]) cx.1 cx.2.1 dX10_hopsBetween_13 hl (by decide) rfl (fun ls hl => ?_)
  exact J15 ((Int.toNat (2147483647 - 0)) + 1) y95 (by omega) (by omega) y98 (by omega) (by omega) 0 (by decide) (by decide) (Nat.lt_succ_self _) H locs hB ls (lv_sub hl [3, 5, 2, 1, 0] rfl)
set_option maxHeartbeats 4000000 in
set_option maxRecDepth 100000 in
theorem g_X10_hopsBetween_3 (l : Launch) (g : q_G) {K : Nat → Nat} {L : List Nat} (hN : L.Nodup) {f : Nat → va_E} (hT : q_Ty g K L f) (v : Nat) (hv : v ∈ L) (kv : K v = 15) (p0 : Int) (lp0 : (-2147483648) ≤ p0) (up0 : p0 ≤ 2147483647) (p1 : Int) (lp1 : (-2147483648) ≤ p1) (up1 : p1 ≤ 2147483647) : q_Ct l g K L yX10_hopsBetween cX10_hopsBetween 6 (some .int) 2 43 [.ref v, .int (q_i p0), .int (q_i p1)] f [] (q_Pi (fun (z : Int) (f1 : Nat → va_E) => f = f1 ∧ (-1) ≤ z ∧ z ≤ 9)) := by
  refine q_ofb (by decide +kernel) hN hT (Nat.le_of_ble_eq_true rfl) ?_
  intro p e s m below meth c ls cx hr hlk hB hl
  have hl : lv_has ls 6 [(0, .ref v), (1, .int (q_i p0)), (2, .int (q_i p1))] := hl
  have J15 : ∀ (n : Nat) (v15_3 : Int) (lv15_3 : (-2147483648) ≤ v15_3) (uv15_3 : v15_3 ≤ 2147483647) (v15_4 : Int) (lv15_4 : (-2147483648) ≤ v15_4) (uv15_4 : v15_4 ≤ 2147483647) (v15_5 : Int) (lv15_5 : 0 ≤ v15_5) (uv15_5 : v15_5 ≤ 10) (hmu : (Int.toNat (2147483647 - v15_5)) < n) (H : Heap) (locs : List Loc) (hB : q_B g K L (fun q => q ∈ L) [] f f s H locs) (ls : Array Slot) (hl : lv_has ls 6 [(0, .ref v), (2, .int (q_i p1)), (3, .int (q_i v15_3)), (4, .int (q_i v15_4)), (5, .int (q_i v15_5))]), W p l e { frames := 2, cells := 0, slots := 0, locals := 43 } s m ([.ref v, .int (q_i p0), .int (q_i p1)] : List Value).toArray below meth c H locs 0 0 (MQ below (q_Q g K L [] f (q_Pi (fun (z : Int) (f1 : Nat → va_E) => f = f1 ∧ (-1) ≤ z ∧ z ≤ 9))) ([.ref v, .int (q_i p0), .int (q_i p1)] : List Value).toArray s 0 0 (fun q => q ∈ L)) (F0 m 15 ls []) := by
    intro n
    induction n with
    | zero =>
      intro v15_3 lv15_3 uv15_3 v15_4 lv15_4 uv15_4 v15_5 lv15_5 uv15_5 hmu
      exact absurd hmu (Nat.not_lt_zero _)
    | succ n ih15 =>
      intro v15_3 lv15_3 uv15_3 v15_4 lv15_4 uv15_4 v15_5 lv15_5 uv15_5 hmu H locs hB ls hl
      refine lv_iload cx.1 cx.2.1 dX10_hopsBetween_15 (lv_at hl 4 rfl) ?_
      refine q_bipush cx dX10_hopsBetween_17 rfl ?_
      refine q_icge (tgt := 49) cx ⟨by omega, by omega⟩ ⟨by decide, by decide⟩ dX10_hopsBetween_19 (by decide) (fun c86 => ?_) (fun c86 => ?_)
      · refine q_iconst cx dX10_hopsBetween_49 ?_
        refine q_iret cx hr hlk hB dX10_hopsBetween_50 ⟨by decide, by decide⟩ ?_
        exact ⟨rfl, (by decide), (by decide)⟩
      · refine lv_iload cx.1 cx.2.1 dX10_hopsBetween_22 (lv_at hl 3 rfl) ?_
        refine q_ild_n cx dX10_hopsBetween_24 rfl (lv_at hl 1 rfl) ?_
        refine q_cSi (As := [.int (q_i v15_4), .int (q_i p1)]) (rest := []) cx hB (fun _ h => h) hN (g_X10_has l g hN hB.2.1 v15_4 (by omega) (by omega) p1 (by omega) (by omega)) q_cX10_181 q_dX10_has (by decide) rfl rfl hl.1 rfl (Nat.le_of_ble_eq_true rfl) dX10_hopsBetween_25 (fun y88 H locs f87 ry88 h89 hF hB => ?_)
        obtain ⟨rfl, ly88, uy88⟩ := h89
        refine q_ifeq (tgt := 34) cx ⟨by omega, by omega⟩ dX10_hopsBetween_28 (by decide) (fun c90 => ?_) (fun c90 => ?_)
        · refine q_ald_n cx dX10_hopsBetween_34 rfl (lv_at hl 0 rfl) ?_
          refine lv_iload cx.1 cx.2.1 dX10_hopsBetween_35 (lv_at hl 3 rfl) ?_
          refine q_ild_n cx dX10_hopsBetween_37 rfl (lv_at hl 2 rfl) ?_
          refine q_cVi (As := [.int (q_i v15_4), .int (q_i v15_3)]) (rest := []) cx hB (fun _ h => h) hN hv kv (by decide) rfl (g_X10_grown_3 l g hN hB.2.1 v hv kv v15_4 (by omega) (by omega) v15_3 (by omega) (by omega)) q_cX10_234 q_dX10_grown (by decide) rfl rfl hl.1 rfl (Nat.le_of_ble_eq_true rfl) dX10_hopsBetween_38 (fun y92 H locs f91 ry92 h93 hF hB => ?_)
          obtain rfl := h93
          refine lv_istore (lv' := [(4, .int (q_i y92)), (0, .ref v), (2, .int (q_i p1)), (3, .int (q_i v15_3)), (5, .int (q_i v15_5))]) cx.1 cx.2.1 dX10_hopsBetween_41 hl (by decide) rfl (fun ls hl => ?_)
          refine q_iinc (lv' := [(5, .int (q_i (v15_5 + 1))), (4, .int (q_i y92)), (0, .ref v), (2, .int (q_i p1)), (3, .int (q_i v15_3))]) cx dX10_hopsBetween_43 hl (k := 4) rfl (by decide) rfl (fun ls hl => ?_)
          refine lv_goto (tgt := 15) cx.1 cx.2.1 dX10_hopsBetween_46 (by decide) ?_
          exact ih15 v15_3 (by omega) (by omega) y92 (by omega) (by omega) (v15_5 + 1) (by omega) (by omega) (by omega) H locs hB ls (lv_sub hl [2, 3, 4, 1, 0] rfl)
        · refine lv_iload cx.1 cx.2.1 dX10_hopsBetween_31 (lv_at hl 4 rfl) ?_
          refine q_iret cx hr hlk hB dX10_hopsBetween_33 ⟨by omega, by omega⟩ ?_
          exact ⟨rfl, (by omega), (by omega)⟩
  obtain ⟨H, hH⟩ : ∃ H : Heap, H = s.heap := ⟨_, rfl⟩
  obtain ⟨locs, hlocs⟩ : ∃ z : List Loc, z = [] := ⟨_, rfl⟩
  rw [← hH, ← hlocs] at hB
  rw [← hH, ← hlocs]
  refine q_ald_n cx dX10_hopsBetween_0 rfl (lv_at hl 0 rfl) ?_
  refine q_cVi (As := []) (rest := []) cx hB (fun _ h => h) hN hv kv (by decide) rfl (g_X10_notOut_3 l g hN hB.2.1 v hv kv) q_cX10_195 q_dX10_notOut (by decide) rfl rfl hl.1 rfl (Nat.le_of_ble_eq_true rfl) dX10_hopsBetween_1 (fun y95 H locs f94 ry95 h96 hF hB => ?_)
  obtain rfl := h96
  refine lv_istore_n (lv' := [(3, .int (q_i y95)), (0, .ref v), (1, .int (q_i p0)), (2, .int (q_i p1))]) cx.1 cx.2.1 dX10_hopsBetween_4 rfl hl (by decide) rfl (fun ls hl => ?_)
  refine q_iconst cx dX10_hopsBetween_5 ?_
  refine q_ild_n cx dX10_hopsBetween_6 rfl (lv_at hl 2 rfl) ?_
  refine q_ishl cx dX10_hopsBetween_7 (fun y97 ry97 ey97 => ?_)
  refine q_ild_n cx dX10_hopsBetween_8 rfl (lv_at hl 0 rfl) ?_
  refine q_iand cx dX10_hopsBetween_9 (fun y98 ry98 ey98 => ?_)
  refine lv_istore (lv' := [(4, .int (q_i y98)), (3, .int (q_i y95)), (0, .ref v), (1, .int (q_i p0)), (2, .int (q_i p1))]) cx.1 cx.2.1 dX10_hopsBetween_10 hl (by decide) rfl (fun ls hl => ?_)
  refine q_iconst cx dX10_hopsBetween_12 ?_
  refine lv_istore (lv' := [(5, .int (q_i 0)), (4, .int (q_i y98)), (3, .int (q_i y95)), (0, .ref v), (1, .int (q_i p0)), (2, .int (q_i p1))]) cx.1 cx.2.1 dX10_hopsBetween_13 hl (by decide) rfl (fun ls hl => ?_)
  exact J15 ((Int.toNat (2147483647 - 0)) + 1) y95 (by omega) (by omega) y98 (by omega) (by omega) 0 (by decide) (by decide) (Nat.lt_succ_self _) H locs hB ls (lv_sub hl [3, 5, 2, 1, 0] rfl)
set_option maxHeartbeats 4000000 in
set_option maxRecDepth 100000 in
theorem g_X10_hopsBetween_4 (l : Launch) (g : q_G) {K : Nat → Nat} {L : List Nat} (hN : L.Nodup) {f : Nat → va_E} (hT : q_Ty g K L f) (v : Nat) (hv : v ∈ L) (kv : K v = 16) (p0 : Int) (lp0 : (-2147483648) ≤ p0) (up0 : p0 ≤ 2147483647) (p1 : Int) (lp1 : (-2147483648) ≤ p1) (up1 : p1 ≤ 2147483647) : q_Ct l g K L yX10_hopsBetween cX10_hopsBetween 6 (some .int) 2 43 [.ref v, .int (q_i p0), .int (q_i p1)] f [] (q_Pi (fun (z : Int) (f1 : Nat → va_E) => f = f1 ∧ (-1) ≤ z ∧ z ≤ 9)) := by
  refine q_ofb (by decide +kernel) hN hT (Nat.le_of_ble_eq_true rfl) ?_
  intro p e s m below meth c ls cx hr hlk hB hl
  have hl : lv_has ls 6 [(0, .ref v), (1, .int (q_i p0)), (2, .int (q_i p1))] := hl
  have J15 : ∀ (n : Nat) (v15_3 : Int) (lv15_3 : (-2147483648) ≤ v15_3) (uv15_3 : v15_3 ≤ 2147483647) (v15_4 : Int) (lv15_4 : (-2147483648) ≤ v15_4) (uv15_4 : v15_4 ≤ 2147483647) (v15_5 : Int) (lv15_5 : 0 ≤ v15_5) (uv15_5 : v15_5 ≤ 10) (hmu : (Int.toNat (2147483647 - v15_5)) < n) (H : Heap) (locs : List Loc) (hB : q_B g K L (fun q => q ∈ L) [] f f s H locs) (ls : Array Slot) (hl : lv_has ls 6 [(0, .ref v), (2, .int (q_i p1)), (3, .int (q_i v15_3)), (4, .int (q_i v15_4)), (5, .int (q_i v15_5))]), W p l e { frames := 2, cells := 0, slots := 0, locals := 43 } s m ([.ref v, .int (q_i p0), .int (q_i p1)] : List Value).toArray below meth c H locs 0 0 (MQ below (q_Q g K L [] f (q_Pi (fun (z : Int) (f1 : Nat → va_E) => f = f1 ∧ (-1) ≤ z ∧ z ≤ 9))) ([.ref v, .int (q_i p0), .int (q_i p1)] : List Value).toArray s 0 0 (fun q => q ∈ L)) (F0 m 15 ls []) := by
    intro n
    induction n with
    | zero =>
      intro v15_3 lv15_3 uv15_3 v15_4 lv15_4 uv15_4 v15_5 lv15_5 uv15_5 hmu
      exact absurd hmu (Nat.not_lt_zero _)
    | succ n ih15 =>
      intro v15_3 lv15_3 uv15_3 v15_4 lv15_4 uv15_4 v15_5 lv15_5 uv15_5 hmu H locs hB ls hl
      refine lv_iload cx.1 cx.2.1 dX10_hopsBetween_15 (lv_at hl 4 rfl) ?_
      refine q_bipush cx dX10_hopsBetween_17 rfl ?_
      refine q_icge (tgt := 49) cx ⟨by omega, by omega⟩ ⟨by decide, by decide⟩ dX10_hopsBetween_19 (by decide) (fun c86 => ?_) (fun c86 => ?_)
      · refine q_iconst cx dX10_hopsBetween_49 ?_
        refine q_iret cx hr hlk hB dX10_hopsBetween_50 ⟨by decide, by decide⟩ ?_
        exact ⟨rfl, (by decide), (by decide)⟩
      · refine lv_iload cx.1 cx.2.1 dX10_hopsBetween_22 (lv_at hl 3 rfl) ?_
        refine q_ild_n cx dX10_hopsBetween_24 rfl (lv_at hl 1 rfl) ?_
        refine q_cSi (As := [.int (q_i v15_4), .int (q_i p1)]) (rest := []) cx hB (fun _ h => h) hN (g_X10_has l g hN hB.2.1 v15_4 (by omega) (by omega) p1 (by omega) (by omega)) q_cX10_181 q_dX10_has (by decide) rfl rfl hl.1 rfl (Nat.le_of_ble_eq_true rfl) dX10_hopsBetween_25 (fun y88 H locs f87 ry88 h89 hF hB => ?_)
        obtain ⟨rfl, ly88, uy88⟩ := h89
        refine q_ifeq (tgt := 34) cx ⟨by omega, by omega⟩ dX10_hopsBetween_28 (by decide) (fun c90 => ?_) (fun c90 => ?_)
        · refine q_ald_n cx dX10_hopsBetween_34 rfl (lv_at hl 0 rfl) ?_
          refine lv_iload cx.1 cx.2.1 dX10_hopsBetween_35 (lv_at hl 3 rfl) ?_
          refine q_ild_n cx dX10_hopsBetween_37 rfl (lv_at hl 2 rfl) ?_
          refine q_cVi (As := [.int (q_i v15_4), .int (q_i v15_3)]) (rest := []) cx hB (fun _ h => h) hN hv kv (by decide) rfl (g_X10_grown_4 l g hN hB.2.1 v hv kv v15_4 (by omega) (by omega) v15_3 (by omega) (by omega)) q_cX10_234 q_dX10_grown (by decide) rfl rfl hl.1 rfl (Nat.le_of_ble_eq_true rfl) dX10_hopsBetween_38 (fun y92 H locs f91 ry92 h93 hF hB => ?_)
          obtain rfl := h93
          refine lv_istore (lv' := [(4, .int (q_i y92)), (0, .ref v), (2, .int (q_i p1)), (3, .int (q_i v15_3)), (5, .int (q_i v15_5))]) cx.1 cx.2.1 dX10_hopsBetween_41 hl (by decide) rfl (fun ls hl => ?_)
          refine q_iinc (lv' := [(5, .int (q_i (v15_5 + 1))), (4, .int (q_i y92)), (0, .ref v), (2, .int (q_i p1)), (3, .int (q_i v15_3))]) cx dX10_hopsBetween_43 hl (k := 4) rfl (by decide) rfl (fun ls hl => ?_)
          refine lv_goto (tgt := 15) cx.1 cx.2.1 dX10_hopsBetween_46 (by decide) ?_
          exact ih15 v15_3 (by omega) (by omega) y92 (by omega) (by omega) (v15_5 + 1) (by omega) (by omega) (by omega) H locs hB ls (lv_sub hl [2, 3, 4, 1, 0] rfl)
        · refine lv_iload cx.1 cx.2.1 dX10_hopsBetween_31 (lv_at hl 4 rfl) ?_
          refine q_iret cx hr hlk hB dX10_hopsBetween_33 ⟨by omega, by omega⟩ ?_
          exact ⟨rfl, (by omega), (by omega)⟩
  obtain ⟨H, hH⟩ : ∃ H : Heap, H = s.heap := ⟨_, rfl⟩
  obtain ⟨locs, hlocs⟩ : ∃ z : List Loc, z = [] := ⟨_, rfl⟩
  rw [← hH, ← hlocs] at hB
  rw [← hH, ← hlocs]
  refine q_ald_n cx dX10_hopsBetween_0 rfl (lv_at hl 0 rfl) ?_
  refine q_cVi (As := []) (rest := []) cx hB (fun _ h => h) hN hv kv (by decide) rfl (g_X10_notOut_4 l g hN hB.2.1 v hv kv) q_cX10_195 q_dX10_notOut (by decide) rfl rfl hl.1 rfl (Nat.le_of_ble_eq_true rfl) dX10_hopsBetween_1 (fun y95 H locs f94 ry95 h96 hF hB => ?_)
  obtain rfl := h96
  refine lv_istore_n (lv' := [(3, .int (q_i y95)), (0, .ref v), (1, .int (q_i p0)), (2, .int (q_i p1))]) cx.1 cx.2.1 dX10_hopsBetween_4 rfl hl (by decide) rfl (fun ls hl => ?_)
  refine q_iconst cx dX10_hopsBetween_5 ?_
  refine q_ild_n cx dX10_hopsBetween_6 rfl (lv_at hl 2 rfl) ?_
  refine q_ishl cx dX10_hopsBetween_7 (fun y97 ry97 ey97 => ?_)
  refine q_ild_n cx dX10_hopsBetween_8 rfl (lv_at hl 0 rfl) ?_
  refine q_iand cx dX10_hopsBetween_9 (fun y98 ry98 ey98 => ?_)
  refine lv_istore (lv' := [(4, .int (q_i y98)), (3, .int (q_i y95)), (0, .ref v), (1, .int (q_i p0)), (2, .int (q_i p1))]) cx.1 cx.2.1 dX10_hopsBetween_10 hl (by decide) rfl (fun ls hl => ?_)
  refine q_iconst cx dX10_hopsBetween_12 ?_
  refine lv_istore (lv' := [(5, .int (q_i 0)), (4, .int (q_i y98)), (3, .int (q_i y95)), (0, .ref v), (1, .int (q_i p0)), (2, .int (q_i p1))]) cx.1 cx.2.1 dX10_hopsBetween_13 hl (by decide) rfl (fun ls hl => ?_)
  exact J15 ((Int.toNat (2147483647 - 0)) + 1) y95 (by omega) (by omega) y98 (by omega) (by omega) 0 (by decide) (by decide) (Nat.lt_succ_self _) H locs hB ls (lv_sub hl [3, 5, 2, 1, 0] rfl)
