set_option maxHeartbeats 4000000 in
set_option maxRecDepth 100000 in
theorem g_X10_numberOf_1 (l : Launch) (g : q_G) {K : Nat → Nat} {L : List Nat} (hN : L.Nodup) {f : Nat → va_E} (hT : q_Ty g K L f) (v : Nat) (hv : v ∈ L) (kv : K v = 13) (p0 : Int64) : q_Ct l g K L yX10_numberOf cX10_numberOf 4 (some .int) 1 21 [.ref v, .long p0] f [] (q_Pi (fun (z : Int) (f1 : Nat → va_E) => f = f1 ∧ (-1) ≤ z ∧ z ≤ 9)) := by
  refine q_ofb (by decide +kernel) hN hT (Nat.le_of_ble_eq_true rfl) ?_
  intro p e s m below meth c ls cx hr hlk hB hl
  have hl : lv_has ls 4 [(0, .ref v), (1, .long p0)] := hl
  have J2 : ∀ (n : Nat) (v2_1 : Int64) (v2_3 : Int) (lv2_3 : 0 ≤ v2_3) (uv2_3 : v2_3 ≤ 10) (hmu : (Int.toNat (2147483647 - v2_3)) < n) (H : Heap) (locs : List Loc) (hB : q_B g K L (fun q => q ∈ L) [] f f s H locs) (ls : Array Slot) (hl : lv_has ls 4 [(0, .ref v), (1, .long v2_1), (3, .int (q_i v2_3))]), W p l e { frames := 1, cells := 0, slots := 0, locals := 21 } s m ([.ref v, .long p0] : List Value).toArray below meth c H locs 0 0 (MQ below (q_Q g K L [] f (q_Pi (fun (z : Int) (f1 : Nat → va_E) => f = f1 ∧ (-1) ≤ z ∧ z ≤ 9))) ([.ref v, .long p0] : List Value).toArray s 0 0 (fun q => q ∈ L)) (F0 m 2 ls []) := by
    intro n
    induction n with
    | zero =>
      intro v2_1 v2_3 lv2_3 uv2_3 hmu
      exact absurd hmu (Nat.not_lt_zero _)
    | succ n ih2 =>
      intro v2_1 v2_3 lv2_3 uv2_3 hmu H locs hB ls hl
      refine q_ild_n cx dX10_numberOf_2 rfl (lv_at hl 2 rfl) ?_
      refine q_ald_n cx dX10_numberOf_3 rfl (lv_at hl 0 rfl) ?_
      obtain ⟨x91, ex91⟩ : ∃ zz, q_is (q_z f v 3) zz := ⟨_, q_isr _⟩
      refine q_gX10_35_13 cx hB hv kv ex91 dX10_numberOf_4 (fun lb92 ub92 => ?_)
      refine q_icge (tgt := 31) cx ⟨by omega, by omega⟩ ⟨by omega, by omega⟩ dX10_numberOf_7 (by decide) (fun c93 => ?_) (fun c93 => ?_)
      · refine q_iconst cx dX10_numberOf_31 ?_
        refine q_iret cx hr hlk hB dX10_numberOf_32 ⟨by decide, by decide⟩ ?_
        exact ⟨rfl, (by decide), (by decide)⟩
      · refine q_ald_n cx dX10_numberOf_10 rfl (lv_at hl 0 rfl) ?_
        refine q_ild_n cx dX10_numberOf_11 rfl (lv_at hl 2 rfl) ?_
        refine q_cVr (As := [.int (q_i v2_3)]) (rest := []) cx hB (fun _ h => h) hN hv kv (by decide) rfl (g_X10_nodeAt_1 l g hN hB.2.1 v hv kv v2_3 (by omega) (by omega)) q_cX10_66 q_dX10_nodeAt (by decide) rfl rfl hl.1 rfl (Nat.le_of_ble_eq_true rfl) dX10_numberOf_12 (fun y95 H locs f94 h96 hF hB => ?_)
        obtain ⟨rfl, hy95, ky95⟩ := h96
        obtain ⟨j97, ej97⟩ : ∃ zz, q_j f y95 0 = zz := ⟨_, rfl⟩
        refine q_gX10_88_17 cx hB hy95 ky95 ej97 dX10_numberOf_15 ?_
        refine q_lld_n cx dX10_numberOf_18 rfl (lv_at hl 1 rfl) ?_
        refine q_lcmp cx dX10_numberOf_19 (fun y98 ly98 uy98 ey98 gy98 hy98 => ?_)
        refine q_ifne (tgt := 25) cx ⟨by omega, by omega⟩ dX10_numberOf_20 (by decide) (fun c99 => ?_) (fun c99 => ?_)
        · refine q_iinc (lv' := [(3, .int (q_i (v2_3 + 1))), (0, .ref v), (1, .long v2_1)]) cx dX10_numberOf_25 hl (k := 2) rfl (by decide) rfl (fun ls hl => ?_)
          refine lv_goto (tgt := 2) cx.1 cx.2.1 dX10_numberOf_28 (by decide) ?_
          exact ih2 v2_1 (v2_3 + 1) (by omega) (by omega) (by omega) H locs hB ls (lv_sub hl [1, 2, 0] rfl)
        · refine q_ild_n cx dX10_numberOf_23 rfl (lv_at hl 2 rfl) ?_
          refine q_iret cx hr hlk hB dX10_numberOf_24 ⟨by omega, by omega⟩ ?_
          exact ⟨rfl, (by omega), (by omega)⟩
  obtain ⟨H, hH⟩ : ∃ H : Heap, H = s.heap := ⟨_, rfl⟩
  obtain ⟨locs, hlocs⟩ : ∃ z : List Loc, z = [] := ⟨_, rfl⟩
  rw [← hH, ← hlocs] at hB
  rw [← hH, ← hlocs]
  refine q_iconst cx dX10_numberOf_0 ?_
  refine lv_istore_n (lv' := [(3, .int (q_i 0)), (0, .ref v), (1, .long p0)]) cx.1 cx.2.1 dX10_numberOf_1 rfl hl (by decide) rfl (fun ls hl => ?_)
  exact J2 ((Int.toNat (2147483647 - 0)) + 1) p0 0 (by decide) (by decide) (Nat.lt_succ_self _) H locs hB ls (lv_sub hl [1, 2, 0] rfl)
set_option maxHeartbeats 4000000 in
set_option maxRecDepth 100000 in
theorem g_X10_numberOf_2 (l : Launch) (g : q_G) {K : Nat → Nat} {L : List Nat} (hN : L.Nodup) {f : Nat → va_E} (hT : q_Ty g K L f) (v : Nat) (hv : v ∈ L) (kv : K v = 14) (p0 : Int64) : q_Ct l g K L yX10_numberOf cX10_numberOf 4 (some .int) 1 21 [.ref v, .long p0] f [] (q_Pi (fun (z : Int) (f1 : Nat → va_E) => f = f1 ∧ (-1) ≤ z ∧ z ≤ 9)) := by
  refine q_ofb (by decide +kernel) hN hT (Nat.le_of_ble_eq_true rfl) ?_
  intro p e s m below meth c ls cx hr hlk hB hl
  have hl : lv_has ls 4 [(0, .ref v), (1, .long p0)] := hl
  have J2 : ∀ (n : Nat) (v2_1 : Int64) (v2_3 : Int) (lv2_3 : 0 ≤ v2_3) (uv2_3 : v2_3 ≤ 10) (hmu : (Int.toNat (2147483647 - v2_3)) < n) (H : Heap) (locs : List Loc) (hB : q_B g K L (fun q => q ∈ L) [] f f s H locs) (ls : Array Slot) (hl : lv_has ls 4 [(0, .ref v), (1, .long v2_1), (3, .int (q_i v2_3))]), W p l e { frames := 1, cells := 0, slots := 0, locals := 21 } s m ([.ref v, .long p0] : List Value).toArray below meth c H locs 0 0 (MQ below (q_Q g K L [] f (q_Pi (fun (z : Int) (f1 : Nat → va_E) => f = f1 ∧ (-1) ≤ z ∧ z ≤ 9))) ([.ref v, .long p0] : List Value).toArray s 0 0 (fun q => q ∈ L)) (F0 m 2 ls []) := by
    intro n
    induction n with
    | zero =>
      intro v2_1 v2_3 lv2_3 uv2_3 hmu
      exact absurd hmu (Nat.not_lt_zero _)
    | succ n ih2 =>
      intro v2_1 v2_3 lv2_3 uv2_3 hmu H locs hB ls hl
      refine q_ild_n cx dX10_numberOf_2 rfl (lv_at hl 2 rfl) ?_
      refine q_ald_n cx dX10_numberOf_3 rfl (lv_at hl 0 rfl) ?_
      obtain ⟨x91, ex91⟩ : ∃ zz, q_is (q_z f v 3) zz := ⟨_, q_isr _⟩
      refine q_gX10_35_14 cx hB hv kv ex91 dX10_numberOf_4 (fun lb92 ub92 => ?_)
      refine q_icge (tgt := 31) cx ⟨by omega, by omega⟩ ⟨by omega, by omega⟩ dX10_numberOf_7 (by decide) (fun c93 => ?_) (fun c93 => ?_)
      · refine q_iconst cx dX10_numberOf_31 ?_
        refine q_iret cx hr hlk hB dX10_numberOf_32 ⟨by decide, by decide⟩ ?_
        exact ⟨rfl, (by decide), (by decide)⟩
      · refine q_ald_n cx dX10_numberOf_10 rfl (lv_at hl 0 rfl) ?_
        refine q_ild_n cx dX10_numberOf_11 rfl (lv_at hl 2 rfl) ?_
        refine q_cVr (As := [.int (q_i v2_3)]) (rest := []) cx hB (fun _ h => h) hN hv kv (by decide) rfl (g_X10_nodeAt_2 l g hN hB.2.1 v hv kv v2_3 (by omega) (by omega)) q_cX10_66 q_dX10_nodeAt (by decide) rfl rfl hl.1 rfl (Nat.le_of_ble_eq_true rfl) dX10_numberOf_12 (fun y95 H locs f94 h96 hF hB => ?_)
        obtain ⟨rfl, hy95, ky95⟩ := h96
        obtain ⟨j97, ej97⟩ : ∃ zz, q_j f y95 0 = zz := ⟨_, rfl⟩
        refine q_gX10_88_18 cx hB hy95 ky95 ej97 dX10_numberOf_15 ?_
        refine q_lld_n cx dX10_numberOf_18 rfl (lv_at hl 1 rfl) ?_
        refine q_lcmp cx dX10_numberOf_19 (fun y98 ly98 uy98 ey98 gy98 hy98 => ?_)
        refine q_ifne (tgt := 25) cx ⟨by omega, by omega⟩ dX10_numberOf_20 (by decide) (fun c99 => ?_) (fun c99 => ?_)
        · refine q_iinc (lv' := [(3, .int (q_i (v2_3 + 1))), (0, .ref v), (1, .long v2_1)]) cx dX10_numberOf_25 hl (k := 2) rfl (by decide) rfl (fun ls hl => ?_)
          refine lv_goto (tgt := 2) cx.1 cx.2.1 dX10_numberOf_28 (by decide) ?_
          exact ih2 v2_1 (v2_3 + 1) (by omega) (by omega) (by omega) H locs hB ls (lv_sub hl [1, 2, 0] rfl)
        · refine q_ild_n cx dX10_numberOf_23 rfl (lv_at hl 2 rfl) ?_
          refine q_iret cx hr hlk hB dX10_numberOf_24 ⟨by omega, by omega⟩ ?_
          exact ⟨rfl, (by omega), (by omega)⟩
  obtain ⟨H, hH⟩ : ∃ H : Heap, H = s.heap := ⟨_, rfl⟩
  obtain ⟨locs, hlocs⟩ : ∃ z : List Loc, z = [] := ⟨_, rfl⟩
  rw [← hH, ← hlocs] at hB
  rw [← hH, ← hlocs]
  refine q_iconst cx dX10_numberOf_0 ?_
  refine lv_istore_n (lv' := [(3, .int (q_i 0)), (0, .ref v), (1, .long p0)]) cx.1 cx.2.1 dX10_numberOf_1 rfl hl (by decide) rfl (fun ls hl => ?_)
  exact J2 ((Int.toNat (2147483647 - 0)) + 1) p0 0 (by decide) (by decide) (Nat.lt_succ_self _) H locs hB ls (lv_sub hl [1, 2, 0] rfl)
set_option maxHeartbeats 4000000 in
set_option maxRecDepth 100000 in
theorem g_X10_numberOf_3 (l : Launch) (g : q_G) {K : Nat → Nat} {L : List Nat} (hN : L.Nodup) {f : Nat → va_E} (hT : q_Ty g K L f) (v : Nat) (hv : v ∈ L) (kv : K v = 15) (p0 : Int64) : q_Ct l g K L yX10_numberOf cX10_numberOf 4 (some .int) 1 21 [.ref v, .long p0] f [] (q_Pi (fun (z : Int) (f1 : Nat → va_E) => f = f1 ∧ (-1) ≤ z ∧ z ≤ 9)) := by
  refine q_ofb (by decide +kernel) hN hT (Nat.le_of_ble_eq_true rfl) ?_
  intro p e s m below meth c ls cx hr hlk hB hl
  have hl : lv_has ls 4 [(0, .ref v), (1, .long p0)] := hl
  have J2 : ∀ (n : Nat) (v2_1 : Int64) (v2_3 : Int) (lv2_3 : 0 ≤ v2_3) (uv2_3 : v2_3 ≤ 10) (hmu : (Int.toNat (2147483647 - v2_3)) < n) (H : Heap) (locs : List Loc) (hB : q_B g K L (fun q => q ∈ L) [] f f s H locs) (ls : Array Slot) (hl : lv_has ls 4 [(0, .ref v), (1, .long v2_1), (3, .int (q_i v2_3))]), W p l e { frames := 1, cells := 0, slots := 0, locals := 21 } s m ([.ref v, .long p0] : List Value).toArray below meth c H locs 0 0 (MQ below (q_Q g K L [] f (q_Pi (fun (z : Int) (f1 : Nat → va_E) => f = f1 ∧ (-1) ≤ z ∧ z ≤ 9))) ([.ref v, .long p0] : List Value).toArray s 0 0 (fun q => q ∈ L)) (F0 m 2 ls []) := by
    intro n
    induction n with
    | zero =>
      intro v2_1 v2_3 lv2_3 uv2_3 hmu
      exact absurd hmu (Nat.not_lt_zero _)
    | succ n ih2 =>
      intro v2_1 v2_3 lv2_3 uv2_3 hmu H locs hB ls hl
      refine q_ild_n cx dX10_numberOf_2 rfl (lv_at hl 2 rfl) ?_
      refine q_ald_n cx dX10_numberOf_3 rfl (lv_at hl 0 rfl) ?_
      obtain ⟨x91, ex91⟩ : ∃ zz, q_is (q_z f v 3) zz := ⟨_, q_isr _⟩
      refine q_gX10_35_15 cx hB hv kv ex91 dX10_numberOf_4 (fun lb92 ub92 => ?_)
      refine q_icge (tgt := 31) cx ⟨by omega, by omega⟩ ⟨by omega, by omega⟩ dX10_numberOf_7 (by decide) (fun c93 => ?_) (fun c93 => ?_)
      · refine q_iconst cx dX10_numberOf_31 ?_
        refine q_iret cx hr hlk hB dX10_numberOf_32 ⟨by decide, by decide⟩ ?_
        exact ⟨rfl, (by decide), (by decide)⟩
      · refine q_ald_n cx dX10_numberOf_10 rfl (lv_at hl 0 rfl) ?_
        refine q_ild_n cx dX10_numberOf_11 rfl (lv_at hl 2 rfl) ?_
        refine q_cVr (As := [.int (q_i v2_3)]) (rest := []) cx hB (fun _ h => h) hN hv kv (by decide) rfl (g_X10_nodeAt_3 l g hN hB.2.1 v hv kv v2_3 (by omega) (by omega)) q_cX10_66 q_dX10_nodeAt (by decide) rfl rfl hl.1 rfl (Nat.le_of_ble_eq_true rfl) dX10_numberOf_12 (fun y95 H locs f94 h96 hF hB => ?_)
        obtain ⟨rfl, hy95, ky95⟩ := h96
        obtain ⟨j97, ej97⟩ : ∃ zz, q_j f y95 0 = zz := ⟨_, rfl⟩
        refine q_gX10_88_19 cx hB hy95 ky95 ej97 dX10_numberOf_15 ?_
        refine q_lld_n cx dX10_numberOf_18 rfl (lv_at hl 1 rfl) ?_
        refine q_lcmp cx dX10_numberOf_19 (fun y98 ly98 uy98 ey98 gy98 hy98 => ?_)
        refine q_ifne (tgt := 25) cx ⟨by omega, by omega⟩ dX10_numberOf_20 (by decide) (fun c99 => ?_) (fun c99 => ?_)
        · refine q_iinc (lv' := [(3, .int (q_i (v2_3 + 1))), (0, .ref v), (1, .long v2_1)]) cx dX10_numberOf_25 hl (k := 2) rfl (by decide) rfl (fun ls hl => ?_)
          refine lv_goto (tgt := 2) cx.1 cx.2.1 dX10_numberOf_28 (by decide) ?_
          exact ih2 v2_1 (v2_3 + 1) (by omega) (by omega) (by omega) H locs hB ls (lv_sub hl [1, 2, 0] rfl)
        · refine q_ild_n cx dX10_numberOf_23 rfl (lv_at hl 2 rfl) ?_
          refine q_iret cx hr hlk hB dX10_numberOf_24 ⟨by omega, by omega⟩ ?_
          exact ⟨rfl, (by omega), (by omega)⟩
  obtain ⟨H, hH⟩ : ∃ H : Heap, H = s.heap := ⟨_, rfl⟩
  obtain ⟨locs, hlocs⟩ : ∃ z : List Loc, z = [] := ⟨_, rfl⟩
  rw [← hH, ← hlocs] at hB
  rw [← hH, ← hlocs]
  refine q_iconst cx dX10_numberOf_0 ?_
  refine lv_istore_n (lv' := [(3, .int (q_i 0)), (0, .ref v), (1, .long p0)]) cx.1 cx.2.1 dX10_numberOf_1 rfl hl (by decide) rfl (fun ls hl => ?_)
  exact J2 ((Int.toNat (2147483647 - 0)) + 1) p0 0 (by decide) (by decide) (Nat.lt_succ_self _) H locs hB ls (lv_sub hl [1, 2, 0] rfl)
set_option maxHeartbeats 4000000 in
set_option maxRecDepth 100000 in
theorem g_X10_numberOf_4 (l : Launch) (g : q_G) {K : Nat → Nat} {L : List Nat} (hN : L.Nodup) {f : Nat → va_E} (hT : q_Ty g K L f) (v : Nat) (hv : v ∈ L) (kv : K v = 16) (p0 : Int64) : q_Ct l g K L yX10_numberOf cX10_numberOf 4 (some .int) 1 21 [.ref v, .long p0] f [] (q_Pi (fun (z : Int) (f1 : Nat → va_E) => f = f1 ∧ (-1) ≤ z ∧ z ≤ 9)) := by
  refine q_ofb (by decide +kernel) hN hT (Nat.le_of_ble_eq_true rfl) ?_
  intro p e s m below meth c ls cx hr hlk hB hl
  have hl : lv_has ls 4 [(0, .ref v), (1, .long p0)] := hl
  have J2 : ∀ (n : Nat) (v2_1 : Int64) (v2_3 : Int) (lv2_3 : 0 ≤ v2_3) (uv2_3 : v2_3 ≤ 10) (hmu : (Int.toNat (2147483647 - v2_3)) < n) (H : Heap) (locs : List Loc) (hB : q_B g K L (fun q => q ∈ L) [] f f s H locs) (ls : Array Slot) (hl : lv_has ls 4 [(0, .ref v), (1, .long v2_1), (3, .int (q_i v2_3))]), W p l e { frames := 1, cells := 0, slots := 0, locals := 21 } s m ([.ref v, .long p0] : List Value).toArray below meth c H locs 0 0 (MQ below (q_Q g K L [] f (q_Pi (fun (z : Int) (f1 : Nat → va_E) => f = f1 ∧ (-1) ≤ z ∧ z ≤ 9))) ([.ref v, .long p0] : List Value).toArray s 0 0 (fun q => q ∈ L)) (F0 m 2 ls []) := by
    intro n
    induction n with
    | zero =>
      intro v2_1 v2_3 lv2_3 uv2_3 hmu
      exact absurd hmu (Nat.not_lt_zero _)
    | succ n ih2 =>
      intro v2_1 v2_3 lv2_3 uv2_3 hmu H locs hB ls hl
      refine q_ild_n cx dX10_numberOf_2 rfl (lv_at hl 2 rfl) ?_
      refine q_ald_n cx dX10_numberOf_3 rfl (lv_at hl 0 rfl) ?_
      obtain ⟨x91, ex91⟩ : ∃ zz, q_is (q_z f v 3) zz := ⟨_, q_isr _⟩
      refine q_gX10_35_16 cx hB hv kv ex91 dX10_numberOf_4 (fun lb92 ub92 => ?_)
      refine q_icge (tgt := 31) cx ⟨by omega, by omega⟩ ⟨by omega, by omega⟩ dX10_numberOf_7 (by decide) (fun c93 => ?_) (fun c93 => ?_)
      · refine q_iconst cx dX10_numberOf_31 ?_
        refine q_iret cx hr hlk hB dX10_numberOf_32 ⟨by decide, by decide⟩ ?_
        exact ⟨rfl, (by decide), (by decide)⟩
      · refine q_ald_n cx dX10_numberOf_10 rfl (lv_at hl 0 rfl) ?_
        refine q_ild_n cx dX10_numberOf_11 rfl (lv_at hl 2 rfl) ?_
        refine q_cVr (As := [.int (q_i v2_3)]) (rest := []) cx hB (fun _ h => h) hN hv kv (by decide) rfl (g_X10_nodeAt_4 l g hN hB.2.1 v hv kv v2_3 (by omega) (by omega)) q_cX10_66 q_dX10_nodeAt (by decide) rfl rfl hl.1 rfl (Nat.le_of_ble_eq_true rfl) dX10_numberOf_12 (fun y95 H locs f94 h96 hF hB => ?_)
        obtain ⟨rfl, hy95, ky95⟩ := h96
        obtain ⟨j97, ej97⟩ : ∃ zz, q_j f y95 0 = zz := ⟨_, rfl⟩
        refine q_gX10_88_20 cx hB hy95 ky95 ej97 dX10_numberOf_15 ?_
        refine q_lld_n cx dX10_numberOf_18 rfl (lv_at hl 1 rfl) ?_
        refine q_lcmp cx dX10_numberOf_19 (fun y98 ly98 uy98 ey98 gy98 hy98 => ?_)
        refine q_ifne (tgt := 25) cx ⟨by omega, by omega⟩ dX10_numberOf_20 (by decide) (fun c99 => ?_) (fun c99 => ?_)
        · refine q_iinc (lv' := [(3, .int (q_i (v2_3 + 1))), (0, .ref v), (1, .long v2_1)]) cx dX10_numberOf_25 hl (k := 2) rfl (by decide) rfl (fun ls hl => ?_)
          refine lv_goto (tgt := 2) cx.1 cx.2.1 dX10_numberOf_28 (by decide) ?_
          exact ih2 v2_1 (v2_3 + 1) (by omega) (by omega) (by omega) H locs hB ls (lv_sub hl [1, 2, 0] rfl)
        · refine q_ild_n cx dX10_numberOf_23 rfl (lv_at hl 2 rfl) ?_
          refine q_iret cx hr hlk hB dX10_numberOf_24 ⟨by omega, by omega⟩ ?_
          exact ⟨rfl, (by omega), (by omega)⟩
  obtain ⟨H, hH⟩ : ∃ H : Heap, H = s.heap := ⟨_, rfl⟩
  obtain ⟨locs, hlocs⟩ : ∃ z : List Loc, z = [] := ⟨_, rfl⟩
  rw [← hH, ← hlocs] at hB
  rw [← hH, ← hlocs]
  refine q_iconst cx dX10_numberOf_0 ?_
  refine lv_istore_n (lv' := [(3, .int (q_i 0)), (0, .ref v), (1, .long p0)]) cx.1 cx.2.1 dX10_numberOf_1 rfl hl (by decide) rfl (fun ls hl => ?_)
  exact J2 ((Int.toNat (2147483647 - 0)) + 1) p0 0 (by decide) (by decide) (Nat.lt_succ_self _) H locs hB ls (lv_sub hl [1, 2, 0] rfl)
set_option maxHeartbeats 4000000 in
set_option maxRecDepth 100000 in
theorem g_X8_expectNode (l : Launch) (g : q_G) {K : Nat → Nat} {L : List Nat} (hN : L.Nodup) {f : Nat → va_E} (hT : q_Ty g K L f) (v : Nat) (hv : v ∈ L) (kv : K v = 8) (p0 : Nat) (hp0 : p0 ∈ L) (kp0 : K p0 = 10) : q_Ct l g K L yX8_expectNode cX8_expectNode 3 (some .int) 2 44 [.ref v, .ref p0] f [(8, 2, 3)] (q_Pi (fun (z : Int) (f1 : Nat → va_E) => (-1) ≤ z ∧ z ≤ 9)) := by
  refine q_ofb (by decide +kernel) hN hT (Nat.le_of_ble_eq_true rfl) ?_
  intro p e s m below meth c ls cx hr hlk hB hl
  have hl : lv_has ls 3 [(0, .ref v), (1, .ref p0)] := hl
  have J29 : ∀ (f29 : Nat → va_E) (v29_2 : Int) (lv29_2 : (-1) ≤ v29_2) (uv29_2 : v29_2 ≤ 9) (H : Heap) (locs : List Loc) (hB : q_B g K L (fun q => q ∈ L) [(8, 2, 3)] f f29 s H locs) (ls : Array Slot) (hl : lv_has ls 3 [(2, .int (q_i v29_2))]), W p l e { frames := 2, cells := 0, slots := 0, locals := 44 } s m ([.ref v, .ref p0] : List Value).toArray below meth c H locs 0 0 (MQ below (q_Q g K L [(8, 2, 3)] f (q_Pi (fun (z : Int) (f1 : Nat → va_E) => (-1) ≤ z ∧ z ≤ 9))) ([.ref v, .ref p0] : List Value).toArray s 0 0 (fun q => q ∈ L)) (F0 m 29 ls []) := by
    intro f29 v29_2 lv29_2 uv29_2 H locs hB ls hl
    refine q_ild_n cx dX8_expectNode_29 rfl (lv_at hl 0 rfl) ?_
    refine q_iret cx hr hlk hB dX8_expectNode_30 ⟨by omega, by omega⟩ ?_
    exact ⟨(by omega), (by omega)⟩
  obtain ⟨H, hH⟩ : ∃ H : Heap, H = s.heap := ⟨_, rfl⟩
  obtain ⟨locs, hlocs⟩ : ∃ z : List Loc, z = [] := ⟨_, rfl⟩
  rw [← hH, ← hlocs] at hB
  rw [← hH, ← hlocs]
  refine q_ald_n cx dX8_expectNode_0 rfl (lv_at hl 0 rfl) ?_
  refine q_cVi (As := []) (rest := []) cx hB (fun _ h => h) hN hv kv (by decide) rfl (g_X8_expectName l g hN hB.2.1 v hv kv) q_cX8_89 q_dX8_expectName (by decide) rfl rfl hl.1 rfl (Nat.le_of_ble_eq_true rfl) dX8_expectNode_1 (fun y14 H locs f13 ry14 h15 hF hB => ?_)
  obtain ⟨ly14, uy14⟩ := h15
  refine q_ifne (tgt := 9) cx ⟨by omega, by omega⟩ dX8_expectNode_4 (by decide) (fun c16 => ?_) (fun c16 => ?_)
  · refine q_ald_n cx dX8_expectNode_9 rfl (lv_at hl 1 rfl) ?_
    refine q_ald_n cx dX8_expectNode_10 rfl (lv_at hl 0 rfl) ?_
    obtain ⟨j17, ej17⟩ : ∃ zz, q_j f13 v 4 = zz := ⟨_, rfl⟩
    refine q_gX8_56 cx hB hv kv ej17 dX8_expectNode_11 ?_
    refine q_cVi (As := [.long j17]) (rest := []) cx hB (fun _ h => h) hN hp0 kp0 (by decide) rfl (g_X10_numberOf l g hN hB.2.1 p0 hp0 kp0 j17) q_cX8_93 q_dX10_numberOf (by decide) rfl rfl hl.1 rfl (Nat.le_of_ble_eq_true rfl) dX8_expectNode_14 (fun y19 H locs f18 ry19 h20 hF hB => ?_)
    obtain ⟨rfl, ly19, uy19⟩ := h20
    refine lv_istore_n (lv' := [(2, .int (q_i y19)), (0, .ref v), (1, .ref p0)]) cx.1 cx.2.1 dX8_expectNode_17 rfl hl (by decide) rfl (fun ls hl => ?_)
    refine q_ild_n cx dX8_expectNode_18 rfl (lv_at hl 0 rfl) ?_
    refine q_iconst cx dX8_expectNode_19 ?_
    refine q_icne (tgt := 29) cx ⟨by omega, by omega⟩ ⟨by decide, by decide⟩ dX8_expectNode_20 (by decide) (fun c21 => ?_) (fun c21 => ?_)
    · exact J29 f13 y19 (by omega) (by omega) H locs hB ls (lv_sub hl [0] rfl)
    · refine q_ald_n cx dX8_expectNode_23 rfl (lv_at hl 1 rfl) ?_
      refine q_iconst cx dX8_expectNode_24 ?_
      refine q_cVi (As := [.int (q_i 4)]) (rest := []) cx hB (fun _ h => h) hN hv kv (by decide) rfl (g_X8_fail l g hN hB.2.1 v hv kv 4 (by decide) (by decide)) q_cX8_79 q_dX8_fail (by decide) rfl rfl hl.1 rfl (Nat.le_of_ble_eq_true rfl) dX8_expectNode_25 (fun y23 H locs f22 ry23 h24 hF hB => ?_)
      obtain ⟨ly23, uy23⟩ := h24
      refine lv_pop cx.1 cx.2.1 dX8_expectNode_28 rfl ?_
      exact J29 f22 y19 (by omega) (by omega) H locs hB ls (lv_sub hl [0] rfl)
  · refine q_iconst cx dX8_expectNode_7 ?_
    refine q_iret cx hr hlk hB dX8_expectNode_8 ⟨by decide, by decide⟩ ?_
    exact ⟨(by decide), (by decide)⟩
set_option maxHeartbeats 4000000 in
set_option maxRecDepth 100000 in
theorem g_X8_expectNode_01 (l : Launch) (g : q_G) {K : Nat → Nat} {L : List Nat} (hN : L.Nodup) {f : Nat → va_E} (hT : q_Ty g K L f) (v : Nat) (hv : v ∈ L) (kv : K v = 8) (p0 : Nat) (hp0 : p0 ∈ L) (kp0 : K p0 = 13) : q_Ct l g K L yX8_expectNode cX8_expectNode 3 (some .int) 2 44 [.ref v, .ref p0] f [(8, 2, 3)] (q_Pi (fun (z : Int) (f1 : Nat → va_E) => (-1) ≤ z ∧ z ≤ 9)) := by
  refine q_ofb (by decide +kernel) hN hT (Nat.le_of_ble_eq_true rfl) ?_
  intro p e s m below meth c ls cx hr hlk hB hl
  have hl : lv_has ls 3 [(0, .ref v), (1, .ref p0)] := hl
  have J29 : ∀ (f29 : Nat → va_E) (v29_2 : Int) (lv29_2 : (-1) ≤ v29_2) (uv29_2 : v29_2 ≤ 9) (H : Heap) (locs : List Loc) (hB : q_B g K L (fun q => q ∈ L) [(8, 2, 3)] f f29 s H locs) (ls : Array Slot) (hl : lv_has ls 3 [(2, .int (q_i v29_2))]), W p l e { frames := 2, cells := 0, slots := 0, locals := 44 } s m ([.ref v, .ref p0] : List Value).toArray below meth c H locs 0 0 (MQ below (q_Q g K L [(8, 2, 3)] f (q_Pi (fun (z : Int) (f1 : Nat → va_E) => (-1) ≤ z ∧ z ≤ 9))) ([.ref v, .ref p0] : List Value).toArray s 0 0 (fun q => q ∈ L)) (F0 m 29 ls []) := by
    intro f29 v29_2 lv29_2 uv29_2 H locs hB ls hl
    refine q_ild_n cx dX8_expectNode_29 rfl (lv_at hl 0 rfl) ?_
    refine q_iret cx hr hlk hB dX8_expectNode_30 ⟨by omega, by omega⟩ ?_
    exact ⟨(by omega), (by omega)⟩
  obtain ⟨H, hH⟩ : ∃ H : Heap, H = s.heap := ⟨_, rfl⟩
  obtain ⟨locs, hlocs⟩ : ∃ z : List Loc, z = [] := ⟨_, rfl⟩
  rw [← hH, ← hlocs] at hB
  rw [← hH, ← hlocs]
  refine q_ald_n cx dX8_expectNode_0 rfl (lv_at hl 0 rfl) ?_
  refine q_cVi (As := []) (rest := []) cx hB (fun _ h => h) hN hv kv (by decide) rfl (g_X8_expectName l g hN hB.2.1 v hv kv) q_cX8_89 q_dX8_expectName (by decide) rfl rfl hl.1 rfl (Nat.le_of_ble_eq_true rfl) dX8_expectNode_1 (fun y14 H locs f13 ry14 h15 hF hB => ?_)
  obtain ⟨ly14, uy14⟩ := h15
  refine q_ifne (tgt := 9) cx ⟨by omega, by omega⟩ dX8_expectNode_4 (by decide) (fun c16 => ?_) (fun c16 => ?_)
  · refine q_ald_n cx dX8_expectNode_9 rfl (lv_at hl 1 rfl) ?_
    refine q_ald_n cx dX8_expectNode_10 rfl (lv_at hl 0 rfl) ?_
    obtain ⟨j17, ej17⟩ : ∃ zz, q_j f13 v 4 = zz := ⟨_, rfl⟩
    refine q_gX8_56 cx hB hv kv ej17 dX8_expectNode_11 ?_
    refine q_cVi (As := [.long j17]) (rest := []) cx hB (fun _ h => h) hN hp0 kp0 (by decide) rfl (g_X10_numberOf_1 l g hN hB.2.1 p0 hp0 kp0 j17) q_cX8_93 q_dX10_numberOf (by decide) rfl rfl hl.1 rfl (Nat.le_of_ble_eq_true rfl) dX8_expectNode_14 (fun y19 H locs f18 ry19 h20 hF hB => ?_)
    obtain ⟨rfl, ly19, uy19⟩ := h20
    refine lv_istore_n (lv' := [(2, .int (q_i y19)), (0, .ref v), (1, .ref p0)]) cx.1 cx.2.1 dX8_expectNode_17 rfl hl (by decide) rfl (fun ls hl => ?_)
    refine q_ild_n cx dX8_expectNode_18 rfl (lv_at hl 0 rfl) ?_
    refine q_iconst cx dX8_expectNode_19 ?_
    refine q_icne (tgt := 29) cx ⟨by omega, by omega⟩ ⟨by decide, by decide⟩ dX8_expectNode_20 (by decide) (fun c21 => ?_) (fun c21 => ?_)
    · exact J29 f13 y19 (by omega) (by omega) H locs hB ls (lv_sub hl [0] rfl)
    · refine q_ald_n cx dX8_expectNode_23 rfl (lv_at hl 1 rfl) ?_
      refine q_iconst cx dX8_expectNode_24 ?_
      refine q_cVi (As := [.int (q_i 4)]) (rest := []) cx hB (fun _ h => h) hN hv kv (by decide) rfl (g_X8_fail l g hN hB.2.1 v hv kv 4 (by decide) (by decide)) q_cX8_79 q_dX8_fail (by decide) rfl rfl hl.1 rfl (Nat.le_of_ble_eq_true rfl) dX8_expectNode_25 (fun y23 H locs f22 ry23 h24 hF hB => ?_)
      obtain ⟨ly23, uy23⟩ := h24
      refine lv_pop cx.1 cx.2.1 dX8_expectNode_28 rfl ?_
      exact J29 f22 y19 (by omega) (by omega) H locs hB ls (lv_sub hl [0] rfl)
  · refine q_iconst cx dX8_expectNode_7 ?_
    refine q_iret cx hr hlk hB dX8_expectNode_8 ⟨by decide, by decide⟩ ?_
    exact ⟨(by decide), (by decide)⟩
set_option maxHeartbeats 4000000 in
set_option maxRecDepth 100000 in
theorem g_X7_readNames (l : Launch) (g : q_G) {K : Nat → Nat} {L : List Nat} (hN : L.Nodup) {f : Nat → va_E} (hT : q_Ty g K L f) (v : Nat) (hv : v ∈ L) (kv : K v = 7) (p0 : Nat) (hp0 : p0 ∈ L) (kp0 : K p0 = 8) (p1 : Nat) (hp1 : p1 ∈ L) (kp1 : K p1 = 10) (p2 : Nat) (hp2 : p2 ∈ L) (kp2 : K p2 = 0) : q_Ct l g K L yX7_readNames cX7_readNames 4 (some .boolean) 3 66 [.ref v, .ref p0, .ref p1, .ref p2] f [(0, 2, 3), (8, 2, 4), (8, 6, 9)] (q_Pi (fun (z : Int) (f1 : Nat → va_E) => 0 ≤ z ∧ z ≤ 1)) := by
  refine q_ofb (by decide +kernel) hN hT (Nat.le_of_ble_eq_true rfl) ?_
  intro p e s m below meth c ls cx hr hlk hB hl
  have hl : lv_has ls 4 [(0, .ref v), (1, .ref p0), (2, .ref p1), (3, .ref p2)] := hl
  have J69 : ∀ (f69 : Nat → va_E) (H : Heap) (locs : List Loc) (hB : q_B g K L (fun q => q ∈ L) [(0, 2, 3), (8, 2, 4), (8, 6, 9)] f f69 s H locs) (ls : Array Slot) (hl : lv_has ls 4 []), W p l e { frames := 3, cells := 0, slots := 0, locals := 66 } s m ([.ref v, .ref p0, .ref p1, .ref p2] : List Value).toArray below meth c H locs 0 0 (MQ below (q_Q g K L [(0, 2, 3), (8, 2, 4), (8, 6, 9)] f (q_Pi (fun (z : Int) (f1 : Nat → va_E) => 0 ≤ z ∧ z ≤ 1))) ([.ref v, .ref p0, .ref p1, .ref p2] : List Value).toArray s 0 0 (fun q => q ∈ L)) (F0 m 69 ls []) := by
    intro f69 H locs hB ls hl
    refine q_iconst cx dX7_readNames_69 ?_
    refine q_zret cx hr hlk hB dX7_readNames_70 (by decide) (by decide) ?_
    exact ⟨(by decide), (by decide)⟩
  have J46 : ∀ (f46 : Nat → va_E) (H : Heap) (locs : List Loc) (hB : q_B g K L (fun q => q ∈ L) [(0, 2, 3), (8, 2, 4), (8, 6, 9)] f f46 s H locs) (ls : Array Slot) (hl : lv_has ls 4 [(1, .ref p0), (2, .ref p1), (3, .ref p2)]), W p l e { frames := 3, cells := 0, slots := 0, locals := 66 } s m ([.ref v, .ref p0, .ref p1, .ref p2] : List Value).toArray below meth c H locs 0 0 (MQ below (q_Q g K L [(0, 2, 3), (8, 2, 4), (8, 6, 9)] f (q_Pi (fun (z : Int) (f1 : Nat → va_E) => 0 ≤ z ∧ z ≤ 1))) ([.ref v, .ref p0, .ref p1, .ref p2] : List Value).toArray s 0 0 (fun q => q ∈ L)) (F0 m 46 ls []) := by
    intro f46 H locs hB ls hl
    refine q_ald_n cx dX7_readNames_46 rfl (lv_at hl 2 rfl) ?_
    refine q_ald_n cx dX7_readNames_47 rfl (lv_at hl 0 rfl) ?_
    refine q_ald_n cx dX7_readNames_48 rfl (lv_at hl 1 rfl) ?_
    refine q_cVi (As := [.ref p1]) (rest := [.ref p2]) cx hB (fun _ h => h) hN hp0 kp0 (by decide) rfl (g_X8_expectNode l g hN hB.2.1 p0 hp0 kp0 p1 hp1 kp1) q_cX7_114 q_dX8_expectNode (by decide) rfl rfl hl.1 rfl (Nat.le_of_ble_eq_true rfl) dX7_readNames_49 (fun y30 H locs f29 ry30 h31 hF hB => ?_)
    obtain ⟨ly30, uy30⟩ := h31
    refine q_pX7_121 cx hB hp2 kp2 ⟨by omega, by omega⟩ (by omega) (by omega) rfl dX7_readNames_52 (fun H locs f32 ef32 z33 hB => ?_)
    refine q_ald_n cx dX7_readNames_55 rfl (lv_at hl 2 rfl) ?_
    refine q_gX7_121 cx hB hp2 kp2 z33 dX7_readNames_56 (fun lb34 ub34 => ?_)
    refine q_iconst cx dX7_readNames_59 ?_
    refine q_icne (tgt := 65) cx ⟨by omega, by omega⟩ ⟨by decide, by decide⟩ dX7_readNames_60 (by decide) (fun c35 => ?_) (fun c35 => ?_)
    · refine q_ald_n cx dX7_readNames_65 rfl (lv_at hl 0 rfl) ?_
      refine q_cVv (As := []) (rest := []) cx hB (fun _ h => h) hN hp0 kp0 (by decide) rfl (g_X8_advance l g hN hB.2.1 p0 hp0 kp0) q_cX7_81 q_dX8_advance (by decide) rfl rfl hl.1 rfl (Nat.le_of_ble_eq_true rfl) dX7_readNames_66 (fun H locs f36 h38 hF hB => ?_)
      exact J69 f36 H locs hB ls (lv_sub hl [] rfl)
    · refine q_iconst cx dX7_readNames_63 ?_
      refine q_zret cx hr hlk hB dX7_readNames_64 (by decide) (by decide) ?_
      exact ⟨(by decide), (by decide)⟩
  have J30 : ∀ (f30 : Nat → va_E) (H : Heap) (locs : List Loc) (hB : q_B g K L (fun q => q ∈ L) [(0, 2, 3), (8, 2, 4), (8, 6, 9)] f f30 s H locs) (ls : Array Slot) (hl : lv_has ls 4 [(1, .ref p0), (2, .ref p1), (3, .ref p2)]), W p l e { frames := 3, cells := 0, slots := 0, locals := 66 } s m ([.ref v, .ref p0, .ref p1, .ref p2] : List Value).toArray below meth c H locs 0 0 (MQ below (q_Q g K L [(0, 2, 3), (8, 2, 4), (8, 6, 9)] f (q_Pi (fun (z : Int) (f1 : Nat → va_E) => 0 ≤ z ∧ z ≤ 1))) ([.ref v, .ref p0, .ref p1, .ref p2] : List Value).toArray s 0 0 (fun q => q ∈ L)) (F0 m 30 ls []) := by
    intro f30 H locs hB ls hl
    refine q_ald_n cx dX7_readNames_30 rfl (lv_at hl 2 rfl) ?_
    obtain ⟨x39, ex39⟩ : ∃ zz, q_is (q_z f30 p2 0) zz := ⟨_, q_isr _⟩
    refine q_gX7_78 cx hB hp2 kp2 ex39 dX7_readNames_31 (fun lb40 ub40 => ?_)
    refine q_iconst cx dX7_readNames_34 ?_
    refine q_iceq (tgt := 46) cx ⟨by omega, by omega⟩ ⟨by decide, by decide⟩ dX7_readNames_35 (by decide) (fun c41 => ?_) (fun c41 => ?_)
    · exact J46 f30 H locs hB ls (lv_sub hl [0, 1, 2] rfl)
    · refine q_ald_n cx dX7_readNames_38 rfl (lv_at hl 2 rfl) ?_
      refine q_gX7_78 cx hB hp2 kp2 ex39 dX7_readNames_39 (fun lb42 ub42 => ?_)
      refine q_iconst cx dX7_readNames_42 ?_
      refine q_icne (tgt := 69) cx ⟨by omega, by omega⟩ ⟨by decide, by decide⟩ dX7_readNames_43 (by decide) (fun c43 => ?_) (fun c43 => ?_)
      · exact J69 f30 H locs hB ls (lv_sub hl [] rfl)
      · exact J46 f30 H locs hB ls (lv_sub hl [0, 1, 2] rfl)
  obtain ⟨H, hH⟩ : ∃ H : Heap, H = s.heap := ⟨_, rfl⟩
  obtain ⟨locs, hlocs⟩ : ∃ z : List Loc, z = [] := ⟨_, rfl⟩
  rw [← hH, ← hlocs] at hB
  rw [← hH, ← hlocs]
  refine q_ald_n cx dX7_readNames_0 rfl (lv_at hl 3 rfl) ?_
  obtain ⟨x44, ex44⟩ : ∃ zz, q_is (q_z f p2 0) zz := ⟨_, q_isr _⟩
  refine q_gX7_78 cx hB hp2 kp2 ex44 dX7_readNames_1 (fun lb45 ub45 => ?_)
  refine q_ifeq (tgt := 30) cx ⟨by omega, by omega⟩ dX7_readNames_4 (by decide) (fun c46 => ?_) (fun c46 => ?_)
  · exact J30 f H locs hB ls (lv_sub hl [1, 2, 3] rfl)
  · refine q_ald_n cx dX7_readNames_7 rfl (lv_at hl 3 rfl) ?_
    refine q_ald_n cx dX7_readNames_8 rfl (lv_at hl 1 rfl) ?_
    refine q_ald_n cx dX7_readNames_9 rfl (lv_at hl 2 rfl) ?_
    refine q_cVi (As := [.ref p1]) (rest := [.ref p2]) cx hB (fun _ h => h) hN hp0 kp0 (by decide) rfl (g_X8_expectNode l g hN hB.2.1 p0 hp0 kp0 p1 hp1 kp1) q_cX7_114 q_dX8_expectNode (by decide) rfl rfl hl.1 rfl (Nat.le_of_ble_eq_true rfl) dX7_readNames_10 (fun y48 H locs f47 ry48 h49 hF hB => ?_)
    obtain ⟨ly48, uy48⟩ := h49
    refine q_pX7_118 cx hB hp2 kp2 ⟨by omega, by omega⟩ (by omega) (by omega) rfl dX7_readNames_13 (fun H locs f50 ef50 z51 hB => ?_)
    refine q_ald_n cx dX7_readNames_16 rfl (lv_at hl 3 rfl) ?_
    refine q_gX7_118 cx hB hp2 kp2 z51 dX7_readNames_17 (fun lb52 ub52 => ?_)
    refine q_iconst cx dX7_readNames_20 ?_
    refine q_icne (tgt := 26) cx ⟨by omega, by omega⟩ ⟨by decide, by decide⟩ dX7_readNames_21 (by decide) (fun c53 => ?_) (fun c53 => ?_)
    · refine q_ald_n cx dX7_readNames_26 rfl (lv_at hl 1 rfl) ?_
      refine q_cVv (As := []) (rest := []) cx hB (fun _ h => h) hN hp0 kp0 (by decide) rfl (g_X8_advance l g hN hB.2.1 p0 hp0 kp0) q_cX7_81 q_dX8_advance (by decide) rfl rfl hl.1 rfl (Nat.le_of_ble_eq_true rfl) dX7_readNames_27 (fun H locs f54 h56 hF hB => ?_)
      exact J30 f54 H locs hB ls (lv_sub hl [1, 2, 3] rfl)
    · refine q_iconst cx dX7_readNames_24 ?_
      refine q_zret cx hr hlk hB dX7_readNames_25 (by decide) (by decide) ?_
      exact ⟨(by decide), (by decide)⟩
set_option maxHeartbeats 4000000 in
set_option maxRecDepth 100000 in
theorem g_X7_readNumber (l : Launch) (g : q_G) {K : Nat → Nat} {L : List Nat} (hN : L.Nodup) {f : Nat → va_E} (hT : q_Ty g K L f) (v : Nat) (hv : v ∈ L) (kv : K v = 7) (p0 : Nat) (hp0 : p0 ∈ L) (kp0 : K p0 = 8) (p1 : Nat) (hp1 : p1 ∈ L) (kp1 : K p1 = 0) : q_Ct l g K L yX7_readNumber cX7_readNumber 3 (some .boolean) 4 84 [.ref v, .ref p0, .ref p1] f [(0, 1, 1), (8, 2, 9)] (q_Pi (fun (z : Int) (f1 : Nat → va_E) => 0 ≤ z ∧ z ≤ 1)) := by
  refine q_ofb (by decide +kernel) hN hT (Nat.le_of_ble_eq_true rfl) ?_
  intro p e s m below meth c ls cx hr hlk hB hl
  have hl : lv_has ls 3 [(0, .ref v), (1, .ref p0), (2, .ref p1)] := hl
  obtain ⟨H, hH⟩ : ∃ H : Heap, H = s.heap := ⟨_, rfl⟩
  obtain ⟨locs, hlocs⟩ : ∃ z : List Loc, z = [] := ⟨_, rfl⟩
  rw [← hH, ← hlocs] at hB
  rw [← hH, ← hlocs]
  refine q_ald_n cx dX7_readNumber_0 rfl (lv_at hl 1 rfl) ?_
  refine q_iconst cx dX7_readNumber_1 ?_
  refine q_sipush cx dX7_readNumber_2 rfl ?_
  refine q_cVi (As := [.int (q_i 0), .int (q_i 999)]) (rest := []) cx hB (fun _ h => h) hN hp0 kp0 (by decide) rfl (g_X8_takeNumber l g hN hB.2.1 p0 hp0 kp0 0 (by decide) (by decide) 999 (by decide) (by decide)) q_cX7_95 q_dX8_takeNumber (by decide) rfl rfl hl.1 rfl (Nat.le_of_ble_eq_true rfl) dX7_readNumber_5 (fun y17 H locs f16 ry17 h18 hF hB => ?_)
  obtain ⟨ly17, uy17, t19⟩ := h18
  refine q_ifne (tgt := 13) cx ⟨by omega, by omega⟩ dX7_readNumber_8 (by decide) (fun c20 => ?_) (fun c20 => ?_)
  · refine q_ald_n cx dX7_readNumber_13 rfl (lv_at hl 2 rfl) ?_
    refine q_ald_n cx dX7_readNumber_14 rfl (lv_at hl 1 rfl) ?_
    obtain ⟨x21, ex21⟩ : ∃ zz, q_is (q_z f16 p0 5) zz := ⟨_, q_isr _⟩
    refine q_gX7_99 cx hB hp0 kp0 ex21 dX7_readNumber_15 (fun lb22 ub22 => ?_)
    refine q_pX7_102 cx hB hp1 kp1 ⟨by omega, by omega⟩ (by omega) (by omega) rfl dX7_readNumber_18 (fun H locs f23 ef23 z24 hB => ?_)
    have z25 : q_is (q_z f23 p0 5) x21 := by rw [ef23, q_setz (Or.inr (by decide))]; exact ex21
    refine q_ald_n cx dX7_readNumber_21 rfl (lv_at hl 1 rfl) ?_
    refine q_bipush cx dX7_readNumber_22 rfl ?_
    refine q_cVi (As := [.int (q_i 59)]) (rest := []) cx hB (fun _ h => h) hN hp0 kp0 (by decide) rfl (g_X8_takeMark l g hN hB.2.1 p0 hp0 kp0 59 (by decide) (by decide)) q_cX7_108 q_dX8_takeMark (by decide) rfl rfl hl.1 rfl (Nat.le_of_ble_eq_true rfl) dX7_readNumber_24 (fun y27 H locs f26 ry27 h28 hF hB => ?_)
    obtain ⟨ly27, uy27⟩ := h28
    have z29 : q_is (q_z f26 p0 5) x21 := Eq.trans (hF.z hp0 (by rw [kp0]; rfl)) z25
    have z30 : q_is (q_z f26 p1 1) x21 := Eq.trans (hF.z hp1 (by rw [kp1]; rfl)) z24
    refine q_zret cx hr hlk hB dX7_readNumber_27 (by omega) (by omega) ?_
    exact ⟨(by omega), (by omega)⟩
  · refine q_iconst cx dX7_readNumber_11 ?_
    refine q_zret cx hr hlk hB dX7_readNumber_12 (by decide) (by decide) ?_
    exact ⟨(by decide), (by decide)⟩
set_option maxHeartbeats 4000000 in
set_option maxRecDepth 100000 in
theorem g_X7_endRound (l : Launch) (g : q_G) {K : Nat → Nat} {L : List Nat} (hN : L.Nodup) {f : Nat → va_E} (hT : q_Ty g K L f) (v : Nat) (hv : v ∈ L) (kv : K v = 7) (p0 : Int) (lp0 : (-2147483648) ≤ p0) (up0 : p0 ≤ 2147483647) : q_Ct l g K L yX7_endRound cX7_endRound 3 (some .int) 1 21 [.ref v, .int (q_i p0)] f [(0, 6, 6), (7, 3, 3)] (q_Pi (fun (z : Int) (f1 : Nat → va_E) => True)) := by
  refine q_ofb (by decide +kernel) hN hT (Nat.le_of_ble_eq_true rfl) ?_
  intro p e s m below meth c ls cx hr hlk hB hl
  have hl : lv_has ls 3 [(0, .ref v), (1, .int (q_i p0))] := hl
  obtain ⟨H, hH⟩ : ∃ H : Heap, H = s.heap := ⟨_, rfl⟩
  obtain ⟨locs, hlocs⟩ : ∃ z : List Loc, z = [] := ⟨_, rfl⟩
  rw [← hH, ← hlocs] at hB
  rw [← hH, ← hlocs]
  refine q_ald_n cx dX7_endRound_0 rfl (lv_at hl 0 rfl) ?_
  refine q_ald_n cx dX7_endRound_1 rfl (lv_at hl 0 rfl) ?_
  obtain ⟨x22, ex22⟩ : ∃ zz, q_is (q_z f v 3) zz := ⟨_, q_isr _⟩
  refine q_gX7_22 cx hB hv kv ex22 dX7_endRound_2 (fun lb23 ub23 => ?_)
  refine q_cVr (As := [.int (q_i x22)]) (rest := []) cx hB (fun _ h => h) hN hv kv (by decide) rfl (g_X7_commandAt l g hN hB.2.1 v hv kv x22 (by omega) (by omega)) q_cX7_74 q_dX7_commandAt (by decide) rfl rfl hl.1 rfl (Nat.le_of_ble_eq_true rfl) dX7_endRound_5 (fun y25 H locs f24 h26 hF hB => ?_)
  obtain ⟨rfl, hy25, ky25⟩ := h26
  refine lv_astore_n (lv' := [(2, .ref y25), (0, .ref v), (1, .int (q_i p0))]) cx.1 cx.2.1 dX7_endRound_8 rfl hl (by decide) rfl (fun ls hl => ?_)
  refine q_ald_n cx dX7_endRound_9 rfl (lv_at hl 0 rfl) ?_
  refine lv_dup cx.1 cx.2.1 dX7_endRound_10 rfl ?_
  obtain ⟨x27, ex27⟩ : ∃ zz, q_is (q_z f y25 6) zz := ⟨_, q_isr _⟩
  refine q_gX7_132 cx hB hy25 ky25 ex27 dX7_endRound_11 (fun lb28 ub28 => ?_)
  refine q_iconst cx dX7_endRound_14 ?_
  refine q_isub cx dX7_endRound_15 ?_
  refine q_any (fun y29 ry29 ey29 => ?_)
  refine q_pX7_132 cx hB hy25 ky25 ⟨by omega, by omega⟩ (by omega) (by omega) rfl dX7_endRound_16 (fun H locs f30 ef30 z31 hB => ?_)
  have z32 : q_is (q_z f30 v 3) x22 := by rw [ef30, q_setz (Or.inr (by decide))]; exact ex22
  refine q_ald_n cx dX7_endRound_19 rfl (lv_at hl 0 rfl) ?_
  refine q_gX7_132 cx hB hy25 ky25 z31 dX7_endRound_20 (fun lb33 ub33 => ?_)
  refine q_ifle (tgt := 33) cx ⟨by omega, by omega⟩ dX7_endRound_23 (by decide) (fun c34 => ?_) (fun c34 => ?_)
  · refine q_ald_n cx dX7_endRound_33 rfl (lv_at hl 1 rfl) ?_
    refine q_ald_n cx dX7_endRound_34 rfl (lv_at hl 0 rfl) ?_
    obtain ⟨x35, ex35⟩ : ∃ zz, q_is (q_z f30 y25 5) zz := ⟨_, q_isr _⟩
    refine q_gX7_105 cx hB hy25 ky25 ex35 dX7_endRound_35 (fun lb36 ub36 => ?_)
    refine q_pX7_22 cx hB hv kv ⟨by omega, by omega⟩ (by omega) (by omega) rfl dX7_endRound_38 (fun H locs f37 ef37 z38 hB => ?_)
    have z39 : q_is (q_z f37 y25 6) y29 := by rw [ef37, q_setz (Or.inr (by decide))]; exact z31
    have z40 : q_is (q_z f37 y25 5) x35 := by rw [ef37, q_setz (Or.inr (by decide))]; exact ex35
    refine q_ild_n cx dX7_endRound_41 rfl (lv_at hl 2 rfl) ?_
    refine q_iret cx hr hlk hB dX7_endRound_42 ⟨by omega, by omega⟩ ?_
    trivial
  · refine q_ald_n cx dX7_endRound_26 rfl (lv_at hl 1 rfl) ?_
    refine q_gX7_22 cx hB hv kv z32 dX7_endRound_27 (fun lb41 ub41 => ?_)
    refine q_iconst cx dX7_endRound_30 ?_
    refine q_iadd cx dX7_endRound_31 ?_
    refine q_any (fun y42 ry42 ey42 => ?_)
    refine q_iret cx hr hlk hB dX7_endRound_32 ⟨by omega, by omega⟩ ?_
    trivial
set_option maxHeartbeats 4000000 in
set_option maxRecDepth 100000 in
theorem g_X10_isTickCount (l : Launch) (g : q_G) {K : Nat → Nat} {L : List Nat} (hN : L.Nodup) {f : Nat → va_E} (hT : q_Ty g K L f) (p0 : Int) (lp0 : (-2147483648) ≤ p0) (up0 : p0 ≤ 2147483647) : q_Ct l g K L yX10_isTickCount cX10_isTickCount 1 (some .boolean) 0 0 [.int (q_i p0)] f [] (q_Pi (fun (z : Int) (f1 : Nat → va_E) => f = f1 ∧ 0 ≤ z ∧ z ≤ 1)) := by
  refine q_ofb (by decide +kernel) hN hT (Nat.le_of_ble_eq_true rfl) ?_
  intro p e s m below meth c ls cx hr hlk hB hl
  have hl : lv_has ls 1 [(0, .int (q_i p0))] := hl
  have J16 : ∀ (t16_0 : Int) (lt16_0 : 0 ≤ t16_0) (ut16_0 : t16_0 ≤ 1) (H : Heap) (locs : List Loc) (hB : q_B g K L (fun q => q ∈ L) [] f f s H locs) (ls : Array Slot) (hl : lv_has ls 1 []), W p l e { frames := 0, cells := 0, slots := 0, locals := 0 } s m ([.int (q_i p0)] : List Value).toArray below meth c H locs 0 0 (MQ below (q_Q g K L [] f (q_Pi (fun (z : Int) (f1 : Nat → va_E) => f = f1 ∧ 0 ≤ z ∧ z ≤ 1))) ([.int (q_i p0)] : List Value).toArray s 0 0 (fun q => q ∈ L)) (F0 m 16 ls [.int (q_i t16_0)]) := by
    intro t16_0 lt16_0 ut16_0 H locs hB ls hl
    refine q_zret cx hr hlk hB dX10_isTickCount_16 (by omega) (by omega) ?_
    exact ⟨rfl, (by omega), (by omega)⟩
  have J15 : ∀  (H : Heap) (locs : List Loc) (hB : q_B g K L (fun q => q ∈ L) [] f f s H locs) (ls : Array Slot) (hl : lv_has ls 1 []), W p l e { frames := 0, cells := 0, slots := 0, locals := 0 } s m ([.int (q_i p0)] : List Value).toArray below meth c H locs 0 0 (MQ below (q_Q g K L [] f (q_Pi (fun (z : Int) (f1 : Nat → va_E) => f = f1 ∧ 0 ≤ z ∧ z ≤ 1))) ([.int (q_i p0)] : List Value).toArray s 0 0 (fun q => q ∈ L)) (F0 m 15 ls []) := by
    intro  H locs hB ls hl
    refine q_iconst cx dX10_isTickCount_15 ?_
    exact J16 0 (by decide) (by decide) H locs hB ls (lv_sub hl [] rfl)
  obtain ⟨H, hH⟩ : ∃ H : Heap, H = s.heap := ⟨_, rfl⟩
  obtain ⟨locs, hlocs⟩ : ∃ z : List Loc, z = [] := ⟨_, rfl⟩
  rw [← hH, ← hlocs] at hB
  rw [← hH, ← hlocs]
  refine q_ild_n cx dX10_isTickCount_0 rfl (lv_at hl 0 rfl) ?_
  refine q_iconst cx dX10_isTickCount_1 ?_
  refine q_iclt (tgt := 15) cx ⟨by omega, by omega⟩ ⟨by decide, by decide⟩ dX10_isTickCount_2 (by decide) (fun c3 => ?_) (fun c3 => ?_)
  · exact J15  H locs hB ls (lv_sub hl [] rfl)
  · refine q_ild_n cx dX10_isTickCount_5 rfl (lv_at hl 0 rfl) ?_
    refine q_bipush cx dX10_isTickCount_6 rfl ?_
    refine q_icgt (tgt := 15) cx ⟨by omega, by omega⟩ ⟨by decide, by decide⟩ dX10_isTickCount_8 (by decide) (fun c4 => ?_) (fun c4 => ?_)
    · exact J15  H locs hB ls (lv_sub hl [] rfl)
    · refine q_iconst cx dX10_isTickCount_11 ?_
      refine lv_goto (tgt := 16) cx.1 cx.2.1 dX10_isTickCount_12 (by decide) ?_
      exact J16 1 (by decide) (by decide) H locs hB ls (lv_sub hl [] rfl)
set_option maxHeartbeats 4000000 in
set_option maxRecDepth 100000 in
theorem g_X10_hasTimeFor (l : Launch) (g : q_G) {K : Nat → Nat} {L : List Nat} (hN : L.Nodup) {f : Nat → va_E} (hT : q_Ty g K L f) (v : Nat) (hv : v ∈ L) (kv : K v = 10) (p0 : Int) (lp0 : (-2147483648) ≤ p0) (up0 : p0 ≤ 2147483647) : q_Ct l g K L yX10_hasTimeFor cX10_hasTimeFor 2 (some .boolean) 0 0 [.ref v, .int (q_i p0)] f [] (q_Pi (fun (z : Int) (f1 : Nat → va_E) => f = f1 ∧ 0 ≤ z ∧ z ≤ 1)) := by
  refine q_ofb (by decide +kernel) hN hT (Nat.le_of_ble_eq_true rfl) ?_
  intro p e s m below meth c ls cx hr hlk hB hl
  have hl : lv_has ls 2 [(0, .ref v), (1, .int (q_i p0))] := hl
  have J17 : ∀ (t17_0 : Int) (lt17_0 : 0 ≤ t17_0) (ut17_0 : t17_0 ≤ 1) (H : Heap) (locs : List Loc) (hB : q_B g K L (fun q => q ∈ L) [] f f s H locs) (ls : Array Slot) (hl : lv_has ls 2 []), W p l e { frames := 0, cells := 0, slots := 0, locals := 0 } s m ([.ref v, .int (q_i p0)] : List Value).toArray below meth c H locs 0 0 (MQ below (q_Q g K L [] f (q_Pi (fun (z : Int) (f1 : Nat → va_E) => f = f1 ∧ 0 ≤ z ∧ z ≤ 1))) ([.ref v, .int (q_i p0)] : List Value).toArray s 0 0 (fun q => q ∈ L)) (F0 m 17 ls [.int (q_i t17_0)]) := by
    intro t17_0 lt17_0 ut17_0 H locs hB ls hl
    refine q_zret cx hr hlk hB dX10_hasTimeFor_17 (by omega) (by omega) ?_
    exact ⟨rfl, (by omega), (by omega)⟩
  obtain ⟨H, hH⟩ : ∃ H : Heap, H = s.heap := ⟨_, rfl⟩
  obtain ⟨locs, hlocs⟩ : ∃ z : List Loc, z = [] := ⟨_, rfl⟩
  rw [← hH, ← hlocs] at hB
  rw [← hH, ← hlocs]
  refine q_ald_n cx dX10_hasTimeFor_0 rfl (lv_at hl 0 rfl) ?_
  obtain ⟨x5, ex5⟩ : ∃ zz, q_is (q_z f v 11) zz := ⟨_, q_isr _⟩
  refine q_gX10_60 cx hB hv kv ex5 dX10_hasTimeFor_1 (fun lb6 ub6 => ?_)
  refine q_ild_n cx dX10_hasTimeFor_4 rfl (lv_at hl 1 rfl) ?_
  refine q_iadd cx dX10_hasTimeFor_5 ?_
  refine q_any (fun y7 ry7 ey7 => ?_)
  refine q_sipush cx dX10_hasTimeFor_6 rfl ?_
  refine q_icgt (tgt := 16) cx ⟨by omega, by omega⟩ ⟨by decide, by decide⟩ dX10_hasTimeFor_9 (by decide) (fun c8 => ?_) (fun c8 => ?_)
  · refine q_iconst cx dX10_hasTimeFor_16 ?_
    exact J17 0 (by decide) (by decide) H locs hB ls (lv_sub hl [] rfl)
  · refine q_iconst cx dX10_hasTimeFor_12 ?_
    refine lv_goto (tgt := 17) cx.1 cx.2.1 dX10_hasTimeFor_13 (by decide) ?_
    exact J17 1 (by decide) (by decide) H locs hB ls (lv_sub hl [] rfl)
set_option maxHeartbeats 4000000 in
set_option maxRecDepth 100000 in
theorem g_X10_hasTimeFor_1 (l : Launch) (g : q_G) {K : Nat → Nat} {L : List Nat} (hN : L.Nodup) {f : Nat → va_E} (hT : q_Ty g K L f) (v : Nat) (hv : v ∈ L) (kv : K v = 13) (p0 : Int) (lp0 : (-2147483648) ≤ p0) (up0 : p0 ≤ 2147483647) : q_Ct l g K L yX10_hasTimeFor cX10_hasTimeFor 2 (some .boolean) 0 0 [.ref v, .int (q_i p0)] f [] (q_Pi (fun (z : Int) (f1 : Nat → va_E) => f = f1 ∧ 0 ≤ z ∧ z ≤ 1)) := by
  refine q_ofb (by decide +kernel) hN hT (Nat.le_of_ble_eq_true rfl) ?_
  intro p e s m below meth c ls cx hr hlk hB hl
  have hl : lv_has ls 2 [(0, .ref v), (1, .int (q_i p0))] := hl
  have J17 : ∀ (t17_0 : Int) (lt17_0 : 0 ≤ t17_0) (ut17_0 : t17_0 ≤ 1) (H : Heap) (locs : List Loc) (hB : q_B g K L (fun q => q ∈ L) [] f f s H locs) (ls : Array Slot) (hl : lv_has ls 2 []), W p l e { frames := 0, cells := 0, slots := 0, locals := 0 } s m ([.ref v, .int (q_i p0)] : List Value).toArray below meth c H locs 0 0 (MQ below (q_Q g K L [] f (q_Pi (fun (z : Int) (f1 : Nat → va_E) => f = f1 ∧ 0 ≤ z ∧ z ≤ 1))) ([.ref v, .int (q_i p0)] : List Value).toArray s 0 0 (fun q => q ∈ L)) (F0 m 17 ls [.int (q_i t17_0)]) := by
    intro t17_0 lt17_0 ut17_0 H locs hB ls hl
    refine q_zret cx hr hlk hB dX10_hasTimeFor_17 (by omega) (by omega) ?_
    exact ⟨rfl, (by omega), (by omega)⟩
  obtain ⟨H, hH⟩ : ∃ H : Heap, H = s.heap := ⟨_, rfl⟩
  obtain ⟨locs, hlocs⟩ : ∃ z : List Loc, z = [] := ⟨_, rfl⟩
  rw [← hH, ← hlocs] at hB
  rw [← hH, ← hlocs]
  refine q_ald_n cx dX10_hasTimeFor_0 rfl (lv_at hl 0 rfl) ?_
  obtain ⟨x5, ex5⟩ : ∃ zz, q_is (q_z f v 11) zz := ⟨_, q_isr _⟩
  refine q_gX10_60_13 cx hB hv kv ex5 dX10_hasTimeFor_1 (fun lb6 ub6 => ?_)
  refine q_ild_n cx dX10_hasTimeFor_4 rfl (lv_at hl 1 rfl) ?_
  refine q_iadd cx dX10_hasTimeFor_5 ?_
  refine q_any (fun y7 ry7 ey7 => ?_)
  refine q_sipush cx dX10_hasTimeFor_6 rfl ?_
  refine q_icgt (tgt := 16) cx ⟨by omega, by omega⟩ ⟨by decide, by decide⟩ dX10_hasTimeFor_9 (by decide) (fun c8 => ?_) (fun c8 => ?_)
  · refine q_iconst cx dX10_hasTimeFor_16 ?_
    exact J17 0 (by decide) (by decide) H locs hB ls (lv_sub hl [] rfl)
  · refine q_iconst cx dX10_hasTimeFor_12 ?_
    refine lv_goto (tgt := 17) cx.1 cx.2.1 dX10_hasTimeFor_13 (by decide) ?_
    exact J17 1 (by decide) (by decide) H locs hB ls (lv_sub hl [] rfl)
set_option maxHeartbeats 4000000 in
set_option maxRecDepth 100000 in
theorem g_X10_hasTimeFor_2 (l : Launch) (g : q_G) {K : Nat → Nat} {L : List Nat} (hN : L.Nodup) {f : Nat → va_E} (hT : q_Ty g K L f) (v : Nat) (hv : v ∈ L) (kv : K v = 14) (p0 : Int) (lp0 : (-2147483648) ≤ p0) (up0 : p0 ≤ 2147483647) : q_Ct l g K L yX10_hasTimeFor cX10_hasTimeFor 2 (some .boolean) 0 0 [.ref v, .int (q_i p0)] f [] (q_Pi (fun (z : Int) (f1 : Nat → va_E) => f = f1 ∧ 0 ≤ z ∧ z ≤ 1)) := by
  refine q_ofb (by decide +kernel) hN hT (Nat.le_of_ble_eq_true rfl) ?_
  intro p e s m below meth c ls cx hr hlk hB hl
  have hl : lv_has ls 2 [(0, .ref v), (1, .int (q_i p0))] := hl
  have J17 : ∀ (t17_0 : Int) (lt17_0 : 0 ≤ t17_0) (ut17_0 : t17_0 ≤ 1) (H : Heap) (locs : List Loc) (hB : q_B g K L (fun q => q ∈ L) [] f f s H locs) (ls : Array Slot) (hl : lv_has ls 2 []), W p l e { frames := 0, cells := 0, slots := 0, locals := 0 } s m ([.ref v, .int (q_i p0)] : List Value).toArray below meth c H locs 0 0 (MQ below (q_Q g K L [] f (q_Pi (fun (z : Int) (f1 : Nat → va_E) => f = f1 ∧ 0 ≤ z ∧ z ≤ 1))) ([.ref v, .int (q_i p0)] : List Value).toArray s 0 0 (fun q => q ∈ L)) (F0 m 17 ls [.int (q_i t17_0)]) := by
    intro t17_0 lt17_0 ut17_0 H locs hB ls hl
    refine q_zret cx hr hlk hB dX10_hasTimeFor_17 (by omega) (by omega) ?_
    exact ⟨rfl, (by omega), (by omega)⟩
  obtain ⟨H, hH⟩ : ∃ H : Heap, H = s.heap := ⟨_, rfl⟩
  obtain ⟨locs, hlocs⟩ : ∃ z : List Loc, z = [] := ⟨_, rfl⟩
  rw [← hH, ← hlocs] at hB
  rw [← hH, ← hlocs]
  refine q_ald_n cx dX10_hasTimeFor_0 rfl (lv_at hl 0 rfl) ?_
  obtain ⟨x5, ex5⟩ : ∃ zz, q_is (q_z f v 11) zz := ⟨_, q_isr _⟩
  refine q_gX10_60_14 cx hB hv kv ex5 dX10_hasTimeFor_1 (fun lb6 ub6 => ?_)
  refine q_ild_n cx dX10_hasTimeFor_4 rfl (lv_at hl 1 rfl) ?_
  refine q_iadd cx dX10_hasTimeFor_5 ?_
  refine q_any (fun y7 ry7 ey7 => ?_)
  refine q_sipush cx dX10_hasTimeFor_6 rfl ?_
  refine q_icgt (tgt := 16) cx ⟨by omega, by omega⟩ ⟨by decide, by decide⟩ dX10_hasTimeFor_9 (by decide) (fun c8 => ?_) (fun c8 => ?_)
  · refine q_iconst cx dX10_hasTimeFor_16 ?_
    exact J17 0 (by decide) (by decide) H locs hB ls (lv_sub hl [] rfl)
  · refine q_iconst cx dX10_hasTimeFor_12 ?_
    refine lv_goto (tgt := 17) cx.1 cx.2.1 dX10_hasTimeFor_13 (by decide) ?_
    exact J17 1 (by decide) (by decide) H locs hB ls (lv_sub hl [] rfl)
set_option maxHeartbeats 4000000 in
set_option maxRecDepth 100000 in
theorem g_X10_hasTimeFor_3 (l : Launch) (g : q_G) {K : Nat → Nat} {L : List Nat} (hN : L.Nodup) {f : Nat → va_E} (hT : q_Ty g K L f) (v : Nat) (hv : v ∈ L) (kv : K v = 15) (p0 : Int) (lp0 : (-2147483648) ≤ p0) (up0 : p0 ≤ 2147483647) : q_Ct l g K L yX10_hasTimeFor cX10_hasTimeFor 2 (some .boolean) 0 0 [.ref v, .int (q_i p0)] f [] (q_Pi (fun (z : Int) (f1 : Nat → va_E) => f = f1 ∧ 0 ≤ z ∧ z ≤ 1)) := by
  refine q_ofb (by decide +kernel) hN hT (Nat.le_of_ble_eq_true rfl) ?_
  intro p e s m below meth c ls cx hr hlk hB hl
  have hl : lv_has ls 2 [(0, .ref v), (1, .int (q_i p0))] := hl
  have J17 : ∀ (t17_0 : Int) (lt17_0 : 0 ≤ t17_0) (ut17_0 : t17_0 ≤ 1) (H : Heap) (locs : List Loc) (hB : q_B g K L (fun q => q ∈ L) [] f f s H locs) (ls : Array Slot) (hl : lv_has ls 2 []), W p l e { frames := 0, cells := 0, slots := 0, locals := 0 } s m ([.ref v, .int (q_i p0)] : List Value).toArray below meth c H locs 0 0 (MQ below (q_Q g K L [] f (q_Pi (fun (z : Int) (f1 : Nat → va_E) => f = f1 ∧ 0 ≤ z ∧ z ≤ 1))) ([.ref v, .int (q_i p0)] : List Value).toArray s 0 0 (fun q => q ∈ L)) (F0 m 17 ls [.int (q_i t17_0)]) := by
    intro t17_0 lt17_0 ut17_0 H locs hB ls hl
    refine q_zret cx hr hlk hB dX10_hasTimeFor_17 (by omega) (by omega) ?_
    exact ⟨rfl, (by omega), (by omega)⟩
  obtain ⟨H, hH⟩ : ∃ H : Heap, H = s.heap := ⟨_, rfl⟩
  obtain ⟨locs, hlocs⟩ : ∃ z : List Loc, z = [] := ⟨_, rfl⟩
  rw [← hH, ← hlocs] at hB
  rw [← hH, ← hlocs]
  refine q_ald_n cx dX10_hasTimeFor_0 rfl (lv_at hl 0 rfl) ?_
  obtain ⟨x5, ex5⟩ : ∃ zz, q_is (q_z f v 11) zz := ⟨_, q_isr _⟩
  refine q_gX10_60_15 cx hB hv kv ex5 dX10_hasTimeFor_1 (fun lb6 ub6 => ?_)
  refine q_ild_n cx dX10_hasTimeFor_4 rfl (lv_at hl 1 rfl) ?_
  refine q_iadd cx dX10_hasTimeFor_5 ?_
  refine q_any (fun y7 ry7 ey7 => ?_)
  refine q_sipush cx dX10_hasTimeFor_6 rfl ?_
  refine q_icgt (tgt := 16) cx ⟨by omega, by omega⟩ ⟨by decide, by decide⟩ dX10_hasTimeFor_9 (by decide) (fun c8 => ?_) (fun c8 => ?_)
  · refine q_iconst cx dX10_hasTimeFor_16 ?_
    exact J17 0 (by decide) (by decide) H locs hB ls (lv_sub hl [] rfl)
  · refine q_iconst cx dX10_hasTimeFor_12 ?_
    refine lv_goto (tgt := 17) cx.1 cx.2.1 dX10_hasTimeFor_13 (by decide) ?_
    exact J17 1 (by decide) (by decide) H locs hB ls (lv_sub hl [] rfl)
set_option maxHeartbeats 4000000 in
set_option maxRecDepth 100000 in
theorem g_X10_hasTimeFor_4 (l : Launch) (g : q_G) {K : Nat → Nat} {L : List Nat} (hN : L.Nodup) {f : Nat → va_E} (hT : q_Ty g K L f) (v : Nat) (hv : v ∈ L) (kv : K v = 16) (p0 : Int) (lp0 : (-2147483648) ≤ p0) (up0 : p0 ≤ 2147483647) : q_Ct l g K L yX10_hasTimeFor cX10_hasTimeFor 2 (some .boolean) 0 0 [.ref v, .int (q_i p0)] f [] (q_Pi (fun (z : Int) (f1 : Nat → va_E) => f = f1 ∧ 0 ≤ z ∧ z ≤ 1)) := by
  refine q_ofb (by decide +kernel) hN hT (Nat.le_of_ble_eq_true rfl) ?_
  intro p e s m below meth c ls cx hr hlk hB hl
  have hl : lv_has ls 2 [(0, .ref v), (1, .int (q_i p0))] := hl
  have J17 : ∀ (t17_0 : Int) (lt17_0 : 0 ≤ t17_0) (ut17_0 : t17_0 ≤ 1) (H : Heap) (locs : List Loc) (hB : q_B g K L (fun q => q ∈ L) [] f f s H locs) (ls : Array Slot) (hl : lv_has ls 2 []), W p l e { frames := 0, cells := 0, slots := 0, locals := 0 } s m ([.ref v, .int (q_i p0)] : List Value).toArray below meth c H locs 0 0 (MQ below (q_Q g K L [] f (q_Pi (fun (z : Int) (f1 : Nat → va_E) => f = f1 ∧ 0 ≤ z ∧ z ≤ 1))) ([.ref v, .int (q_i p0)] : List Value).toArray s 0 0 (fun q => q ∈ L)) (F0 m 17 ls [.int (q_i t17_0)]) := by
    intro t17_0 lt17_0 ut17_0 H locs hB ls hl
    refine q_zret cx hr hlk hB dX10_hasTimeFor_17 (by omega) (by omega) ?_
    exact ⟨rfl, (by omega), (by omega)⟩
  obtain ⟨H, hH⟩ : ∃ H : Heap, H = s.heap := ⟨_, rfl⟩
  obtain ⟨locs, hlocs⟩ : ∃ z : List Loc, z = [] := ⟨_, rfl⟩
  rw [← hH, ← hlocs] at hB
  rw [← hH, ← hlocs]
  refine q_ald_n cx dX10_hasTimeFor_0 rfl (lv_at hl 0 rfl) ?_
  obtain ⟨x5, ex5⟩ : ∃ zz, q_is (q_z f v 11) zz := ⟨_, q_isr _⟩
  refine q_gX10_60_16 cx hB hv kv ex5 dX10_hasTimeFor_1 (fun lb6 ub6 => ?_)
  refine q_ild_n cx dX10_hasTimeFor_4 rfl (lv_at hl 1 rfl) ?_
  refine q_iadd cx dX10_hasTimeFor_5 ?_
  refine q_any (fun y7 ry7 ey7 => ?_)
  refine q_sipush cx dX10_hasTimeFor_6 rfl ?_
  refine q_icgt (tgt := 16) cx ⟨by omega, by omega⟩ ⟨by decide, by decide⟩ dX10_hasTimeFor_9 (by decide) (fun c8 => ?_) (fun c8 => ?_)
  · refine q_iconst cx dX10_hasTimeFor_16 ?_
    exact J17 0 (by decide) (by decide) H locs hB ls (lv_sub hl [] rfl)
  · refine q_iconst cx dX10_hasTimeFor_12 ?_
    refine lv_goto (tgt := 17) cx.1 cx.2.1 dX10_hasTimeFor_13 (by decide) ?_
    exact J17 1 (by decide) (by decide) H locs hB ls (lv_sub hl [] rfl)
set_option maxHeartbeats 4000000 in
set_option maxRecDepth 100000 in
theorem g_X10_isSending (l : Launch) (g : q_G) {K : Nat → Nat} {L : List Nat} (hN : L.Nodup) {f : Nat → va_E} (hT : q_Ty g K L f) (p0 : Int) (lp0 : (-2147483648) ≤ p0) (up0 : p0 ≤ 2147483647) (p1 : Int) (lp1 : (-2147483648) ≤ p1) (up1 : p1 ≤ 2147483647) (p2 : Int) (lp2 : (-2147483648) ≤ p2) (up2 : p2 ≤ 2147483647) : q_Ct l g K L yX10_isSending cX10_isSending 3 (some .boolean) 0 0 [.int (q_i p0), .int (q_i p1), .int (q_i p2)] f [] (q_Pi (fun (z : Int) (f1 : Nat → va_E) => f = f1 ∧ 0 ≤ z ∧ z ≤ 1)) := by
  refine q_ofb (by decide +kernel) hN hT (Nat.le_of_ble_eq_true rfl) ?_
  intro p e s m below meth c ls cx hr hlk hB hl
  have hl : lv_has ls 3 [(0, .int (q_i p0)), (1, .int (q_i p1)), (2, .int (q_i p2))] := hl
  have J22 : ∀ (t22_0 : Int) (lt22_0 : 0 ≤ t22_0) (ut22_0 : t22_0 ≤ 1) (H : Heap) (locs : List Loc) (hB : q_B g K L (fun q => q ∈ L) [] f f s H locs) (ls : Array Slot) (hl : lv_has ls 3 []), W p l e { frames := 0, cells := 0, slots := 0, locals := 0 } s m ([.int (q_i p0), .int (q_i p1), .int (q_i p2)] : List Value).toArray below meth c H locs 0 0 (MQ below (q_Q g K L [] f (q_Pi (fun (z : Int) (f1 : Nat → va_E) => f = f1 ∧ 0 ≤ z ∧ z ≤ 1))) ([.int (q_i p0), .int (q_i p1), .int (q_i p2)] : List Value).toArray s 0 0 (fun q => q ∈ L)) (F0 m 22 ls [.int (q_i t22_0)]) := by
    intro t22_0 lt22_0 ut22_0 H locs hB ls hl
    refine q_zret cx hr hlk hB dX10_isSending_22 (by omega) (by omega) ?_
    exact ⟨rfl, (by omega), (by omega)⟩
  have J21 : ∀  (H : Heap) (locs : List Loc) (hB : q_B g K L (fun q => q ∈ L) [] f f s H locs) (ls : Array Slot) (hl : lv_has ls 3 []), W p l e { frames := 0, cells := 0, slots := 0, locals := 0 } s m ([.int (q_i p0), .int (q_i p1), .int (q_i p2)] : List Value).toArray below meth c H locs 0 0 (MQ below (q_Q g K L [] f (q_Pi (fun (z : Int) (f1 : Nat → va_E) => f = f1 ∧ 0 ≤ z ∧ z ≤ 1))) ([.int (q_i p0), .int (q_i p1), .int (q_i p2)] : List Value).toArray s 0 0 (fun q => q ∈ L)) (F0 m 21 ls []) := by
    intro  H locs hB ls hl
    refine q_iconst cx dX10_isSending_21 ?_
    exact J22 0 (by decide) (by decide) H locs hB ls (lv_sub hl [] rfl)
  obtain ⟨H, hH⟩ : ∃ H : Heap, H = s.heap := ⟨_, rfl⟩
  obtain ⟨locs, hlocs⟩ : ∃ z : List Loc, z = [] := ⟨_, rfl⟩
  rw [← hH, ← hlocs] at hB
  rw [← hH, ← hlocs]
  refine q_ild_n cx dX10_isSending_0 rfl (lv_at hl 0 rfl) ?_
  refine q_ild_n cx dX10_isSending_1 rfl (lv_at hl 1 rfl) ?_
  refine q_iceq (tgt := 21) cx ⟨by omega, by omega⟩ ⟨by omega, by omega⟩ dX10_isSending_2 (by decide) (fun c4 => ?_) (fun c4 => ?_)
  · exact J21  H locs hB ls (lv_sub hl [] rfl)
  · refine q_ild_n cx dX10_isSending_5 rfl (lv_at hl 2 rfl) ?_
    refine q_iconst cx dX10_isSending_6 ?_
    refine q_iclt (tgt := 21) cx ⟨by omega, by omega⟩ ⟨by decide, by decide⟩ dX10_isSending_7 (by decide) (fun c5 => ?_) (fun c5 => ?_)
    · exact J21  H locs hB ls (lv_sub hl [] rfl)
    · refine q_ild_n cx dX10_isSending_10 rfl (lv_at hl 2 rfl) ?_
      refine q_sipush cx dX10_isSending_11 rfl ?_
      refine q_icgt (tgt := 21) cx ⟨by omega, by omega⟩ ⟨by decide, by decide⟩ dX10_isSending_14 (by decide) (fun c6 => ?_) (fun c6 => ?_)
      · exact J21  H locs hB ls (lv_sub hl [] rfl)
      · refine q_iconst cx dX10_isSending_17 ?_
        refine lv_goto (tgt := 22) cx.1 cx.2.1 dX10_isSending_18 (by decide) ?_
        exact J22 1 (by decide) (by decide) H locs hB ls (lv_sub hl [] rfl)
set_option maxHeartbeats 4000000 in
set_option maxRecDepth 100000 in
theorem g_X10_canSend (l : Launch) (g : q_G) {K : Nat → Nat} {L : List Nat} (hN : L.Nodup) {f : Nat → va_E} (hT : q_Ty g K L f) (v : Nat) (hv : v ∈ L) (kv : K v = 10) (p0 : Int) (lp0 : (-2147483648) ≤ p0) (up0 : p0 ≤ 2147483647) (p1 : Int) (lp1 : (-2147483648) ≤ p1) (up1 : p1 ≤ 2147483647) : q_Ct l g K L yX10_canSend cX10_canSend 3 (some .boolean) 2 42 [.ref v, .int (q_i p0), .int (q_i p1)] f [] (q_Pi (fun (z : Int) (f1 : Nat → va_E) => f = f1 ∧ 0 ≤ z ∧ z ≤ 1)) := by
  refine q_ofb (by decide +kernel) hN hT (Nat.le_of_ble_eq_true rfl) ?_
  intro p e s m below meth c ls cx hr hlk hB hl
  have hl : lv_has ls 3 [(0, .ref v), (1, .int (q_i p0)), (2, .int (q_i p1))] := hl
  have J30 : ∀ (t30_0 : Int) (lt30_0 : 0 ≤ t30_0) (ut30_0 : t30_0 ≤ 1) (H : Heap) (locs : List Loc) (hB : q_B g K L (fun q => q ∈ L) [] f f s H locs) (ls : Array Slot) (hl : lv_has ls 3 []), W p l e { frames := 2, cells := 0, slots := 0, locals := 42 } s m ([.ref v, .int (q_i p0), .int (q_i p1)] : List Value).toArray below meth c H locs 0 0 (MQ below (q_Q g K L [] f (q_Pi (fun (z : Int) (f1 : Nat → va_E) => f = f1 ∧ 0 ≤ z ∧ z ≤ 1))) ([.ref v, .int (q_i p0), .int (q_i p1)] : List Value).toArray s 0 0 (fun q => q ∈ L)) (F0 m 30 ls [.int (q_i t30_0)]) := by
    intro t30_0 lt30_0 ut30_0 H locs hB ls hl
    refine q_zret cx hr hlk hB dX10_canSend_30 (by omega) (by omega) ?_
    exact ⟨rfl, (by omega), (by omega)⟩
  have J29 : ∀  (H : Heap) (locs : List Loc) (hB : q_B g K L (fun q => q ∈ L) [] f f s H locs) (ls : Array Slot) (hl : lv_has ls 3 []), W p l e { frames := 2, cells := 0, slots := 0, locals := 42 } s m ([.ref v, .int (q_i p0), .int (q_i p1)] : List Value).toArray below meth c H locs 0 0 (MQ below (q_Q g K L [] f (q_Pi (fun (z : Int) (f1 : Nat → va_E) => f = f1 ∧ 0 ≤ z ∧ z ≤ 1))) ([.ref v, .int (q_i p0), .int (q_i p1)] : List Value).toArray s 0 0 (fun q => q ∈ L)) (F0 m 29 ls []) := by
    intro  H locs hB ls hl
    refine q_iconst cx dX10_canSend_29 ?_
    exact J30 0 (by decide) (by decide) H locs hB ls (lv_sub hl [] rfl)
  obtain ⟨H, hH⟩ : ∃ H : Heap, H = s.heap := ⟨_, rfl⟩
  obtain ⟨locs, hlocs⟩ : ∃ z : List Loc, z = [] := ⟨_, rfl⟩
  rw [← hH, ← hlocs] at hB
  rw [← hH, ← hlocs]
  refine q_ald_n cx dX10_canSend_0 rfl (lv_at hl 0 rfl) ?_
  refine q_ild_n cx dX10_canSend_1 rfl (lv_at hl 1 rfl) ?_
  refine q_cVi (As := [.int (q_i p0)]) (rest := []) cx hB (fun _ h => h) hN hv kv (by decide) rfl (g_X10_isOut l g hN hB.2.1 v hv kv p0 (by omega) (by omega)) q_cX10_160 q_dX10_isOut (by decide) rfl rfl hl.1 rfl (Nat.le_of_ble_eq_true rfl) dX10_canSend_2 (fun y13 H locs f12 ry13 h14 hF hB => ?_)
  obtain ⟨rfl, ly13, uy13⟩ := h14
  refine q_ifne (tgt := 29) cx ⟨by omega, by omega⟩ dX10_canSend_5 (by decide) (fun c15 => ?_) (fun c15 => ?_)
  · exact J29  H locs hB ls (lv_sub hl [] rfl)
  · refine q_ald_n cx dX10_canSend_8 rfl (lv_at hl 0 rfl) ?_
    refine q_ild_n cx dX10_canSend_9 rfl (lv_at hl 2 rfl) ?_
    refine q_cVi (As := [.int (q_i p1)]) (rest := []) cx hB (fun _ h => h) hN hv kv (by decide) rfl (g_X10_isOut l g hN hB.2.1 v hv kv p1 (by omega) (by omega)) q_cX10_160 q_dX10_isOut (by decide) rfl rfl hl.1 rfl (Nat.le_of_ble_eq_true rfl) dX10_canSend_10 (fun y17 H locs f16 ry17 h18 hF hB => ?_)
    obtain ⟨rfl, ly17, uy17⟩ := h18
    refine q_ifne (tgt := 29) cx ⟨by omega, by omega⟩ dX10_canSend_13 (by decide) (fun c19 => ?_) (fun c19 => ?_)
    · exact J29  H locs hB ls (lv_sub hl [] rfl)
    · refine q_ald_n cx dX10_canSend_16 rfl (lv_at hl 0 rfl) ?_
      obtain ⟨x20, ex20⟩ : ∃ zz, q_is (q_z f v 5) zz := ⟨_, q_isr _⟩
      refine q_gX10_42 cx hB hv kv ex20 dX10_canSend_17 (fun lb21 ub21 => ?_)
      refine q_bipush cx dX10_canSend_20 rfl ?_
      refine q_icge (tgt := 29) cx ⟨by omega, by omega⟩ ⟨by decide, by decide⟩ dX10_canSend_22 (by decide) (fun c22 => ?_) (fun c22 => ?_)
      · exact J29  H locs hB ls (lv_sub hl [] rfl)
      · refine q_iconst cx dX10_canSend_25 ?_
        refine lv_goto (tgt := 30) cx.1 cx.2.1 dX10_canSend_26 (by decide) ?_
        exact J30 1 (by decide) (by decide) H locs hB ls (lv_sub hl [] rfl)
set_option maxHeartbeats 4000000 in
set_option maxRecDepth 100000 in
theorem g_X10_canSend_1 (l : Launch) (g : q_G) {K : Nat → Nat} {L : List Nat} (hN : L.Nodup) {f : Nat → va_E} (hT : q_Ty g K L f) (v : Nat) (hv : v ∈ L) (kv : K v = 13) (p0 : Int) (lp0 : (-2147483648) ≤ p0) (up0 : p0 ≤ 2147483647) (p1 : Int) (lp1 : (-2147483648) ≤ p1) (up1 : p1 ≤ 2147483647) : q_Ct l g K L yX10_canSend cX10_canSend 3 (some .boolean) 2 42 [.ref v, .int (q_i p0), .int (q_i p1)] f [] (q_Pi (fun (z : Int) (f1 : Nat → va_E) => f = f1 ∧ 0 ≤ z ∧ z ≤ 1)) := by
  refine q_ofb (by decide +kernel) hN hT (Nat.le_of_ble_eq_true rfl) ?_
  intro p e s m below meth c ls cx hr hlk hB hl
  have hl : lv_has ls 3 [(0, .ref v), (1, .int (q_i p0)), (2, .int (q_i p1))] := hl
  have J30 : ∀ (t30_0 : Int) (lt30_0 : 0 ≤ t30_0) (ut30_0 : t30_0 ≤ 1) (H : Heap) (locs : List Loc) (hB : q_B g K L (fun q => q ∈ L) [] f f s H locs) (ls : Array Slot) (hl : lv_has ls 3 []), W p l e { frames := 2, cells := 0, slots := 0, locals := 42 } s m ([.ref v, .int (q_i p0), .int (q_i p1)] : List Value).toArray below meth c H locs 0 0 (MQ below (q_Q g K L [] f (q_Pi (fun (z : Int) (f1 : Nat → va_E) => f = f1 ∧ 0 ≤ z ∧ z ≤ 1))) ([.ref v, .int (q_i p0), .int (q_i p1)] : List Value).toArray s 0 0 (fun q => q ∈ L)) (F0 m 30 ls [.int (q_i t30_0)]) := by
    intro t30_0 lt30_0 ut30_0 H locs hB ls hl
    refine q_zret cx hr hlk hB dX10_canSend_30 (by omega) (by omega) ?_
    exact ⟨rfl, (by omega), (by omega)⟩
  have J29 : ∀  (H : Heap) (locs : List Loc) (hB : q_B g K L (fun q => q ∈ L) [] f f s H locs) (ls : Array Slot) (hl : lv_has ls 3 []), W p l e { frames := 2, cells := 0, slots := 0, locals := 42 } s m ([.ref v, .int (q_i p0), .int (q_i p1)] : List Value).toArray below meth c H locs 0 0 (MQ below (q_Q g K L [] f (q_Pi (fun (z : Int) (f1 : Nat → va_E) => f = f1 ∧ 0 ≤ z ∧ z ≤ 1))) ([.ref v, .int (q_i p0), .int (q_i p1)] : List Value).toArray s 0 0 (fun q => q ∈ L)) (F0 m 29 ls []) := by
    intro  H locs hB ls hl
    refine q_iconst cx dX10_canSend_29 ?_
    exact J30 0 (by decide) (by decide) H locs hB ls (lv_sub hl [] rfl)
  obtain ⟨H, hH⟩ : ∃ H : Heap, H = s.heap := ⟨_, rfl⟩
  obtain ⟨locs, hlocs⟩ : ∃ z : List Loc, z = [] := ⟨_, rfl⟩
  rw [← hH, ← hlocs] at hB
  rw [← hH, ← hlocs]
  refine q_ald_n cx dX10_canSend_0 rfl (lv_at hl 0 rfl) ?_
  refine q_ild_n cx dX10_canSend_1 rfl (lv_at hl 1 rfl) ?_
  refine q_cVi (As := [.int (q_i p0)]) (rest := []) cx hB (fun _ h => h) hN hv kv (by decide) rfl (g_X10_isOut_1 l g hN hB.2.1 v hv kv p0 (by omega) (by omega)) q_cX10_160 q_dX10_isOut (by decide) rfl rfl hl.1 rfl (Nat.le_of_ble_eq_true rfl) dX10_canSend_2 (fun y13 H locs f12 ry13 h14 hF hB => ?_)
  obtain ⟨rfl, ly13, uy13⟩ := h14
  refine q_ifne (tgt := 29) cx ⟨by omega, by omega⟩ dX10_canSend_5 (by decide) (fun c15 => ?_) (fun c15 => ?_)
  · exact J29  H locs hB ls (lv_sub hl [] rfl)
  · refine q_ald_n cx dX10_canSend_8 rfl (lv_at hl 0 rfl) ?_
    refine q_ild_n cx dX10_canSend_9 rfl (lv_at hl 2 rfl) ?_
    refine q_cVi (As := [.int (q_i p1)]) (rest := []) cx hB (fun _ h => h) hN hv kv (by decide) rfl (g_X10_isOut_1 l g hN hB.2.1 v hv kv p1 (by omega) (by omega)) q_cX10_160 q_dX10_isOut (by decide) rfl rfl hl.1 rfl (Nat.le_of_ble_eq_true rfl) dX10_canSend_10 (fun y17 H locs f16 ry17 h18 hF hB => ?_)
    obtain ⟨rfl, ly17, uy17⟩ := h18
    refine q_ifne (tgt := 29) cx ⟨by omega, by omega⟩ dX10_canSend_13 (by decide) (fun c19 => ?_) (fun c19 => ?_)
    · exact J29  H locs hB ls (lv_sub hl [] rfl)
    · refine q_ald_n cx dX10_canSend_16 rfl (lv_at hl 0 rfl) ?_
      obtain ⟨x20, ex20⟩ : ∃ zz, q_is (q_z f v 5) zz := ⟨_, q_isr _⟩
      refine q_gX10_42_13 cx hB hv kv ex20 dX10_canSend_17 (fun lb21 ub21 => ?_)
      refine q_bipush cx dX10_canSend_20 rfl ?_
      refine q_icge (tgt := 29) cx ⟨by omega, by omega⟩ ⟨by decide, by decide⟩ dX10_canSend_22 (by decide) (fun c22 => ?_) (fun c22 => ?_)
      · exact J29  H locs hB ls (lv_sub hl [] rfl)
      · refine q_iconst cx dX10_canSend_25 ?_
        refine lv_goto (tgt := 30) cx.1 cx.2.1 dX10_canSend_26 (by decide) ?_
        exact J30 1 (by decide) (by decide) H locs hB ls (lv_sub hl [] rfl)
set_option maxHeartbeats 4000000 in
set_option maxRecDepth 100000 in
theorem g_X10_canSend_2 (l : Launch) (g : q_G) {K : Nat → Nat} {L : List Nat} (hN : L.Nodup) {f : Nat → va_E} (hT : q_Ty g K L f) (v : Nat) (hv : v ∈ L) (kv : K v = 14) (p0 : Int) (lp0 : (-2147483648) ≤ p0) (up0 : p0 ≤ 2147483647) (p1 : Int) (lp1 : (-2147483648) ≤ p1) (up1 : p1 ≤ 2147483647) : q_Ct l g K L yX10_canSend cX10_canSend 3 (some .boolean) 2 42 [.ref v, .int (q_i p0), .int (q_i p1)] f [] (q_Pi (fun (z : Int) (f1 : Nat → va_E) => f = f1 ∧ 0 ≤ z ∧ z ≤ 1)) := by
  refine q_ofb (by decide +kernel) hN hT (Nat.le_of_ble_eq_true rfl) ?_
  intro p e s m below meth c ls cx hr hlk hB hl
  have hl : lv_has ls 3 [(0, .ref v), (1, .int (q_i p0)), (2, .int (q_i p1))] := hl
  have J30 : ∀ (t30_0 : Int) (lt30_0 : 0 ≤ t30_0) (ut30_0 : t30_0 ≤ 1) (H : Heap) (locs : List Loc) (hB : q_B g K L (fun q => q ∈ L) [] f f s H locs) (ls : Array Slot) (hl : lv_has ls 3 []), W p l e { frames := 2, cells := 0, slots := 0, locals := 42 } s m ([.ref v, .int (q_i p0), .int (q_i p1)] : List Value).toArray below meth c H locs 0 0 (MQ below (q_Q g K L [] f (q_Pi (fun (z : Int) (f1 : Nat → va_E) => f = f1 ∧ 0 ≤ z ∧ z ≤ 1))) ([.ref v, .int (q_i p0), .int (q_i p1)] : List Value).toArray s 0 0 (fun q => q ∈ L)) (F0 m 30 ls [.int (q_i t30_0)]) := by
    intro t30_0 lt30_0 ut30_0 H locs hB ls hl
    refine q_zret cx hr hlk hB dX10_canSend_30 (by omega) (by omega) ?_
    exact ⟨rfl, (by omega), (by omega)⟩
  have J29 : ∀  (H : Heap) (locs : List Loc) (hB : q_B g K L (fun q => q ∈ L) [] f f s H locs) (ls : Array Slot) (hl : lv_has ls 3 []), W p l e { frames := 2, cells := 0, slots := 0, locals := 42 } s m ([.ref v, .int (q_i p0), .int (q_i p1)] : List Value).toArray below meth c H locs 0 0 (MQ below (q_Q g K L [] f (q_Pi (fun (z : Int) (f1 : Nat → va_E) => f = f1 ∧ 0 ≤ z ∧ z ≤ 1))) ([.ref v, .int (q_i p0), .int (q_i p1)] : List Value).toArray s 0 0 (fun q => q ∈ L)) (F0 m 29 ls []) := by
    intro  H locs hB ls hl
    refine q_iconst cx dX10_canSend_29 ?_
    exact J30 0 (by decide) (by decide) H locs hB ls (lv_sub hl [] rfl)
  obtain ⟨H, hH⟩ : ∃ H : Heap, H = s.heap := ⟨_, rfl⟩
  obtain ⟨locs, hlocs⟩ : ∃ z : List Loc, z = [] := ⟨_, rfl⟩
  rw [← hH, ← hlocs] at hB
  rw [← hH, ← hlocs]
  refine q_ald_n cx dX10_canSend_0 rfl (lv_at hl 0 rfl) ?_
  refine q_ild_n cx dX10_canSend_1 rfl (lv_at hl 1 rfl) ?_
  refine q_cVi (As := [.int (q_i p0)]) (rest := []) cx hB (fun _ h => h) hN hv kv (by decide) rfl (g_X10_isOut_2 l g hN hB.2.1 v hv kv p0 (by omega) (by omega)) q_cX10_160 q_dX10_isOut (by decide) rfl rfl hl.1 rfl (Nat.le_of_ble_eq_true rfl) dX10_canSend_2 (fun y13 H locs f12 ry13 h14 hF hB => ?_)
  obtain ⟨rfl, ly13, uy13⟩ := h14
  refine q_ifne (tgt := 29) cx ⟨by omega, by omega⟩ dX10_canSend_5 (by decide) (fun c15 => ?_) (fun c15 => ?_)
  · exact J29  H locs hB ls (lv_sub hl [] rfl)
  · refine q_ald_n cx dX10_canSend_8 rfl (lv_at hl 0 rfl) ?_
    refine q_ild_n cx dX10_canSend_9 rfl (lv_at hl 2 rfl) ?_
    refine q_cVi (As := [.int (q_i p1)]) (rest := []) cx hB (fun _ h => h) hN hv kv (by decide) rfl (g_X10_isOut_2 l g hN hB.2.1 v hv kv p1 (by omega) (by omega)) q_cX10_160 q_dX10_isOut (by decide) rfl rfl hl.1 rfl (Nat.le_of_ble_eq_true rfl) dX10_canSend_10 (fun y17 H locs f16 ry17 h18 hF hB => ?_)
    obtain ⟨rfl, ly17, uy17⟩ := h18
    refine q_ifne (tgt := 29) cx ⟨by omega, by omega⟩ dX10_canSend_13 (by decide) (fun c19 => ?_) (fun c19 => ?_)
    · exact J29  H locs hB ls (lv_sub hl [] rfl)
    · refine q_ald_n cx dX10_canSend_16 rfl (lv_at hl 0 rfl) ?_
      obtain ⟨x20, ex20⟩ : ∃ zz, q_is (q_z f v 5) zz := ⟨_, q_isr _⟩
      refine q_gX10_42_14 cx hB hv kv ex20 dX10_canSend_17 (fun lb21 ub21 => ?_)
      refine q_bipush cx dX10_canSend_20 rfl ?_
      refine q_icge (tgt := 29) cx ⟨by omega, by omega⟩ ⟨by decide, by decide⟩ dX10_canSend_22 (by decide) (fun c22 => ?_) (fun c22 => ?_)
      · exact J29  H locs hB ls (lv_sub hl [] rfl)
      · refine q_iconst cx dX10_canSend_25 ?_
        refine lv_goto (tgt := 30) cx.1 cx.2.1 dX10_canSend_26 (by decide) ?_
        exact J30 1 (by decide) (by decide) H locs hB ls (lv_sub hl [] rfl)
