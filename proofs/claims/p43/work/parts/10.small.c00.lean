set_option maxHeartbeats 4000000 in
set_option maxRecDepth 100000 in
theorem f_has (l : Launch) (g : q_G) {K : Nat → Nat} {L : List Nat} (hN : L.Nodup) {f : Nat → va_E} (hT : q_Ty g K L f) (p0 : Int) (lp0 : (-2147483648) ≤ p0) (up0 : p0 ≤ 2147483647) (p1 : Int) (lp1 : (-2147483648) ≤ p1) (up1 : p1 ≤ 2147483647) : q_Ct l g K L yX10_has cX10_has 2 (some .boolean) 0 0 [.int (q_i p0), .int (q_i p1)] f [] (q_Pi (fun (z : Int) (f1 : Nat → va_E) => (f = f1 ∧ z = 1 ∧ (tw_hz p0 p1 = 1)) ∨ (f = f1 ∧ z = 0 ∧ (tw_hz p0 p1 = 0)))) := by
  refine q_ofb (by decide +kernel) hN hT (Nat.le_of_ble_eq_true rfl) ?_
  intro p e s m below meth c ls cx hr hlk hB hl
  have hl : lv_has ls 2 [(0, .int (q_i p0)), (1, .int (q_i p1))] := hl
  obtain ⟨H, hH⟩ : ∃ H : Heap, H = s.heap := ⟨_, rfl⟩
  obtain ⟨locs, hlocs⟩ : ∃ z : List Loc, z = [] := ⟨_, rfl⟩
  rw [← hH, ← hlocs] at hB
  rw [← hH, ← hlocs]
  refine q_ild_n cx dX10_has_0 rfl (lv_at hl 0 rfl) ?_
  refine q_ild_n cx dX10_has_1 rfl (lv_at hl 1 rfl) ?_
  refine q_ishr cx dX10_has_2 (fun y4 ry4 ey4 => ?_)
  refine q_iconst cx dX10_has_3 ?_
  refine q_iandm cx 1 (by decide) rfl dX10_has_4 (fun y5 ly5 uy5 ey5 => ?_)
  refine q_ifeq (tgt := 12) cx ⟨by omega, by omega⟩ dX10_has_5 (by decide) (fun c6 => ?_) (fun c6 => ?_)
  · refine q_iconst cx dX10_has_12 ?_
    refine q_zret cx hr hlk hB dX10_has_13 (by decide) (by decide) ?_
    exact (Or.inr ⟨rfl, rfl, (by have t0_ : y4 = tw_sr p0 p1 := (tw_sr_of ry4 ey4); have t1_ : y5 = tw_an (tw_sr p0 p1) 1 := Eq.trans (tw_an_of ⟨by omega, by omega⟩ ey5) (by simp only [t0_]); (try simp only [t0_, t1_]); unfold tw_hz; (repeat' split) <;> first | rfl | (exfalso; omega))⟩)
  · refine q_iconst cx dX10_has_8 ?_
    refine lv_goto (tgt := 13) cx.1 cx.2.1 dX10_has_9 (by decide) ?_
    refine q_zret cx hr hlk hB dX10_has_13 (by decide) (by decide) ?_
    exact (Or.inl ⟨rfl, rfl, (by have t0_ : y4 = tw_sr p0 p1 := (tw_sr_of ry4 ey4); have t1_ : y5 = tw_an (tw_sr p0 p1) 1 := Eq.trans (tw_an_of ⟨by omega, by omega⟩ ey5) (by simp only [t0_]); (try simp only [t0_, t1_]); unfold tw_hz; (repeat' split) <;> first | rfl | (exfalso; omega))⟩)
set_option maxHeartbeats 4000000 in
set_option maxRecDepth 100000 in
theorem f_hasDay (l : Launch) (g : q_G) {K : Nat → Nat} {L : List Nat} (hN : L.Nodup) {f : Nat → va_E} (hT : q_Ty g K L f) (p0 : Int64) (p1 : Int) (lp1 : (-2147483648) ≤ p1) (up1 : p1 ≤ 2147483647) : q_Ct l g K L yX10_hasDay cX10_hasDay 3 (some .boolean) 0 0 [.long p0, .int (q_i p1)] f [] (q_Pi (fun (z : Int) (f1 : Nat → va_E) => (f = f1 ∧ z = 1 ∧ (tw_hd p0 p1 = 1)) ∨ (f = f1 ∧ z = 0 ∧ (tw_hd p0 p1 = 0)))) := by
  refine q_ofb (by decide +kernel) hN hT (Nat.le_of_ble_eq_true rfl) ?_
  intro p e s m below meth c ls cx hr hlk hB hl
  have hl : lv_has ls 3 [(0, .long p0), (2, .int (q_i p1))] := hl
  obtain ⟨H, hH⟩ : ∃ H : Heap, H = s.heap := ⟨_, rfl⟩
  obtain ⟨locs, hlocs⟩ : ∃ z : List Loc, z = [] := ⟨_, rfl⟩
  rw [← hH, ← hlocs] at hB
  rw [← hH, ← hlocs]
  refine q_lld_n cx dX10_hasDay_0 rfl (lv_at hl 0 rfl) ?_
  refine q_ild_n cx dX10_hasDay_1 rfl (lv_at hl 1 rfl) ?_
  refine lv_lshr cx.1 cx.2.1 dX10_hasDay_2 rfl ?_
  refine lv_topl (fun j5 ej5 => ?_)
  refine q_lconst (z := 1) cx (by decide) dX10_hasDay_3 ?_
  refine lv_land cx.1 cx.2.1 dX10_hasDay_4 ?_
  refine lv_topl (fun j6 ej6 => ?_)
  refine q_lconst (z := 0) cx (by decide) dX10_hasDay_5 ?_
  refine q_lcmp cx dX10_hasDay_6 (fun y7 ly7 uy7 ey7 gy7 hy7 => ?_)
  rw [q_lInt ⟨by decide, by decide⟩] at ey7 hy7
  refine q_ifeq (tgt := 14) cx ⟨by omega, by omega⟩ dX10_hasDay_7 (by decide) (fun c8 => ?_) (fun c8 => ?_)
  · refine q_iconst cx dX10_hasDay_14 ?_
    refine q_zret cx hr hlk hB dX10_hasDay_15 (by decide) (by decide) ?_
    exact (Or.inr ⟨rfl, rfl, (tw_hd_0 ej5 ej6 gy7 (by omega))⟩)
  · refine q_iconst cx dX10_hasDay_10 ?_
    refine lv_goto (tgt := 15) cx.1 cx.2.1 dX10_hasDay_11 (by decide) ?_
    refine q_zret cx hr hlk hB dX10_hasDay_15 (by decide) (by decide) ?_
    exact (Or.inl ⟨rfl, rfl, (tw_hd_1 ej5 ej6 gy7 (by omega))⟩)
set_option maxHeartbeats 4000000 in
set_option maxRecDepth 100000 in
theorem f_lowestOf (l : Launch) (g : q_G) {K : Nat → Nat} {L : List Nat} (hN : L.Nodup) {f : Nat → va_E} (hT : q_Ty g K L f) (p0 : Int) (lp0 : (-2147483648) ≤ p0) (up0 : p0 ≤ 2147483647) : q_Ct l g K L yX10_lowestOf cX10_lowestOf 2 (some .int) 0 0 [.int (q_i p0)] f [] (q_Pi (fun (z : Int) (f1 : Nat → va_E) => f = f1 ∧ (-1) ≤ z ∧ z ≤ 9 ∧ (z = tw_lo p0))) := by
  refine q_ofb (by decide +kernel) hN hT (Nat.le_of_ble_eq_true rfl) ?_
  intro p e s m below meth c ls cx hr hlk hB hl
  have hl : lv_has ls 2 [(0, .int (q_i p0))] := hl
  have J2 : ∀ (n : Nat) (v2_0 : Int) (lv2_0 : (-2147483648) ≤ v2_0) (uv2_0 : v2_0 ≤ 2147483647) (v2_1 : Int) (lv2_1 : 0 ≤ v2_1) (uv2_1 : v2_1 ≤ 10) (hlo : tw_lo p0 = tw_lol p0 (Int.toNat (10 - v2_1)) v2_1) (hmu : (Int.toNat (2147483647 - v2_1)) < n) (H : Heap) (locs : List Loc) (hB : q_B g K L (fun q => q ∈ L) [] f f s H locs) (ls : Array Slot) (hl : lv_has ls 2 [(0, .int (q_i v2_0)), (1, .int (q_i v2_1))]), W p l e { frames := 0, cells := 0, slots := 0, locals := 0 } s m ([.int (q_i p0)] : List Value).toArray below meth c H locs 0 0 (MQ below (q_Q g K L [] f (q_Pi (fun (z : Int) (f1 : Nat → va_E) => f = f1 ∧ (-1) ≤ z ∧ z ≤ 9 ∧ (z = tw_lo p0)))) ([.int (q_i p0)] : List Value).toArray s 0 0 (fun q => q ∈ L)) (F0 m 2 ls []) := by
    intro n
    induction n with
    | zero =>
      intro v2_0 lv2_0 uv2_0 v2_1 lv2_1 uv2_1 hlo hmu
      exact absurd hmu (Nat.not_lt_zero _)
    | succ n ih2 =>
      intro v2_0 lv2_0 uv2_0 v2_1 lv2_1 uv2_1 hlo hmu H locs hB ls hl
      refine q_ild_n cx dX10_lowestOf_2 rfl (lv_at hl 1 rfl) ?_
      refine q_bipush cx dX10_lowestOf_3 rfl ?_
      refine q_icge (tgt := 24) cx ⟨by omega, by omega⟩ ⟨by decide, by decide⟩ dX10_lowestOf_5 (by decide) (fun c5 => ?_) (fun c5 => ?_)
      · refine q_iconst cx dX10_lowestOf_24 ?_
        refine q_iret cx hr hlk hB dX10_lowestOf_25 ⟨by decide, by decide⟩ ?_
        exact ⟨rfl, (by decide), (by decide), (by skip; refine Eq.symm (hlo.trans (tw_lol_e (by omega))))⟩
      · refine q_ild_n cx dX10_lowestOf_8 rfl (lv_at hl 0 rfl) ?_
        refine q_ild_n cx dX10_lowestOf_9 rfl (lv_at hl 1 rfl) ?_
        refine q_ishr cx dX10_lowestOf_10 (fun y6 ry6 ey6 => ?_)
        refine q_iconst cx dX10_lowestOf_11 ?_
        refine q_iandm cx 1 (by decide) rfl dX10_lowestOf_12 (fun y7 ly7 uy7 ey7 => ?_)
        refine q_ifeq (tgt := 18) cx ⟨by omega, by omega⟩ dX10_lowestOf_13 (by decide) (fun c8 => ?_) (fun c8 => ?_)
        · refine q_iinc (lv' := [(1, .int (q_i (v2_1 + 1))), (0, .int (q_i v2_0))]) cx dX10_lowestOf_18 hl (k := 1) rfl (by decide) rfl (fun ls hl => ?_)
          refine lv_goto (tgt := 2) cx.1 cx.2.1 dX10_lowestOf_21 (by decide) ?_
          exact ih2 v2_0 (by omega) (by omega) (v2_1 + 1) (by omega) (by omega) (by have t0_ : y6 = tw_sr v2_0 v2_1 := (tw_sr_of ry6 ey6); have t1_ : y7 = tw_an (tw_sr v2_0 v2_1) 1 := Eq.trans (tw_an_of ⟨by omega, by omega⟩ ey7) (by simp only [t0_]); refine hlo.trans ?_; rw [tw_lol_s (by omega)]; (repeat' split) <;> first | rfl | (exfalso; omega)) (by omega) H locs hB ls (lv_sub hl [1, 0] rfl)
        · refine q_ild_n cx dX10_lowestOf_16 rfl (lv_at hl 1 rfl) ?_
          refine q_iret cx hr hlk hB dX10_lowestOf_17 ⟨by omega, by omega⟩ ?_
          exact ⟨rfl, (by omega), (by omega), (by have t0_ : y6 = tw_sr v2_0 v2_1 := (tw_sr_of ry6 ey6); have t1_ : y7 = tw_an (tw_sr v2_0 v2_1) 1 := Eq.trans (tw_an_of ⟨by omega, by omega⟩ ey7) (by simp only [t0_]); refine Eq.symm (hlo.trans ?_); rw [tw_lol_s (by omega)]; (repeat' split) <;> first | rfl | (exfalso; omega))⟩
  obtain ⟨H, hH⟩ : ∃ H : Heap, H = s.heap := ⟨_, rfl⟩
  obtain ⟨locs, hlocs⟩ : ∃ z : List Loc, z = [] := ⟨_, rfl⟩
  rw [← hH, ← hlocs] at hB
  rw [← hH, ← hlocs]
  refine q_iconst cx dX10_lowestOf_0 ?_
  refine lv_istore_n (lv' := [(1, .int (q_i 0)), (0, .int (q_i p0))]) cx.1 cx.2.1 dX10_lowestOf_1 rfl hl (by decide) rfl (fun ls hl => ?_)
  exact J2 ((Int.toNat (2147483647 - 0)) + 1) p0 (by omega) (by omega) 0 (by decide) (by decide) rfl (Nat.lt_succ_self _) H locs hB ls (lv_sub hl [1, 0] rfl)
