set_option maxHeartbeats 4000000 in
set_option maxRecDepth 100000 in
theorem g_X10_grown_2 (l : Launch) (g : q_G) {K : Nat → Nat} {L : List Nat} (hN : L.Nodup) {f : Nat → va_E} (hT : q_Ty g K L f) (v : Nat) (hv : v ∈ L) (kv : K v = 14) (p0 : Int) (lp0 : (-2147483648) ≤ p0) (up0 : p0 ≤ 2147483647) (p1 : Int) (lp1 : (-2147483648) ≤ p1) (up1 : p1 ≤ 2147483647) : q_Ct l g K L yX10_grown cX10_grown 5 (some .int) 0 0 [.ref v, .int (q_i p0), .int (q_i p1)] f [] (q_Pi (fun (z : Int) (f1 : Nat → va_E) => f = f1)) := by
  refine q_ofb (by decide +kernel) hN hT (Nat.le_of_ble_eq_true rfl) ?_
  intro p e s m below meth c ls cx hr hlk hB hl
  have hl : lv_has ls 5 [(0, .ref v), (1, .int (q_i p0)), (2, .int (q_i p1))] := hl
  have J5 : ∀ (n : Nat) (v5_3 : Int) (lv5_3 : (-2147483648) ≤ v5_3) (uv5_3 : v5_3 ≤ 2147483647) (v5_4 : Int) (lv5_4 : 0 ≤ v5_4) (uv5_4 : v5_4 ≤ 10) (hmu : (Int.toNat (2147483647 - v5_4)) < n) (H : Heap) (locs : List Loc) (hB : q_B g K L (fun q => q ∈ L) [] f f s H locs) (ls : Array Slot) (hl : lv_has ls 5 [(0, .ref v), (1, .int (q_i p0)), (2, .int (q_i p1)), (3, .int (q_i v5_3)), (4, .int (q_i v5_4))]), W p l e { frames := 0, cells := 0, slots := 0, locals := 0 } s m ([.ref v, .int (q_i p0), .int (q_i p1)] : List Value).toArray below meth c H locs 0 0 (MQ below (q_Q g K L [] f (q_Pi (fun (z : Int) (f1 : Nat → va_E) => f = f1))) ([.ref v, .int (q_i p0), .int (q_i p1)] : List Value).toArray s 0 0 (fun q => q ∈ L)) (F0 m 5 ls []) := by
    intro n
    induction n with
    | zero =>
      intro v5_3 lv5_3 uv5_3 v5_4 lv5_4 uv5_4 hmu
      exact absurd hmu (Nat.not_lt_zero _)
    | succ n ih5 =>
      intro v5_3 lv5_3 uv5_3 v5_4 lv5_4 uv5_4 hmu H locs hB ls hl
      have J48 : ∀ (v48_3 : Int) (lv48_3 : (-2147483648) ≤ v48_3) (uv48_3 : v48_3 ≤ 2147483647) (buv5_4 : v5_4 ≤ 9) (H : Heap) (locs : List Loc) (hB : q_B g K L (fun q => q ∈ L) [] f f s H locs) (ls : Array Slot) (hl : lv_has ls 5 [(0, .ref v), (1, .int (q_i p0)), (2, .int (q_i p1)), (3, .int (q_i v48_3)), (4, .int (q_i v5_4))]), W p l e { frames := 0, cells := 0, slots := 0, locals := 0 } s m ([.ref v, .int (q_i p0), .int (q_i p1)] : List Value).toArray below meth c H locs 0 0 (MQ below (q_Q g K L [] f (q_Pi (fun (z : Int) (f1 : Nat → va_E) => f = f1))) ([.ref v, .int (q_i p0), .int (q_i p1)] : List Value).toArray s 0 0 (fun q => q ∈ L)) (F0 m 48 ls []) := by
        intro v48_3 lv48_3 uv48_3 buv5_4 H locs hB ls hl
        refine q_iinc (lv' := [(4, .int (q_i (v5_4 + 1))), (0, .ref v), (1, .int (q_i p0)), (2, .int (q_i p1)), (3, .int (q_i v48_3))]) cx dX10_grown_48 hl (k := 4) rfl (by decide) rfl (fun ls hl => ?_)
        refine lv_goto (tgt := 5) cx.1 cx.2.1 dX10_grown_51 (by decide) ?_
        exact ih5 v48_3 (by omega) (by omega) (v5_4 + 1) (by omega) (by omega) (by omega) H locs hB ls (lv_sub hl [1, 2, 3, 4, 0] rfl)
      refine lv_iload cx.1 cx.2.1 dX10_grown_5 (lv_at hl 4 rfl) ?_
      refine q_ald_n cx dX10_grown_7 rfl (lv_at hl 0 rfl) ?_
      obtain ⟨x161, ex161⟩ : ∃ zz, q_is (q_z f v 3) zz := ⟨_, q_isr _⟩
      refine q_gX10_35_14 cx hB hv kv ex161 dX10_grown_8 (fun lb162 ub162 => ?_)
      refine q_icge (tgt := 54) cx ⟨by omega, by omega⟩ ⟨by omega, by omega⟩ dX10_grown_11 (by decide) (fun c163 => ?_) (fun c163 => ?_)
      · refine q_ild_n cx dX10_grown_54 rfl (lv_at hl 3 rfl) ?_
        refine q_iret cx hr hlk hB dX10_grown_55 ⟨by omega, by omega⟩ ?_
        exact rfl
      · refine lv_iload cx.1 cx.2.1 dX10_grown_14 (lv_at hl 4 rfl) ?_
        refine q_ald_n cx dX10_grown_16 rfl (lv_at hl 0 rfl) ?_
        obtain ⟨p164, ep164⟩ : ∃ zz, q_ir (q_r f v 0) zz := ⟨_, q_irr _⟩
        refine q_gX10_13_14 cx hB hv kv ep164 dX10_grown_17 (fun hb165 kb165 => ?_)
        refine q_alen (n := 10) cx hB hb165 kb165 (by decide) rfl 7 rfl rfl dX10_grown_20 ?_
        refine q_icge (tgt := 48) cx ⟨by omega, by omega⟩ ⟨by decide, by decide⟩ dX10_grown_21 (by decide) (fun c166 => ?_) (fun c166 => ?_)
        · exact absurd c166 (by omega)
        · refine q_ild_n cx dX10_grown_24 rfl (lv_at hl 1 rfl) ?_
          refine lv_iload cx.1 cx.2.1 dX10_grown_25 (lv_at hl 4 rfl) ?_
          refine q_ishr cx dX10_grown_27 (fun y167 ry167 ey167 => ?_)
          refine q_iconst cx dX10_grown_28 ?_
          refine q_iandm cx 1 (by decide) rfl dX10_grown_29 (fun y168 ly168 uy168 ey168 => ?_)
          refine q_ifeq (tgt := 48) cx ⟨by omega, by omega⟩ dX10_grown_30 (by decide) (fun c169 => ?_) (fun c169 => ?_)
          · exact J48 v5_3 (by omega) (by omega) (by omega) H locs hB ls (lv_sub hl [0, 1, 2, 3, 4] rfl)
          · refine q_ild_n cx dX10_grown_33 rfl (lv_at hl 3 rfl) ?_
            refine q_ald_n cx dX10_grown_34 rfl (lv_at hl 0 rfl) ?_
            refine q_gX10_13_14 cx hB hv kv ep164 dX10_grown_35 (fun hb170 kb170 => ?_)
            refine lv_iload cx.1 cx.2.1 dX10_grown_38 (lv_at hl 4 rfl) ?_
            obtain ⟨p171, ep171⟩ : ∃ zz, q_ir (q_r f p164 (Int.toNat v5_4)) zz := ⟨_, q_irr _⟩
            refine q_aald (k2 := 18) (n := 10) cx hB hb165 kb165 (by decide) rfl 7 rfl (by decide) rfl (by omega) (by omega) (by decide) rfl ep171 dX10_grown_40 (fun hb172 kb172 => ?_)
            obtain ⟨x173, ex173⟩ : ∃ zz, q_is (q_z f p171 5) zz := ⟨_, q_isr _⟩
            refine q_gX10_104_18 cx hB hb172 kb172 ex173 dX10_grown_41 (fun lb174 ub174 => ?_)
            refine q_ild_n cx dX10_grown_44 rfl (lv_at hl 2 rfl) ?_
            refine q_iand cx dX10_grown_45 (fun y175 ry175 ey175 => ?_)
            refine q_ior cx dX10_grown_46 (fun y176 ry176 ey176 => ?_)
            refine lv_istore_n (lv' := [(3, .int (q_i y176)), (0, .ref v), (1, .int (q_i p0)), (2, .int (q_i p1)), (4, .int (q_i v5_4))]) cx.1 cx.2.1 dX10_grown_47 rfl hl (by decide) rfl (fun ls hl => ?_)
            exact J48 y176 (by omega) (by omega) (by omega) H locs hB ls (lv_sub hl [1, 2, 3, 0, 4] rfl)
  obtain ⟨H, hH⟩ : ∃ H : Heap, H = s.heap := ⟨_, rfl⟩
  obtain ⟨locs, hlocs⟩ : ∃ z : List Loc, z = [] := ⟨_, rfl⟩
  rw [← hH, ← hlocs] at hB
  rw [← hH, ← hlocs]
  refine q_ild_n cx dX10_grown_0 rfl (lv_at hl 1 rfl) ?_
  refine lv_istore_n (lv' := [(3, .int (q_i p0)), (0, .ref v), (1, .int (q_i p0)), (2, .int (q_i p1))]) cx.1 cx.2.1 dX10_grown_1 rfl hl (by decide) rfl (fun ls hl => ?_)
  refine q_iconst cx dX10_grown_2 ?_
  refine lv_istore (lv' := [(4, .int (q_i 0)), (3, .int (q_i p0)), (0, .ref v), (1, .int (q_i p0)), (2, .int (q_i p1))]) cx.1 cx.2.1 dX10_grown_3 hl (by decide) rfl (fun ls hl => ?_)
  exact J5 ((Int.toNat (2147483647 - 0)) + 1) p0 (by omega) (by omega) 0 (by decide) (by decide) (Nat.lt_succ_self _) H locs hB ls (lv_sub hl [2, 3, 4, 1, 0] rfl)
set_option maxHeartbeats 4000000 in
set_option maxRecDepth 100000 in
theorem g_X10_grown_3 (l : Launch) (g : q_G) {K : Nat → Nat} {L : List Nat} (hN : L.Nodup) {f : Nat → va_E} (hT : q_Ty g K L f) (v : Nat) (hv : v ∈ L) (kv : K v = 15) (p0 : Int) (lp0 : (-2147483648) ≤ p0) (up0 : p0 ≤ 2147483647) (p1 : Int) (lp1 : (-2147483648) ≤ p1) (up1 : p1 ≤ 2147483647) : q_Ct l g K L yX10_grown cX10_grown 5 (some .int) 0 0 [.ref v, .int (q_i p0), .int (q_i p1)] f [] (q_Pi (fun (z : Int) (f1 : Nat → va_E) => f = f1)) := by
  refine q_ofb (by decide +kernel) hN hT (Nat.le_of_ble_eq_true rfl) ?_
  intro p e s m below meth c ls cx hr hlk hB hl
  have hl : lv_has ls 5 [(0, .ref v), (1, .int (q_i p0)), (2, .int (q_i p1))] := hl
  have J5 : ∀ (n : Nat) (v5_3 : Int) (lv5_3 : (-2147483648) ≤ v5_3) (uv5_3 : v5_3 ≤ 2147483647) (v5_4 : Int) (lv5_4 : 0 ≤ v5_4) (uv5_4 : v5_4 ≤ 10) (hmu : (Int.toNat (2147483647 - v5_4)) < n) (H : Heap) (locs : List Loc) (hB : q_B g K L (fun q => q ∈ L) [] f f s H locs) (ls : Array Slot) (hl : lv_has ls 5 [(0, .ref v), (1, .int (q_i p0)), (2, .int (q_i p1)), (3, .int (q_i v5_3)), (4, .int (q_i v5_4))]), W p l e { frames := 0, cells := 0, slots := 0, locals := 0 } s m ([.ref v, .int (q_i p0), .int (q_i p1)] : List Value).toArray below meth c H locs 0 0 (MQ below (q_Q g K L [] f (q_Pi (fun (z : Int) (f1 : Nat → va_E) => f = f1))) ([.ref v, .int (q_i p0), .int (q_i p1)] : List Value).toArray s 0 0 (fun q => q ∈ L)) (F0 m 5 ls []) := by
    intro n
    induction n with
    | zero =>
      intro v5_3 lv5_3 uv5_3 v5_4 lv5_4 uv5_4 hmu
      exact absurd hmu (Nat.not_lt_zero _)
    | succ n ih5 =>
      intro v5_3 lv5_3 uv5_3 v5_4 lv5_4 uv5_4 hmu H locs hB ls hl
      have J48 : ∀ (v48_3 : Int) (lv48_3 : (-2147483648) ≤ v48_3) (uv48_3 : v48_3 ≤ 2147483647) (buv5_4 : v5_4 ≤ 9) (H : Heap) (locs : List Loc) (hB : q_B g K L (fun q => q ∈ L) [] f f s H locs) (ls : Array Slot) (hl : lv_has ls 5 [(0, .ref v), (1, .int (q_i p0)), (2, .int (q_i p1)), (3, .int (q_i v48_3)), (4, .int (q_i v5_4))]), W p l e { frames := 0, cells := 0, slots := 0, locals := 0 } s m ([.ref v, .int (q_i p0), .int (q_i p1)] : List Value).toArray below meth c H locs 0 0 (MQ below (q_Q g K L [] f (q_Pi (fun (z : Int) (f1 : Nat → va_E) => f = f1))) ([.ref v, .int (q_i p0), .int (q_i p1)] : List Value).toArray s 0 0 (fun q => q ∈ L)) (F0 m 48 ls []) := by
        intro v48_3 lv48_3 uv48_3 buv5_4 H locs hB ls hl
        refine q_iinc (lv' := [(4, .int (q_i (v5_4 + 1))), (0, .ref v), (1, .int (q_i p0)), (2, .int (q_i p1)), (3, .int (q_i v48_3))]) cx dX10_grown_48 hl (k := 4) rfl (by decide) rfl (fun ls hl => ?_)
        refine lv_goto (tgt := 5) cx.1 cx.2.1 dX10_grown_51 (by decide) ?_
        exact ih5 v48_3 (by omega) (by omega) (v5_4 + 1) (by omega) (by omega) (by omega) H locs hB ls (lv_sub hl [1, 2, 3, 4, 0] rfl)
      refine lv_iload cx.1 cx.2.1 dX10_grown_5 (lv_at hl 4 rfl) ?_
      refine q_ald_n cx dX10_grown_7 rfl (lv_at hl 0 rfl) ?_
      obtain ⟨x161, ex161⟩ : ∃ zz, q_is (q_z f v 3) zz := ⟨_, q_isr _⟩
      refine q_gX10_35_15 cx hB hv kv ex161 dX10_grown_8 (fun lb162 ub162 => ?_)
      refine q_icge (tgt := 54) cx ⟨by omega, by omega⟩ ⟨by omega, by omega⟩ dX10_grown_11 (by decide) (fun c163 => ?_) (fun c163 => ?_)
      · refine q_ild_n cx dX10_grown_54 rfl (lv_at hl 3 rfl) ?_
        refine q_iret cx hr hlk hB dX10_grown_55 ⟨by omega, by omega⟩ ?_
        exact rfl
      · refine lv_iload cx.1 cx.2.1 dX10_grown_14 (lv_at hl 4 rfl) ?_
        refine q_ald_n cx dX10_grown_16 rfl (lv_at hl 0 rfl) ?_
        obtain ⟨p164, ep164⟩ : ∃ zz, q_ir (q_r f v 0) zz := ⟨_, q_irr _⟩
        refine q_gX10_13_15 cx hB hv kv ep164 dX10_grown_17 (fun hb165 kb165 => ?_)
        refine q_alen (n := 10) cx hB hb165 kb165 (by decide) rfl 7 rfl rfl dX10_grown_20 ?_
        refine q_icge (tgt := 48) cx ⟨by omega, by omega⟩ ⟨by decide, by decide⟩ dX10_grown_21 (by decide) (fun c166 => ?_) (fun c166 => ?_)
        · exact absurd c166 (by omega)
        · refine q_ild_n cx dX10_grown_24 rfl (lv_at hl 1 rfl) ?_
          refine lv_iload cx.1 cx.2.1 dX10_grown_25 (lv_at hl 4 rfl) ?_
          refine q_ishr cx dX10_grown_27 (fun y167 ry167 ey167 => ?_)
          refine q_iconst cx dX10_grown_28 ?_
          refine q_iandm cx 1 (by decide) rfl dX10_grown_29 (fun y168 ly168 uy168 ey168 => ?_)
          refine q_ifeq (tgt := 48) cx ⟨by omega, by omega⟩ dX10_grown_30 (by decide) (fun c169 => ?_) (fun c169 => ?_)
          · exact J48 v5_3 (by omega) (by omega) (by omega) H locs hB ls (lv_sub hl [0, 1, 2, 3, 4] rfl)
          · refine q_ild_n cx dX10_grown_33 rfl (lv_at hl 3 rfl) ?_
            refine q_ald_n cx dX10_grown_34 rfl (lv_at hl 0 rfl) ?_
            refine q_gX10_13_15 cx hB hv kv ep164 dX10_grown_35 (fun hb170 kb170 => ?_)
            refine lv_iload cx.1 cx.2.1 dX10_grown_38 (lv_at hl 4 rfl) ?_
            obtain ⟨p171, ep171⟩ : ∃ zz, q_ir (q_r f p164 (Int.toNat v5_4)) zz := ⟨_, q_irr _⟩
            refine q_aald (k2 := 19) (n := 10) cx hB hb165 kb165 (by decide) rfl 7 rfl (by decide) rfl (by omega) (by omega) (by decide) rfl ep171 dX10_grown_40 (fun hb172 kb172 => ?_)
            obtain ⟨x173, ex173⟩ : ∃ zz, q_is (q_z f p171 5) zz := ⟨_, q_isr _⟩
            refine q_gX10_104_19 cx hB hb172 kb172 ex173 dX10_grown_41 (fun lb174 ub174 => ?_)
            refine q_ild_n cx dX10_grown_44 rfl (lv_at hl 2 rfl) ?_
            refine q_iand cx dX10_grown_45 (fun y175 ry175 ey175 => ?_)
            refine q_ior cx dX10_grown_46 (fun y176 ry176 ey176 => ?_)
            refine lv_istore_n (lv' := [(3, .int (q_i y176)), (0, .ref v), (1, .int (q_i p0)), (2, .int (q_i p1)), (4, .int (q_i v5_4))]) cx.1 cx.2.1 dX10_grown_47 rfl hl (by decide) rfl (fun ls hl => ?_)
            exact J48 y176 (by omega) (by omega) (by omega) H locs hB ls (lv_sub hl [1, 2, 3, 0, 4] rfl)
  obtain ⟨H, hH⟩ : ∃ H : Heap, H = s.heap := ⟨_, rfl⟩
  obtain ⟨locs, hlocs⟩ : ∃ z : List Loc, z = [] := ⟨_, rfl⟩
  rw [← hH, ← hlocs] at hB
  rw [← hH, ← hlocs]
  refine q_ild_n cx dX10_grown_0 rfl (lv_at hl 1 rfl) ?_
  refine lv_istore_n (lv' := [(3, .int (q_i p0)), (0, .ref v), (1, .int (q_i p0)), (2, .int (q_i p1))]) cx.1 cx.2.1 dX10_grown_1 rfl hl (by decide) rfl (fun ls hl => ?_)
  refine q_iconst cx dX10_grown_2 ?_
  refine lv_istore (lv' := [(4, .int (q_i 0)), (3, .int (q_i p0)), (0, .ref v), (1, .int (q_i p0)), (2, .int (q_i p1))]) cx.1 cx.2.1 dX10_grown_3 hl (by decide) rfl (fun ls hl => ?_)
  exact J5 ((Int.toNat (2147483647 - 0)) + 1) p0 (by omega) (by omega) 0 (by decide) (by decide) (Nat.lt_succ_self _) H locs hB ls (lv_sub hl [2, 3, 4, 1, 0] rfl)
set_option maxHeartbeats 4000000 in
set_option maxRecDepth 100000 in
theorem g_X10_grown_4 (l : Launch) (g : q_G) {K : Nat → Nat} {L : List Nat} (hN : L.Nodup) {f : Nat → va_E} (hT : q_Ty g K L f) (v : Nat) (hv : v ∈ L) (kv : K v = 16) (p0 : Int) (lp0 : (-2147483648) ≤ p0) (up0 : p0 ≤ 2147483647) (p1 : Int) (lp1 : (-2147483648) ≤ p1) (up1 : p1 ≤ 2147483647) : q_Ct l g K L yX10_grown cX10_grown 5 (some .int) 0 0 [.ref v, .int (q_i p0), .int (q_i p1)] f [] (q_Pi (fun (z : Int) (f1 : Nat → va_E) => f = f1)) := by
  refine q_ofb (by decide +kernel) hN hT (Nat.le_of_ble_eq_true rfl) ?_
  intro p e s m below meth c ls cx hr hlk hB hl
  have hl : lv_has ls 5 [(0, .ref v), (1, .int (q_i p0)), (2, .int (q_i p1))] := hl
  have J5 : ∀ (n : Nat) (v5_3 : Int) (lv5_3 : (-2147483648) ≤ v5_3) (uv5_3 : v5_3 ≤ 2147483647) (v5_4 : Int) (lv5_4 : 0 ≤ v5_4) (uv5_4 : v5_4 ≤ 10) (hmu : (Int.toNat (2147483647 - v5_4)) < n) (H : Heap) (locs : List Loc) (hB : q_B g K L (fun q => q ∈ L) [] f f s H locs) (ls : Array Slot) (hl : lv_has ls 5 [(0, .ref v), (1, .int (q_i p0)), (2, .int (q_i p1)), (3, .int (q_i v5_3)), (4, .int (q_i v5_4))]), W p l e { frames := 0, cells := 0, slots := 0, locals := 0 } s m ([.ref v, .int (q_i p0), .int (q_i p1)] : List Value).toArray below meth c H locs 0 0 (MQ below (q_Q g K L [] f (q_Pi (fun (z : Int) (f1 : Nat → va_E) => f = f1))) ([.ref v, .int (q_i p0), .int (q_i p1)] : List Value).toArray s 0 0 (fun q => q ∈ L)) (F0 m 5 ls []) := by
    intro n
    induction n with
    | zero =>
      intro v5_3 lv5_3 uv5_3 v5_4 lv5_4 uv5_4 hmu
      exact absurd hmu (Nat.not_lt_zero _)
    | succ n ih5 =>
      intro v5_3 lv5_3 uv5_3 v5_4 lv5_4 uv5_4 hmu H locs hB ls hl
      have J48 : ∀ (v48_3 : Int) (lv48_3 : (-2147483648) ≤ v48_3) (uv48_3 : v48_3 ≤ 2147483647) (buv5_4 : v5_4 ≤ 9) (H : Heap) (locs : List Loc) (hB : q_B g K L (fun q => q ∈ L) [] f f s H locs) (ls : Array Slot) (hl : lv_has ls 5 [(0, .ref v), (1, .int (q_i p0)), (2, .int (q_i p1)), (3, .int (q_i v48_3)), (4, .int (q_i v5_4))]), W p l e { frames := 0, cells := 0, slots := 0, locals := 0 } s m ([.ref v, .int (q_i p0), .int (q_i p1)] : List Value).toArray below meth c H locs 0 0 (MQ below (q_Q g K L [] f (q_Pi (fun (z : Int) (f1 : Nat → va_E) => f = f1))) ([.ref v, .int (q_i p0), .int (q_i p1)] : List Value).toArray s 0 0 (fun q => q ∈ L)) (F0 m 48 ls []) := by
        intro v48_3 lv48_3 uv48_3 buv5_4 H locs hB ls hl
        refine q_iinc (lv' := [(4, .int (q_i (v5_4 + 1))), (0, .ref v), (1, .int (q_i p0)), (2, .int (q_i p1)), (3, .int (q_i v48_3))]) cx dX10_grown_48 hl (k := 4) rfl (by decide) rfl (fun ls hl => ?_)
        refine lv_goto (tgt := 5) cx.1 cx.2.1 dX10_grown_51 (by decide) ?_
        exact ih5 v48_3 (by omega) (by omega) (v5_4 + 1) (by omega) (by omega) (by omega) H locs hB ls (lv_sub hl [1, 2, 3, 4, 0] rfl)
      refine lv_iload cx.1 cx.2.1 dX10_grown_5 (lv_at hl 4 rfl) ?_
      refine q_ald_n cx dX10_grown_7 rfl (lv_at hl 0 rfl) ?_
      obtain ⟨x161, ex161⟩ : ∃ zz, q_is (q_z f v 3) zz := ⟨_, q_isr _⟩
      refine q_gX10_35_16 cx hB hv kv ex161 dX10_grown_8 (fun lb162 ub162 => ?_)
      refine q_icge (tgt := 54) cx ⟨by omega, by omega⟩ ⟨by omega, by omega⟩ dX10_grown_11 (by decide) (fun c163 => ?_) (fun c163 => ?_)
      · refine q_ild_n cx dX10_grown_54 rfl (lv_at hl 3 rfl) ?_
        refine q_iret cx hr hlk hB dX10_grown_55 ⟨by omega, by omega⟩ ?_
        exact rfl
      · refine lv_iload cx.1 cx.2.1 dX10_grown_14 (lv_at hl 4 rfl) ?_
        refine q_ald_n cx dX10_grown_16 rfl (lv_at hl 0 rfl) ?_
        obtain ⟨p164, ep164⟩ : ∃ zz, q_ir (q_r f v 0) zz := ⟨_, q_irr _⟩
        refine q_gX10_13_16 cx hB hv kv ep164 dX10_grown_17 (fun hb165 kb165 => ?_)
        refine q_alen (n := 10) cx hB hb165 kb165 (by decide) rfl 7 rfl rfl dX10_grown_20 ?_
        refine q_icge (tgt := 48) cx ⟨by omega, by omega⟩ ⟨by decide, by decide⟩ dX10_grown_21 (by decide) (fun c166 => ?_) (fun c166 => ?_)
        · exact absurd c166 (by omega)
        · refine q_ild_n cx dX10_grown_24 rfl (lv_at hl 1 rfl) ?_
          refine lv_iload cx.1 cx.2.1 dX10_grown_25 (lv_at hl 4 rfl) ?_
          refine q_ishr cx dX10_grown_27 (fun y167 ry167 ey167 => ?_)
          refine q_iconst cx dX10_grown_28 ?_
          refine q_iandm cx 1 (by decide) rfl dX10_grown_29 (fun y168 ly168 uy168 ey168 => ?_)
          refine q_ifeq (tgt := 48) cx ⟨by omega, by omega⟩ dX10_grown_30 (by decide) (fun c169 => ?_) (fun c169 => ?_)
          · exact J48 v5_3 (by omega) (by omega) (by omega) H locs hB ls (lv_sub hl [0, 1, 2, 3, 4] rfl)
          · refine q_ild_n cx dX10_grown_33 rfl (lv_at hl 3 rfl) ?_
            refine q_ald_n cx dX10_grown_34 rfl (lv_at hl 0 rfl) ?_
            refine q_gX10_13_16 cx hB hv kv ep164 dX10_grown_35 (fun hb170 kb170 => ?_)
            refine lv_iload cx.1 cx.2.1 dX10_grown_38 (lv_at hl 4 rfl) ?_
            obtain ⟨p171, ep171⟩ : ∃ zz, q_ir (q_r f p164 (Int.toNat v5_4)) zz := ⟨_, q_irr _⟩
            refine q_aald (k2 := 20) (n := 10) cx hB hb165 kb165 (by decide) rfl 7 rfl (by decide) rfl (by omega) (by omega) (by decide) rfl ep171 dX10_grown_40 (fun hb172 kb172 => ?_)
            obtain ⟨x173, ex173⟩ : ∃ zz, q_is (q_z f p171 5) zz := ⟨_, q_isr _⟩
            refine q_gX10_104_20 cx hB hb172 kb172 ex173 dX10_grown_41 (fun lb174 ub174 => ?_)
            refine q_ild_n cx dX10_grown_44 rfl (lv_at hl 2 rfl) ?_
            refine q_iand cx dX10_grown_45 (fun y175 ry175 ey175 => ?_)
            refine q_ior cx dX10_grown_46 (fun y176 ry176 ey176 => ?_)
            refine lv_istore_n (lv' := [(3, .int (q_i y176)), (0, .ref v), (1, .int (q_i p0)), (2, .int (q_i p1)), (4, .int (q_i v5_4))]) cx.1 cx.2.1 dX10_grown_47 rfl hl (by decide) rfl (fun ls hl => ?_)
            exact J48 y176 (by omega) (by omega) (by omega) H locs hB ls (lv_sub hl [1, 2, 3, 0, 4] rfl)
  obtain ⟨H, hH⟩ : ∃ H : Heap, H = s.heap := ⟨_, rfl⟩
  obtain ⟨locs, hlocs⟩ : ∃ z : List Loc, z = [] := ⟨_, rfl⟩
  rw [← hH, ← hlocs] at hB
  rw [← hH, ← hlocs]
  refine q_ild_n cx dX10_grown_0 rfl (lv_at hl 1 rfl) ?_
  refine lv_istore_n (lv' := [(3, .int (q_i p0)), (0, .ref v), (1, .int (q_i p0)), (2, .int (q_i p1))]) cx.1 cx.2.1 dX10_grown_1 rfl hl (by decide) rfl (fun ls hl => ?_)
  refine q_iconst cx dX10_grown_2 ?_
  refine lv_istore (lv' := [(4, .int (q_i 0)), (3, .int (q_i p0)), (0, .ref v), (1, .int (q_i p0)), (2, .int (q_i p1))]) cx.1 cx.2.1 dX10_grown_3 hl (by decide) rfl (fun ls hl => ?_)
  exact J5 ((Int.toNat (2147483647 - 0)) + 1) p0 (by omega) (by omega) 0 (by decide) (by decide) (Nat.lt_succ_self _) H locs hB ls (lv_sub hl [2, 3, 4, 1, 0] rfl)
set_option maxHeartbeats 4000000 in
set_option maxRecDepth 100000 in
theorem g_X10_nextTowards (l : Launch) (g : q_G) {K : Nat → Nat} {L : List Nat} (hN : L.Nodup) {f : Nat → va_E} (hT : q_Ty g K L f) (v : Nat) (hv : v ∈ L) (kv : K v = 10) (p0 : Int) (lp0 : (-2147483648) ≤ p0) (up0 : p0 ≤ 2147483647) (p1 : Int) (lp1 : (-2147483648) ≤ p1) (up1 : p1 ≤ 2147483647) (p2 : Int) (lp2 : (-2147483648) ≤ p2) (up2 : p2 ≤ 2147483647) : q_Ct l g K L yX10_nextTowards cX10_nextTowards 7 (some .int) 1 24 [.ref v, .int (q_i p0), .int (q_i p1), .int (q_i p2)] f [] (q_Pi (fun (z : Int) (f1 : Nat → va_E) => f = f1 ∧ (-1) ≤ z ∧ z ≤ 9)) := by
  refine q_ofb (by decide +kernel) hN hT (Nat.le_of_ble_eq_true rfl) ?_
  intro p e s m below meth c ls cx hr hlk hB hl
  have hl : lv_has ls 7 [(0, .ref v), (1, .int (q_i p0)), (2, .int (q_i p1)), (3, .int (q_i p2))] := hl
  have J22 : ∀ (n : Nat) (v22_4 : Int) (lv22_4 : (-2147483648) ≤ v22_4) (uv22_4 : v22_4 ≤ 2147483647) (v22_5 : Int) (lv22_5 : (-2147483648) ≤ v22_5) (uv22_5 : v22_5 ≤ 2147483647) (v22_6 : Int) (lv22_6 : 0 ≤ v22_6) (uv22_6 : v22_6 ≤ 10) (hmu : (Int.toNat (2147483647 - v22_6)) < n) (H : Heap) (locs : List Loc) (hB : q_B g K L (fun q => q ∈ L) [] f f s H locs) (ls : Array Slot) (hl : lv_has ls 7 [(0, .ref v), (3, .int (q_i p2)), (4, .int (q_i v22_4)), (5, .int (q_i v22_5)), (6, .int (q_i v22_6))]), W p l e { frames := 1, cells := 0, slots := 0, locals := 24 } s m ([.ref v, .int (q_i p0), .int (q_i p1), .int (q_i p2)] : List Value).toArray below meth c H locs 0 0 (MQ below (q_Q g K L [] f (q_Pi (fun (z : Int) (f1 : Nat → va_E) => f = f1 ∧ (-1) ≤ z ∧ z ≤ 9))) ([.ref v, .int (q_i p0), .int (q_i p1), .int (q_i p2)] : List Value).toArray s 0 0 (fun q => q ∈ L)) (F0 m 22 ls []) := by
    intro n
    induction n with
    | zero =>
      intro v22_4 lv22_4 uv22_4 v22_5 lv22_5 uv22_5 v22_6 lv22_6 uv22_6 hmu
      exact absurd hmu (Nat.not_lt_zero _)
    | succ n ih22 =>
      intro v22_4 lv22_4 uv22_4 v22_5 lv22_5 uv22_5 v22_6 lv22_6 uv22_6 hmu H locs hB ls hl
      refine lv_iload cx.1 cx.2.1 dX10_nextTowards_22 (lv_at hl 4 rfl) ?_
      refine q_bipush cx dX10_nextTowards_24 rfl ?_
      refine q_icge (tgt := 61) cx ⟨by omega, by omega⟩ ⟨by decide, by decide⟩ dX10_nextTowards_26 (by decide) (fun c109 => ?_) (fun c109 => ?_)
      · refine q_iconst cx dX10_nextTowards_61 ?_
        refine q_iret cx hr hlk hB dX10_nextTowards_62 ⟨by decide, by decide⟩ ?_
        exact ⟨rfl, (by decide), (by decide)⟩
      · refine lv_iload cx.1 cx.2.1 dX10_nextTowards_29 (lv_at hl 2 rfl) ?_
        refine lv_iload cx.1 cx.2.1 dX10_nextTowards_31 (lv_at hl 3 rfl) ?_
        refine q_iand cx dX10_nextTowards_33 (fun y110 ry110 ey110 => ?_)
        refine q_ifeq (tgt := 46) cx ⟨by omega, by omega⟩ dX10_nextTowards_34 (by decide) (fun c111 => ?_) (fun c111 => ?_)
        · refine q_ald_n cx dX10_nextTowards_46 rfl (lv_at hl 0 rfl) ?_
          refine lv_iload cx.1 cx.2.1 dX10_nextTowards_47 (lv_at hl 3 rfl) ?_
          refine q_ild_n cx dX10_nextTowards_49 rfl (lv_at hl 1 rfl) ?_
          refine q_cVi (As := [.int (q_i v22_5), .int (q_i p2)]) (rest := []) cx hB (fun _ h => h) hN hv kv (by decide) rfl (g_X10_grown l g hN hB.2.1 v hv kv v22_5 (by omega) (by omega) p2 (by omega) (by omega)) q_cX10_234 q_dX10_grown (by decide) rfl rfl hl.1 rfl (Nat.le_of_ble_eq_true rfl) dX10_nextTowards_50 (fun y113 H locs f112 ry113 h114 hF hB => ?_)
          obtain rfl := h114
          refine lv_istore (lv' := [(5, .int (q_i y113)), (0, .ref v), (3, .int (q_i p2)), (4, .int (q_i v22_4)), (6, .int (q_i v22_6))]) cx.1 cx.2.1 dX10_nextTowards_53 hl (by decide) rfl (fun ls hl => ?_)
          refine q_iinc (lv' := [(6, .int (q_i (v22_6 + 1))), (5, .int (q_i y113)), (0, .ref v), (3, .int (q_i p2)), (4, .int (q_i v22_4))]) cx dX10_nextTowards_55 hl (k := 4) rfl (by decide) rfl (fun ls hl => ?_)
          refine lv_goto (tgt := 22) cx.1 cx.2.1 dX10_nextTowards_58 (by decide) ?_
          exact ih22 v22_4 (by omega) (by omega) y113 (by omega) (by omega) (v22_6 + 1) (by omega) (by omega) (by omega) H locs hB ls (lv_sub hl [2, 3, 4, 1, 0] rfl)
        · refine lv_iload cx.1 cx.2.1 dX10_nextTowards_37 (lv_at hl 2 rfl) ?_
          refine lv_iload cx.1 cx.2.1 dX10_nextTowards_39 (lv_at hl 3 rfl) ?_
          refine q_iand cx dX10_nextTowards_41 (fun y115 ry115 ey115 => ?_)
          refine q_cSi (As := [.int (q_i y115)]) (rest := []) cx hB (fun _ h => h) hN (g_X10_lowestOf l g hN hB.2.1 y115 (by omega) (by omega)) q_cX10_237 q_dX10_lowestOf (by decide) rfl rfl hl.1 rfl (Nat.le_of_ble_eq_true rfl) dX10_nextTowards_42 (fun y117 H locs f116 ry117 h118 hF hB => ?_)
          obtain ⟨rfl, ly117, uy117⟩ := h118
          refine q_iret cx hr hlk hB dX10_nextTowards_45 ⟨by omega, by omega⟩ ?_
          exact ⟨rfl, (by omega), (by omega)⟩
  obtain ⟨H, hH⟩ : ∃ H : Heap, H = s.heap := ⟨_, rfl⟩
  obtain ⟨locs, hlocs⟩ : ∃ z : List Loc, z = [] := ⟨_, rfl⟩
  rw [← hH, ← hlocs] at hB
  rw [← hH, ← hlocs]
  refine q_ald_n cx dX10_nextTowards_0 rfl (lv_at hl 0 rfl) ?_
  refine q_ild_n cx dX10_nextTowards_1 rfl (lv_at hl 1 rfl) ?_
  refine q_cVr (As := [.int (q_i p0)]) (rest := []) cx hB (fun _ h => h) hN hv kv (by decide) rfl (g_X10_nodeAt l g hN hB.2.1 v hv kv p0 (by omega) (by omega)) q_cX10_66 q_dX10_nodeAt (by decide) rfl rfl hl.1 rfl (Nat.le_of_ble_eq_true rfl) dX10_nextTowards_2 (fun y120 H locs f119 h121 hF hB => ?_)
  obtain ⟨rfl, hy120, ky120⟩ := h121
  obtain ⟨x122, ex122⟩ : ∃ zz, q_is (q_z f y120 5) zz := ⟨_, q_isr _⟩
  refine q_gX10_104 cx hB hy120 ky120 ex122 dX10_nextTowards_5 (fun lb123 ub123 => ?_)
  refine q_ild_n cx dX10_nextTowards_8 rfl (lv_at hl 3 rfl) ?_
  refine q_iand cx dX10_nextTowards_9 (fun y124 ry124 ey124 => ?_)
  refine lv_istore (lv' := [(4, .int (q_i y124)), (0, .ref v), (1, .int (q_i p0)), (2, .int (q_i p1)), (3, .int (q_i p2))]) cx.1 cx.2.1 dX10_nextTowards_10 hl (by decide) rfl (fun ls hl => ?_)
  refine q_iconst cx dX10_nextTowards_12 ?_
  refine q_ild_n cx dX10_nextTowards_13 rfl (lv_at hl 3 rfl) ?_
  refine q_ishl cx dX10_nextTowards_14 (fun y125 ry125 ey125 => ?_)
  refine q_ild_n cx dX10_nextTowards_15 rfl (lv_at hl 4 rfl) ?_
  refine q_iand cx dX10_nextTowards_16 (fun y126 ry126 ey126 => ?_)
  refine lv_istore (lv' := [(5, .int (q_i y126)), (4, .int (q_i y124)), (0, .ref v), (1, .int (q_i p0)), (2, .int (q_i p1)), (3, .int (q_i p2))]) cx.1 cx.2.1 dX10_nextTowards_17 hl (by decide) rfl (fun ls hl => ?_)
  refine q_iconst cx dX10_nextTowards_19 ?_
  refine lv_istore (lv' := [(6, .int (q_i 0)), (5, .int (q_i y126)), (4, .int (q_i y124)), (0, .ref v), (1, .int (q_i p0)), (2, .int (q_i p1)), (3, .int (q_i p2))]) cx.1 cx.2.1 dX10_nextTowards_20 hl (by decide) rfl (fun ls hl => ?_)
  exact J22 ((Int.toNat (2147483647 - 0)) + 1) y124 (by omega) (by omega) y126 (by omega) (by omega) 0 (by decide) (by decide) (Nat.lt_succ_self _) H locs hB ls (lv_sub hl [3, 6, 2, 1, 0] rfl)
set_option maxHeartbeats 4000000 in
set_option maxRecDepth 100000 in
theorem g_X10_nextTowards_1 (l : Launch) (g : q_G) {K : Nat → Nat} {L : List Nat} (hN : L.Nodup) {f : Nat → va_E} (hT : q_Ty g K L f) (v : Nat) (hv : v ∈ L) (kv : K v = 13) (p0 : Int) (lp0 : (-2147483648) ≤ p0) (up0 : p0 ≤ 2147483647) (p1 : Int) (lp1 : (-2147483648) ≤ p1) (up1 : p1 ≤ 2147483647) (p2 : Int) (lp2 : (-2147483648) ≤ p2) (up2 : p2 ≤ 2147483647) : q_Ct l g K L yX10_nextTowards cX10_nextTowards 7 (some .int) 1 24 [.ref v, .int (q_i p0), .int (q_i p1), .int (q_i p2)] f [] (q_Pi (fun (z : Int) (f1 : Nat → va_E) => f = f1 ∧ (-1) ≤ z ∧ z ≤ 9)) := by
  refine q_ofb (by decide +kernel) hN hT (Nat.le_of_ble_eq_true rfl) ?_
  intro p e s m below meth c ls cx hr hlk hB hl
  have hl : lv_has ls 7 [(0, .ref v), (1, .int (q_i p0)), (2, .int (q_i p1)), (3, .int (q_i p2))] := hl
  have J22 : ∀ (n : Nat) (v22_4 : Int) (lv22_4 : (-2147483648) ≤ v22_4) (uv22_4 : v22_4 ≤ 2147483647) (v22_5 : Int) (lv22_5 : (-2147483648) ≤ v22_5) (uv22_5 : v22_5 ≤ 2147483647) (v22_6 : Int) (lv22_6 : 0 ≤ v22_6) (uv22_6 : v22_6 ≤ 10) (hmu : (Int.toNat (2147483647 - v22_6)) < n) (H : Heap) (locs : List Loc) (hB : q_B g K L (fun q => q ∈ L) [] f f s H locs) (ls : Array Slot) (hl : lv_has ls 7 [(0, .ref v), (3, .int (q_i p2)), (4, .int (q_i v22_4)), (5, .int (q_i v22_5)), (6, .int (q_i v22_6))]), W p l e { frames := 1, cells := 0, slots := 0, locals := 24 } s m ([.ref v, .int (q_i p0), .int (q_i p1), .int (q_i p2)] : List Value).toArray below meth c H locs 0 0 (MQ below (q_Q g K L [] f (q_Pi (fun (z : Int) (f1 : Nat → va_E) => f = f1 ∧ (-1) ≤ z ∧ z ≤ 9))) ([.ref v, .int (q_i p0), .int (q_i p1), .int (q_i p2)] : List Value).toArray s 0 0 (fun q => q ∈ L)) (F0 m 22 ls []) := by
    intro n
    induction n with
    | zero =>
      intro v22_4 lv22_4 uv22_4 v22_5 lv22_5 uv22_5 v22_6 lv22_6 uv22_6 hmu
      exact absurd hmu (Nat.not_lt_zero _)
    | succ n ih22 =>
      intro v22_4 lv22_4 uv22_4 v22_5 lv22_5 uv22_5 v22_6 lv22_6 uv22_6 hmu H locs hB ls hl
      refine lv_iload cx.1 cx.2.1 dX10_nextTowards_22 (lv_at hl 4 rfl) ?_
      refine q_bipush cx dX10_nextTowards_24 rfl ?_
      refine q_icge (tgt := 61) cx ⟨by omega, by omega⟩ ⟨by decide, by decide⟩ dX10_nextTowards_26 (by decide) (fun c109 => ?_) (fun c109 => ?_)
      · refine q_iconst cx dX10_nextTowards_61 ?_
        refine q_iret cx hr hlk hB dX10_nextTowards_62 ⟨by decide, by decide⟩ ?_
        exact ⟨rfl, (by decide), (by decide)⟩
      · refine lv_iload cx.1 cx.2.1 dX10_nextTowards_29 (lv_at hl 2 rfl) ?_
        refine lv_iload cx.1 cx.2.1 dX10_nextTowards_31 (lv_at hl 3 rfl) ?_
        refine q_iand cx dX10_nextTowards_33 (fun y110 ry110 ey110 => ?_)
        refine q_ifeq (tgt := 46) cx ⟨by omega, by omega⟩ dX10_nextTowards_34 (by decide) (fun c111 => ?_) (fun c111 => ?_)
        · refine q_ald_n cx dX10_nextTowards_46 rfl (lv_at hl 0 rfl) ?_
          refine lv_iload cx.1 cx.2.1 dX10_nextTowards_47 (lv_at hl 3 rfl) ?_
          refine q_ild_n cx dX10_nextTowards_49 rfl (lv_at hl 1 rfl) ?_
          refine q_cVi (As := [.int (q_i v22_5), .int (q_i p2)]) (rest := []) cx hB (fun _ h => h) hN hv kv (by decide) rfl (g_X10_grown_1 l g hN hB.2.1 v hv kv v22_5 (by omega) (by omega) p2 (by omega) (by omega)) q_cX10_234 q_dX10_grown (by decide) rfl rfl hl.1 rfl (Nat.le_of_ble_eq_true rfl) dX10_nextTowards_50 (fun y113 H locs f112 ry113 h114 hF hB => ?_)
          obtain rfl := h114
          refine lv_istore (lv' := [(5, .int (q_i y113)), (0, .ref v), (3, .int (q_i p2)), (4, .int (q_i v22_4)), (6, .int (q_i v22_6))]) cx.1 cx.2.1 dX10_nextTowards_53 hl (by decide) rfl (fun ls hl => ?_)
          refine q_iinc (lv' := [(6, .int (q_i (v22_6 + 1))), (5, .int (q_i y113)), (0, .ref v), (3, .int (q_i p2)), (4, .int (q_i v22_4))]) cx dX10_nextTowards_55 hl (k := 4) rfl (by decide) rfl (fun ls hl => ?_)
          refine lv_goto (tgt := 22) cx.1 cx.2.1 dX10_nextTowards_58 (by decide) ?_
          exact ih22 v22_4 (by omega) (by omega) y113 (by omega) (by omega) (v22_6 + 1) (by omega) (by omega) (by omega) H locs hB ls (lv_sub hl [2, 3, 4, 1, 0] rfl)
        · refine lv_iload cx.1 cx.2.1 dX10_nextTowards_37 (lv_at hl 2 rfl) ?_
          refine lv_iload cx.1 cx.2.1 dX10_nextTowards_39 (lv_at hl 3 rfl) ?_
          refine q_iand cx dX10_nextTowards_41 (fun y115 ry115 ey115 => ?_)
          refine q_cSi (As := [.int (q_i y115)]) (rest := []) cx hB (fun _ h => h) hN (g_X10_lowestOf l g hN hB.2.1 y115 (by omega) (by omega)) q_cX10_237 q_dX10_lowestOf (by decide) rfl rfl hl.1 rfl (Nat.le_of_ble_eq_true rfl) dX10_nextTowards_42 (fun y117 H locs f116 ry117 h118 hF hB => ?_)
          obtain ⟨rfl, ly117, uy117⟩ := h118
          refine q_iret cx hr hlk hB dX10_nextTowards_45 ⟨by omega, by omega⟩ ?_
          exact ⟨rfl, (by omega), (by omega)⟩
  obtain ⟨H, hH⟩ : ∃ H : Heap, H = s.heap := ⟨_, rfl⟩
  obtain ⟨locs, hlocs⟩ : ∃ z : List Loc, z = [] := ⟨_, rfl⟩
  rw [← hH, ← hlocs] at hB
  rw [← hH, ← hlocs]
  refine q_ald_n cx dX10_nextTowards_0 rfl (lv_at hl 0 rfl) ?_
  refine q_ild_n cx dX10_nextTowards_1 rfl (lv_at hl 1 rfl) ?_
  refine q_cVr (As := [.int (q_i p0)]) (rest := []) cx hB (fun _ h => h) hN hv kv (by decide) rfl (g_X10_nodeAt_1 l g hN hB.2.1 v hv kv p0 (by omega) (by omega)) q_cX10_66 q_dX10_nodeAt (by decide) rfl rfl hl.1 rfl (Nat.le_of_ble_eq_true rfl) dX10_nextTowards_2 (fun y120 H locs f119 h121 hF hB => ?_)
  obtain ⟨rfl, hy120, ky120⟩ := h121
  obtain ⟨x122, ex122⟩ : ∃ zz, q_is (q_z f y120 5) zz := ⟨_, q_isr _⟩
  refine q_gX10_104_17 cx hB hy120 ky120 ex122 dX10_nextTowards_5 (fun lb123 ub123 => ?_)
  refine q_ild_n cx dX10_nextTowards_8 rfl (lv_at hl 3 rfl) ?_
  refine q_iand cx dX10_nextTowards_9 (fun y124 ry124 ey124 => ?_)
  refine lv_istore (lv' := [(4, .int (q_i y124)), (0, .ref v), (1, .int (q_i p0)), (2, .int (q_i p1)), (3, .int (q_i p2))]) cx.1 cx.2.1 dX10_nextTowards_10 hl (by decide) rfl (fun ls hl => ?_)
  refine q_iconst cx dX10_nextTowards_12 ?_
  refine q_ild_n cx dX10_nextTowards_13 rfl (lv_at hl 3 rfl) ?_
  refine q_ishl cx dX10_nextTowards_14 (fun y125 ry125 ey125 => ?_)
  refine q_ild_n cx dX10_nextTowards_15 rfl (lv_at hl 4 rfl) ?_
  refine q_iand cx dX10_nextTowards_16 (fun y126 ry126 ey126 => ?_)
  refine lv_istore (lv' := [(5, .int (q_i y126)), (4, .int (q_i y124)), (0, .ref v), (1, .int (q_i p0)), (2, .int (q_i p1)), (3, .int (q_i p2))]) cx.1 cx.2.1 dX10_nextTowards_17 hl (by decide) rfl (fun ls hl => ?_)
  refine q_iconst cx dX10_nextTowards_19 ?_
  refine lv_istore (lv' := [(6, .int (q_i 0)), (5, .int (q_i y126)), (4, .int (q_i y124)), (0, .ref v), (1, .int (q_i p0)), (2, .int (q_i p1)), (3, .int (q_i p2))]) cx.1 cx.2.1 dX10_nextTowards_20 hl (by decide) rfl (fun ls hl => ?_)
  exact J22 ((Int.toNat (2147483647 - 0)) + 1) y124 (by omega) (by omega) y126 (by omega) (by omega) 0 (by decide) (by decide) (Nat.lt_succ_self _) H locs hB ls (lv_sub hl [3, 6, 2, 1, 0] rfl)
set_option maxHeartbeats 4000000 in
set_option maxRecDepth 100000 in
theorem g_X10_nextTowards_2 (l : Launch) (g : q_G) {K : Nat → Nat} {L : List Nat} (hN : L.Nodup) {f : Nat → va_E} (hT : q_Ty g K L f) (v : Nat) (hv : v ∈ L) (kv : K v = 14) (p0 : Int) (lp0 : (-2147483648) ≤ p0) (up0 : p0 ≤ 2147483647) (p1 : Int) (lp1 : (-2147483648) ≤ p1) (up1 : p1 ≤ 2147483647) (p2 : Int) (lp2 : (-2147483648) ≤ p2) (up2 : p2 ≤ 2147483647) : q_Ct l g K L yX10_nextTowards cX10_nextTowards 7 (some .int) 1 24 [.ref v, .int (q_i p0), .int (q_i p1), .int (q_i p2)] f [] (q_Pi (fun (z : Int) (f1 : Nat → va_E) => f = f1 ∧ (-1) ≤ z ∧ z ≤ 9)) := by
  refine q_ofb (by decide +kernel) hN hT (Nat.le_of_ble_eq_true rfl) ?_
  intro p e s m below meth c ls cx hr hlk hB hl
  have hl : lv_has ls 7 [(0, .ref v), (1, .int (q_i p0)), (2, .int (q_i p1)), (3, .int (q_i p2))] := hl
  have J22 : ∀ (n : Nat) (v22_4 : Int) (lv22_4 : (-2147483648) ≤ v22_4) (uv22_4 : v22_4 ≤ 2147483647) (v22_5 : Int) (lv22_5 : (-2147483648) ≤ v22_5) (uv22_5 : v22_5 ≤ 2147483647) (v22_6 : Int) (lv22_6 : 0 ≤ v22_6) (uv22_6 : v22_6 ≤ 10) (hmu : (Int.toNat (2147483647 - v22_6)) < n) (H : Heap) (locs : List Loc) (hB : q_B g K L (fun q => q ∈ L) [] f f s H locs) (ls : Array Slot) (hl : lv_has ls 7 [(0, .ref v), (3, .int (q_i p2)), (4, .int (q_i v22_4)), (5, .int (q_i v22_5)), (6, .int (q_i v22_6))]), W p l e { frames := 1, cells := 0, slots := 0, locals := 24 } s m ([.ref v, .int (q_i p0), .int (q_i p1), .int (q_i p2)] : List Value).toArray below meth c H locs 0 0 (MQ below (q_Q g K L [] f (q_Pi (fun (z : Int) (f1 : Nat → va_E) => f = f1 ∧ (-1) ≤ z ∧ z ≤ 9))) ([.ref v, .int (q_i p0), .int (q_i p1), .int (q_i p2)] : List Value).toArray s 0 0 (fun q => q ∈ L)) (F0 m 22 ls []) := by
    intro n
    induction n with
    | zero =>
      intro v22_4 lv22_4 uv22_4 v22_5 lv22_5 uv22_5 v22_6 lv22_6 uv22_6 hmu
      exact absurd hmu (Nat.not_lt_zero _)
    | succ n ih22 =>
      intro v22_4 lv22_4 uv22_4 v22_5 lv22_5 uv22_5 v22_6 lv22_6 uv22_6 hmu H locs hB ls hl
      refine lv_iload cx.1 cx.2.1 dX10_nextTowards_22 (lv_at hl 4 rfl) ?_
      refine q_bipush cx dX10_nextTowards_24 rfl ?_
      refine q_icge (tgt := 61) cx ⟨by omega, by omega⟩ ⟨by decide, by decide⟩ dX10_nextTowards_26 (by decide) (fun c109 => ?_) (fun c109 => ?_)
      · refine q_iconst cx dX10_nextTowards_61 ?_
        refine q_iret cx hr hlk hB dX10_nextTowards_62 ⟨by decide, by decide⟩ ?_
        exact ⟨rfl, (by decide), (by decide)⟩
      · refine lv_iload cx.1 cx.2.1 dX10_nextTowards_29 (lv_at hl 2 rfl) ?_
        refine lv_iload cx.1 cx.2.1 dX10_nextTowards_31 (lv_at hl 3 rfl) ?_
        refine q_iand cx dX10_nextTowards_33 (fun y110 ry110 ey110 => ?_)
        refine q_ifeq (tgt := 46) cx ⟨by omega, by omega⟩ dX10_nextTowards_34 (by decide) (fun c111 => ?_) (fun c111 => ?_)
        · refine q_ald_n cx dX10_nextTowards_46 rfl (lv_at hl 0 rfl) ?_
          refine lv_iload cx.1 cx.2.1 dX10_nextTowards_47 (lv_at hl 3 rfl) ?_
          refine q_ild_n cx dX10_nextTowards_49 rfl (lv_at hl 1 rfl) ?_
          refine q_cVi (As := [.int (q_i v22_5), .int (q_i p2)]) (rest := []) cx hB (fun _ h => h) hN hv kv (by decide) rfl (g_X10_grown_2 l g hN hB.2.1 v hv kv v22_5 (by omega) (by omega) p2 (by omega) (by omega)) q_cX10_234 q_dX10_grown (by decide) rfl rfl hl.1 rfl (Nat.le_of_ble_eq_true rfl) dX10_nextTowards_50 (fun y113 H locs f112 ry113 h114 hF hB => ?_)
          obtain rfl := h114
          refine lv_istore (lv' := [(5, .int (q_i y113)), (0, .ref v), (3, .int (q_i p2)), (4, .int (q_i v22_4)), (6, .int (q_i v22_6))]) cx.1 cx.2.1 dX10_nextTowards_53 hl (by decide) rfl (fun ls hl => ?_)
          refine q_iinc (lv' := [(6, .int (q_i (v22_6 + 1))), (5, .int (q_i y113)), (0, .ref v), (3, .int (q_i p2)), (4, .int (q_i v22_4))]) cx dX10_nextTowards_55 hl (k := 4) rfl (by decide) rfl (fun ls hl => ?_)
          refine lv_goto (tgt := 22) cx.1 cx.2.1 dX10_nextTowards_58 (by decide) ?_
          exact ih22 v22_4 (by omega) (by omega) y113 (by omega) (by omega) (v22_6 + 1) (by omega) (by omega) (by omega) H locs hB ls (lv_sub hl [2, 3, 4, 1, 0] rfl)
        · refine lv_iload cx.1 cx.2.1 dX10_nextTowards_37 (lv_at hl 2 rfl) ?_
          refine lv_iload cx.1 cx.2.1 dX10_nextTowards_39 (lv_at hl 3 rfl) ?_
          refine q_iand cx dX10_nextTowards_41 (fun y115 ry115 ey115 => ?_)
          refine q_cSi (As := [.int (q_i y115)]) (rest := []) cx hB (fun _ h => h) hN (g_X10_lowestOf l g hN hB.2.1 y115 (by omega) (by omega)) q_cX10_237 q_dX10_lowestOf (by decide) rfl rfl hl.1 rfl (Nat.le_of_ble_eq_true rfl) dX10_nextTowards_42 (fun y117 H locs f116 ry117 h118 hF hB => ?_)
          obtain ⟨rfl, ly117, uy117⟩ := h118
          refine q_iret cx hr hlk hB dX10_nextTowards_45 ⟨by omega, by omega⟩ ?_
          exact ⟨rfl, (by omega), (by omega)⟩
  obtain ⟨H, hH⟩ : ∃ H : Heap, H = s.heap := ⟨_, rfl⟩
  obtain ⟨locs, hlocs⟩ : ∃ z : List Loc, z = [] := ⟨_, rfl⟩
  rw [← hH, ← hlocs] at hB
  rw [← hH, ← hlocs]
  refine q_ald_n cx dX10_nextTowards_0 rfl (lv_at hl 0 rfl) ?_
  refine q_ild_n cx dX10_nextTowards_1 rfl (lv_at hl 1 rfl) ?_
  refine q_cVr (As := [.int (q_i p0)]) (rest := []) cx hB (fun _ h => h) hN hv kv (by decide) rfl (g_X10_nodeAt_2 l g hN hB.2.1 v hv kv p0 (by omega) (by omega)) q_cX10_66 q_dX10_nodeAt (by decide) rfl rfl hl.1 rfl (Nat.le_of_ble_eq_true rfl) dX10_nextTowards_2 (fun y120 H locs f119 h121 hF hB => ?_)
  obtain ⟨rfl, hy120, ky120⟩ := h121
  obtain ⟨x122, ex122⟩ : ∃ zz, q_is (q_z f y120 5) zz := ⟨_, q_isr _⟩
  refine q_gX10_104_18 cx hB hy120 ky120 ex122 dX10_nextTowards_5 (fun lb123 ub123 => ?_)
  refine q_ild_n cx dX10_nextTowards_8 rfl (lv_at hl 3 rfl) ?_
  refine q_iand cx dX10_nextTowards_9 (fun y124 ry124 ey124 => ?_)
  refine lv_istore (lv' := [(4, .int (q_i y124)), (0, .ref v), (1, .int (q_i p0)), (2, .int (q_i p1)), (3, .int (q_i p2))]) cx.1 cx.2.1 dX10_nextTowards_10 hl (by decide) rfl (fun ls hl => ?_)
  refine q_iconst cx dX10_nextTowards_12 ?_
  refine q_ild_n cx dX10_nextTowards_13 rfl (lv_at hl 3 rfl) ?_
  refine q_ishl cx dX10_nextTowards_14 (fun y125 ry125 ey125 => ?_)
  refine q_ild_n cx dX10_nextTowards_15 rfl (lv_at hl 4 rfl) ?_
  refine q_iand cx dX10_nextTowards_16 (fun y126 ry126 ey126 => ?_)
  refine lv_istore (lv' := [(5, .int (q_i y126)), (4, .int (q_i y124)), (0, .ref v), (1, .int (q_i p0)), (2, .int (q_i p1)), (3, .int (q_i p2))]) cx.1 cx.2.1 dX10_nextTowards_17 hl (by decide) rfl (fun ls hl => ?_)
  refine q_iconst cx dX10_nextTowards_19 ?_
  refine lv_istore (lv' := [(6, .int (q_i 0)), (5, .int (q_i y126)), (4, .int (q_i y124)), (0, .ref v), (1, .int (q_i p0)), (2, .int (q_i p1)), (3, .int (q_i p2))]) cx.1 cx.2.1 dX10_nextTowards_20 hl (by decide) rfl (fun ls hl => ?_)
  exact J22 ((Int.toNat (2147483647 - 0)) + 1) y124 (by omega) (by omega) y126 (by omega) (by omega) 0 (by decide) (by decide) (Nat.lt_succ_self _) H locs hB ls (lv_sub hl [3, 6, 2, 1, 0] rfl)
set_option maxHeartbeats 4000000 in
set_option maxRecDepth 100000 in
theorem g_X10_nextTowards_3 (l : Launch) (g : q_G) {K : Nat → Nat} {L : List Nat} (hN : L.Nodup) {f : Nat → va_E} (hT : q_Ty g K L f) (v : Nat) (hv : v ∈ L) (kv : K v = 15) (p0 : Int) (lp0 : (-2147483648) ≤ p0) (up0 : p0 ≤ 2147483647) (p1 : Int) (lp1 : (-2147483648) ≤ p1) (up1 : p1 ≤ 2147483647) (p2 : Int) (lp2 : (-2147483648) ≤ p2) (up2 : p2 ≤ 2147483647) : q_Ct l g K L yX10_nextTowards cX10_nextTowards 7 (some .int) 1 24 [.ref v, .int (q_i p0), .int (q_i p1), .int (q_i p2)] f [] (q_Pi (fun (z : Int) (f1 : Nat → va_E) => f = f1 ∧ (-1) ≤ z ∧ z ≤ 9)) := by
  refine q_ofb (by decide +kernel) hN hT (Nat.le_of_ble_eq_true rfl) ?_
  intro p e s m below meth c ls cx hr hlk hB hl
  have hl : lv_has ls 7 [(0, .ref v), (1, .int (q_i p0)), (2, .int (q_i p1)), (3, .int (q_i p2))] := hl
  have J22 : ∀ (n : Nat) (v22_4 : Int) (lv22_4 : (-2147483648) ≤ v22_4) (uv22_4 : v22_4 ≤ 2147483647) (v22_5 : Int) (lv22_5 : (-2147483648) ≤ v22_5) (uv22_5 : v22_5 ≤ 2147483647) (v22_6 : Int) (lv22_6 : 0 ≤ v22_6) (uv22_6 : v22_6 ≤ 10) (hmu : (Int.toNat (2147483647 - v22_6)) < n) (H : Heap) (locs : List Loc) (hB : q_B g K L (fun q => q ∈ L) [] f f s H locs) (ls : Array Slot) (hl : lv_has ls 7 [(0, .ref v), (3, .int (q_i p2)), (4, .int (q_i v22_4)), (5, .int (q_i v22_5)), (6, .int (q_i v22_6))]), W p l e { frames := 1, cells := 0, slots := 0, locals := 24 } s m ([.ref v, .int (q_i p0), .int (q_i p1), .int (q_i p2)] : List Value).toArray below meth c H locs 0 0 (MQ below (q_Q g K L [] f (q_Pi (fun (z : Int) (f1 : Nat → va_E) => f = f1 ∧ (-1) ≤ z ∧ z ≤ 9))) ([.ref v, .int (q_i p0), .int (q_i p1), .int (q_i p2)] : List Value).toArray s 0 0 (fun q => q ∈ L)) (F0 m 22 ls []) := by
    intro n
    induction n with
    | zero =>
      intro v22_4 lv22_4 uv22_4 v22_5 lv22_5 uv22_5 v22_6 lv22_6 uv22_6 hmu
      exact absurd hmu (Nat.not_lt_zero _)
    | succ n ih22 =>
      intro v22_4 lv22_4 uv22_4 v22_5 lv22_5 uv22_5 v22_6 lv22_6 uv22_6 hmu H locs hB ls hl
      refine lv_iload cx.1 cx.2.1 dX10_nextTowards_22 (lv_at hl 4 rfl) ?_
      refine q_bipush cx dX10_nextTowards_24 rfl ?_
      refine q_icge (tgt := 61) cx ⟨by omega, by omega⟩ ⟨by decide, by decide⟩ dX10_nextTowards_26 (by decide) (fun c109 => ?_) (fun c109 => ?_)
      · refine q_iconst cx dX10_nextTowards_61 ?_
        refine q_iret cx hr hlk hB dX10_nextTowards_62 ⟨by decide, by decide⟩ ?_
        exact ⟨rfl, (by decide), (by decide)⟩
      · refine lv_iload cx.1 cx.2.1 dX10_nextTowards_29 (lv_at hl 2 rfl) ?_
        refine lv_iload cx.1 cx.2.1 dX10_nextTowards_31 (lv_at hl 3 rfl) ?_
        refine q_iand cx dX10_nextTowards_33 (fun y110 ry110 ey110 => ?_)
        refine q_ifeq (tgt := 46) cx ⟨by omega, by omega⟩ dX10_nextTowards_34 (by decide) (fun c111 => ?_) (fun c111 => ?_)
        · refine q_ald_n cx dX10_nextTowards_46 rfl (lv_at hl 0 rfl) ?_
          refine lv_iload cx.1 cx.2.1 dX10_nextTowards_47 (lv_at hl 3 rfl) ?_
          refine q_ild_n cx dX10_nextTowards_49 rfl (lv_at hl 1 rfl) ?_
          refine q_cVi (As := [.int (q_i v22_5), .int (q_i p2)]) (rest := []) cx hB (fun _ h => h) hN hv kv (by decide) rfl (g_X10_grown_3 l g hN hB.2.1 v hv kv v22_5 (by omega) (by omega) p2 (by omega) (by omega)) q_cX10_234 q_dX10_grown (by decide) rfl rfl hl.1 rfl (Nat.le_of_ble_eq_true rfl) dX10_nextTowards_50 (fun y113 H locs f112 ry113 h114 hF hB => ?_)
          obtain rfl := h114
          refine lv_istore (lv' := [(5, .int (q_i y113)), (0, .ref v), (3, .int (q_i p2)), (4, .int (q_i v22_4)), (6, .int (q_i v22_6))]) cx.1 cx.2.1 dX10_nextTowards_53 hl (by decide) rfl (fun ls hl => ?_)
          refine q_iinc (lv' := [(6, .int (q_i (v22_6 + 1))), (5, .int (q_i y113)), (0, .ref v), (3, .int (q_i p2)), (4, .int (q_i v22_4))]) cx dX10_nextTowards_55 hl (k := 4) rfl (by decide) rfl (fun ls hl => ?_)
          refine lv_goto (tgt := 22) cx.1 cx.2.1 dX10_nextTowards_58 (by decide) ?_
          exact ih22 v22_4 (by omega) (by omega) y113 (by omega) (by omega) (v22_6 + 1) (by omega) (by omega) (by omega) H locs hB ls (lv_sub hl [2, 3, 4, 1, 0] rfl)
        · refine lv_iload cx.1 cx.2.1 dX10_nextTowards_37 (lv_at hl 2 rfl) ?_
          refine lv_iload cx.1 cx.2.1 dX10_nextTowards_39 (lv_at hl 3 rfl) ?_
          refine q_iand cx dX10_nextTowards_41 (fun y115 ry115 ey115 => ?_)
          refine q_cSi (As := [.int (q_i y115)]) (rest := []) cx hB (fun _ h => h) hN (g_X10_lowestOf l g hN hB.2.1 y115 (by omega) (by omega)) q_cX10_237 q_dX10_lowestOf (by decide) rfl rfl hl.1 rfl (Nat.le_of_ble_eq_true rfl) dX10_nextTowards_42 (fun y117 H locs f116 ry117 h118 hF hB => ?_)
          obtain ⟨rfl, ly117, uy117⟩ := h118
          refine q_iret cx hr hlk hB dX10_nextTowards_45 ⟨by omega, by omega⟩ ?_
          exact ⟨rfl, (by omega), (by omega)⟩
  obtain ⟨H, hH⟩ : ∃ H : Heap, H = s.heap := ⟨_, rfl⟩
  obtain ⟨locs, hlocs⟩ : ∃ z : List Loc, z = [] := ⟨_, rfl⟩
  rw [← hH, ← hlocs] at hB
  rw [← hH, ← hlocs]
  refine q_ald_n cx dX10_nextTowards_0 rfl (lv_at hl 0 rfl) ?_
  refine q_ild_n cx dX10_nextTowards_1 rfl (lv_at hl 1 rfl) ?_
  refine q_cVr (As := [.int (q_i p0)]) (rest := []) cx hB (fun _ h => h) hN hv kv (by decide) rfl (g_X10_nodeAt_3 l g hN hB.2.1 v hv kv p0 (by omega) (by omega)) q_cX10_66 q_dX10_nodeAt (by decide) rfl rfl hl.1 rfl (Nat.le_of_ble_eq_true rfl) dX10_nextTowards_2 (fun y120 H locs f119 h121 hF hB => ?_)
  obtain ⟨rfl, hy120, ky120⟩ := h121
  obtain ⟨x122, ex122⟩ : ∃ zz, q_is (q_z f y120 5) zz := ⟨_, q_isr _⟩
  refine q_gX10_104_19 cx hB hy120 ky120 ex122 dX10_nextTowards_5 (fun lb123 ub123 => ?_)
  refine q_ild_n cx dX10_nextTowards_8 rfl (lv_at hl 3 rfl) ?_
  refine q_iand cx dX10_nextTowards_9 (fun y124 ry124 ey124 => ?_)
  refine lv_istore (lv' := [(4, .int (q_i y124)), (0, .ref v), (1, .int (q_i p0)), (2, .int (q_i p1)), (3, .int (q_i p2))]) cx.1 cx.2.1 dX10_nextTowards_10 hl (by decide) rfl (fun ls hl => ?_)
  refine q_iconst cx dX10_nextTowards_12 ?_
  refine q_ild_n cx dX10_nextTowards_13 rfl (lv_at hl 3 rfl) ?_
  refine q_ishl cx dX10_nextTowards_14 (fun y125 ry125 ey125 => ?_)
  refine q_ild_n cx dX10_nextTowards_15 rfl (lv_at hl 4 rfl) ?_
  refine q_iand cx dX10_nextTowards_16 (fun y126 ry126 ey126 => ?_)
  refine lv_istore (lv' := [(5, .int (q_i y126)), (4, .int (q_i y124)), (0, .ref v), (1, .int (q_i p0)), (2, .int (q_i p1)), (3, .int (q_i p2))]) cx.1 cx.2.1 dX10_nextTowards_17 hl (by decide) rfl (fun ls hl => ?_)
  refine q_iconst cx dX10_nextTowards_19 ?_
  refine lv_istore (lv' := [(6, .int (q_i 0)), (5, .int (q_i y126)), (4, .int (q_i y124)), (0, .ref v), (1, .int (q_i p0)), (2, .int (q_i p1)), (3, .int (q_i p2))]) cx.1 cx.2.1 dX10_nextTowards_20 hl (by decide) rfl (fun ls hl => ?_)
  exact J22 ((Int.toNat (2147483647 - 0)) + 1) y124 (by omega) (by omega) y126 (by omega) (by omega) 0 (by decide) (by decide) (Nat.lt_succ_self _) H locs hB ls (lv_sub hl [3, 6, 2, 1, 0] rfl)
set_option maxHeartbeats 4000000 in
set_option maxRecDepth 100000 in
theorem g_X10_nextTowards_4 (l : Launch) (g : q_G) {K : Nat → Nat} {L : List Nat} (hN : L.Nodup) {f : Nat → va_E} (hT : q_Ty g K L f) (v : Nat) (hv : v ∈ L) (kv : K v = 16) (p0 : Int) (lp0 : (-2147483648) ≤ p0) (up0 : p0 ≤ 2147483647) (p1 : Int) (lp1 : (-2147483648) ≤ p1) (up1 : p1 ≤ 2147483647) (p2 : Int) (lp2 : (-2147483648) ≤ p2) (up2 : p2 ≤ 2147483647) : q_Ct l g K L yX10_nextTowards cX10_nextTowards 7 (some .int) 1 24 [.ref v, .int (q_i p0), .int (q_i p1), .int (q_i p2)] f [] (q_Pi (fun (z : Int) (f1 : Nat → va_E) => f = f1 ∧ (-1) ≤ z ∧ z ≤ 9)) := by
  refine q_ofb (by decide +kernel) hN hT (Nat.le_of_ble_eq_true rfl) ?_
  intro p e s m below meth c ls cx hr hlk hB hl
  have hl : lv_has ls 7 [(0, .ref v), (1, .int (q_i p0)), (2, .int (q_i p1)), (3, .int (q_i p2))] := hl
  have J22 : ∀ (n : Nat) (v22_4 : Int) (lv22_4 : (-2147483648) ≤ v22_4) (uv22_4 : v22_4 ≤ 2147483647) (v22_5 : Int) (lv22_5 : (-2147483648) ≤ v22_5) (uv22_5 : v22_5 ≤ 2147483647) (v22_6 : Int) (lv22_6 : 0 ≤ v22_6) (uv22_6 : v22_6 ≤ 10) (hmu : (Int.toNat (2147483647 - v22_6)) < n) (H : Heap) (locs : List Loc) (hB : q_B g K L (fun q => q ∈ L) [] f f s H locs) (ls : Array Slot) (hl : lv_has ls 7 [(0, .ref v), (3, .int (q_i p2)), (4, .int (q_i v22_4)), (5, .int (q_i v22_5)), (6, .int (q_i v22_6))]), W p l e { frames := 1, cells := 0, slots := 0, locals := 24 } s m ([.ref v, .int (q_i p0), .int (q_i p1), .int (q_i p2)] : List Value).toArray below meth c H locs 0 0 (MQ below (q_Q g K L [] f (q_Pi (fun (z : Int) (f1 : Nat → va_E) => f = f1 ∧ (-1) ≤ z ∧ z ≤ 9))) ([.ref v, .int (q_i p0), .int (q_i p1), .int (q_i p2)] : List Value).toArray s 0 0 (fun q => q ∈ L)) (F0 m 22 ls []) := by
    intro n
    induction n with
    | zero =>
      intro v22_4 lv22_4 uv22_4 v22_5 lv22_5 uv22_5 v22_6 lv22_6 uv22_6 hmu
      exact absurd hmu (Nat.not_lt_zero _)
    | succ n ih22 =>
      intro v22_4 lv22_4 uv22_4 v22_5 lv22_5 uv22_5 v22_6 lv22_6 uv22_6 hmu H locs hB ls hl
      refine lv_iload cx.1 cx.2.1 dX10_nextTowards_22 (lv_at hl 4 rfl) ?_
      refine q_bipush cx dX10_nextTowards_24 rfl ?_
      refine q_icge (tgt := 61) cx ⟨by omega, by omega⟩ ⟨by decide, by decide⟩ dX10_nextTowards_26 (by decide) (fun c109 => ?_) (fun c109 => ?_)
      · refine q_iconst cx dX10_nextTowards_61 ?_
        refine q_iret cx hr hlk hB dX10_nextTowards_62 ⟨by decide, by decide⟩ ?_
        exact ⟨rfl, (by decide), (by decide)⟩
      · refine lv_iload cx.1 cx.2.1 dX10_nextTowards_29 (lv_at hl 2 rfl) ?_
        refine lv_iload cx.1 cx.2.1 dX10_nextTowards_31 (lv_at hl 3 rfl) ?_
        refine q_iand cx dX10_nextTowards_33 (fun y110 ry110 ey110 => ?_)
        refine q_ifeq (tgt := 46) cx ⟨by omega, by omega⟩ dX10_nextTowards_34 (by decide) (fun c111 => ?_) (fun c111 => ?_)
        · refine q_ald_n cx dX10_nextTowards_46 rfl (lv_at hl 0 rfl) ?_
          refine lv_iload cx.1 cx.2.1 dX10_nextTowards_47 (lv_at hl 3 rfl) ?_
          refine q_ild_n cx dX10_nextTowards_49 rfl (lv_at hl 1 rfl) ?_
          refine q_cVi (As := [.int (q_i v22_5), .int (q_i p2)]) (rest := []) cx hB (fun _ h => h) hN hv kv (by decide) rfl (g_X10_grown_4 l g hN hB.2.1 v hv kv v22_5 (by omega) (by omega) p2 (by omega) (by omega)) q_cX10_234 q_dX10_grown (by decide) rfl rfl hl.1 rfl (Nat.le_of_ble_eq_true rfl) dX10_nextTowards_50 (fun y113 H locs f112 ry113 h114 hF hB => ?_)
          obtain rfl := h114
          refine lv_istore (lv' := [(5, .int (q_i y113)), (0, .ref v), (3, .int (q_i p2)), (4, .int (q_i v22_4)), (6, .int (q_i v22_6))]) cx.1 cx.2.1 dX10_nextTowards_53 hl (by decide) rfl (fun ls hl => ?_)
          refine q_iinc (lv' := [(6, .int (q_i (v22_6 + 1))), (5, .int (q_i y113)), (0, .ref v), (3, .int (q_i p2)), (4, .int (q_i v22_4))]) cx dX10_nextTowards_55 hl (k := 4) rfl (by decide) rfl (fun ls hl => ?_)
          refine lv_goto (tgt := 22) cx.1 cx.2.1 dX10_nextTowards_58 (by decide) ?_
          exact ih22 v22_4 (by omega) (by omega) y113 (by omega) (by omega) (v22_6 + 1) (by omega) (by omega) (by omega) H locs hB ls (lv_sub hl [2, 3, 4, 1, 0] rfl)
        · refine lv_iload cx.1 cx.2.1 dX10_nextTowards_37 (lv_at hl 2 rfl) ?_
          refine lv_iload cx.1 cx.2.1 dX10_nextTowards_39 (lv_at hl 3 rfl) ?_
          refine q_iand cx dX10_nextTowards_41 (fun y115 ry115 ey115 => ?_)
          refine q_cSi (As := [.int (q_i y115)]) (rest := []) cx hB (fun _ h => h) hN (g_X10_lowestOf l g hN hB.2.1 y115 (by omega) (by omega)) q_cX10_237 q_dX10_lowestOf (by decide) rfl rfl hl.1 rfl (Nat.le_of_ble_eq_true rfl) dX10_nextTowards_42 (fun y117 H locs f116 ry117 h118 hF hB => ?_)
          obtain ⟨rfl, ly117, uy117⟩ := h118
          refine q_iret cx hr hlk hB dX10_nextTowards_45 ⟨by omega, by omega⟩ ?_
          exact ⟨rfl, (by omega), (by omega)⟩
  obtain ⟨H, hH⟩ : ∃ H : Heap, H = s.heap := ⟨_, rfl⟩
  obtain ⟨locs, hlocs⟩ : ∃ z : List Loc, z = [] := ⟨_, rfl⟩
  rw [← hH, ← hlocs] at hB
  rw [← hH, ← hlocs]
  refine q_ald_n cx dX10_nextTowards_0 rfl (lv_at hl 0 rfl) ?_
  refine q_ild_n cx dX10_nextTowards_1 rfl (lv_at hl 1 rfl) ?_
  refine q_cVr (As := [.int (q_i p0)]) (rest := []) cx hB (fun _ h => h) hN hv kv (by decide) rfl (g_X10_nodeAt_4 l g hN hB.2.1 v hv kv p0 (by omega) (by omega)) q_cX10_66 q_dX10_nodeAt (by decide) rfl rfl hl.1 rfl (Nat.le_of_ble_eq_true rfl) dX10_nextTowards_2 (fun y120 H locs f119 h121 hF hB => ?_)
  obtain ⟨rfl, hy120, ky120⟩ := h121
  obtain ⟨x122, ex122⟩ : ∃ zz, q_is (q_z f y120 5) zz := ⟨_, q_isr _⟩
  refine q_gX10_104_20 cx hB hy120 ky120 ex122 dX10_nextTowards_5 (fun lb123 ub123 => ?_)
  refine q_ild_n cx dX10_nextTowards_8 rfl (lv_at hl 3 rfl) ?_
  refine q_iand cx dX10_nextTowards_9 (fun y124 ry124 ey124 => ?_)
  refine lv_istore (lv' := [(4, .int (q_i y124)), (0, .ref v), (1, .int (q_i p0)), (2, .int (q_i p1)), (3, .int (q_i p2))]) cx.1 cx.2.1 dX10_nextTowards_10 hl (by decide) rfl (fun ls hl => ?_)
  refine q_iconst cx dX10_nextTowards_12 ?_
  refine q_ild_n cx dX10_nextTowards_13 rfl (lv_at hl 3 rfl) ?_
  refine q_ishl cx dX10_nextTowards_14 (fun y125 ry125 ey125 => ?_)
  refine q_ild_n cx dX10_nextTowards_15 rfl (lv_at hl 4 rfl) ?_
  refine q_iand cx dX10_nextTowards_16 (fun y126 ry126 ey126 => ?_)
  refine lv_istore (lv' := [(5, .int (q_i y126)), (4, .int (q_i y124)), (0, .ref v), (1, .int (q_i p0)), (2, .int (q_i p1)), (3, .int (q_i p2))]) cx.1 cx.2.1 dX10_nextTowards_17 hl (by decide) rfl (fun ls hl => ?_)
  refine q_iconst cx dX10_nextTowards_19 ?_
  refine lv_istore (lv' := [(6, .int (q_i 0)), (5, .int (q_i y126)), (4, .int (q_i y124)), (0, .ref v), (1, .int (q_i p0)), (2, .int (q_i p1)), (3, .int (q_i p2))]) cx.1 cx.2.1 dX10_nextTowards_20 hl (by decide) rfl (fun ls hl => ?_)
  exact J22 ((Int.toNat (2147483647 - 0)) + 1) y124 (by omega) (by omega) y126 (by omega) (by omega) 0 (by decide) (by decide) (Nat.lt_succ_self _) H locs hB ls (lv_sub hl [3, 6, 2, 1, 0] rfl)
set_option maxHeartbeats 4000000 in
set_option maxRecDepth 100000 in
theorem g_X10_moveTo (l : Launch) (g : q_G) {K : Nat → Nat} {L : List Nat} (hN : L.Nodup) {f : Nat → va_E} (hT : q_Ty g K L f) (v : Nat) (hv : v ∈ L) (kv : K v = 10) (p0 : Nat) (hp0 : p0 ∈ L) (kp0 : K p0 = 4) (p1 : Int) (lp1 : (-2147483648) ≤ p1) (up1 : p1 ≤ 2147483647) : q_Ct l g K L yX10_moveTo cX10_moveTo 3 none 0 0 [.ref v, .ref p0, .int (q_i p1)] f [(4, 2, 3), (4, 5, 6)] (q_Pv (fun (f1 : Nat → va_E) => True)) := by
  refine q_ofb (by decide +kernel) hN hT (Nat.le_of_ble_eq_true rfl) ?_
  intro p e s m below meth c ls cx hr hlk hB hl
  have hl : lv_has ls 3 [(0, .ref v), (1, .ref p0), (2, .int (q_i p1))] := hl
  have J36 : ∀ (f36 : Nat → va_E) (H : Heap) (locs : List Loc) (hB : q_B g K L (fun q => q ∈ L) [(4, 2, 3), (4, 5, 6)] f f36 s H locs) (ls : Array Slot) (hl : lv_has ls 3 []), W p l e { frames := 0, cells := 0, slots := 0, locals := 0 } s m ([.ref v, .ref p0, .int (q_i p1)] : List Value).toArray below meth c H locs 0 0 (MQ below (q_Q g K L [(4, 2, 3), (4, 5, 6)] f (q_Pv (fun (f1 : Nat → va_E) => True))) ([.ref v, .ref p0, .int (q_i p1)] : List Value).toArray s 0 0 (fun q => q ∈ L)) (F0 m 36 ls []) := by
    intro f36 H locs hB ls hl
    refine q_vret cx hr hlk hB dX10_moveTo_36 ?_
    trivial
  obtain ⟨H, hH⟩ : ∃ H : Heap, H = s.heap := ⟨_, rfl⟩
  obtain ⟨locs, hlocs⟩ : ∃ z : List Loc, z = [] := ⟨_, rfl⟩
  rw [← hH, ← hlocs] at hB
  rw [← hH, ← hlocs]
  refine q_ald_n cx dX10_moveTo_0 rfl (lv_at hl 1 rfl) ?_
  refine q_ild_n cx dX10_moveTo_1 rfl (lv_at hl 2 rfl) ?_
  refine q_pX10_137 cx hB hp0 kp0 ⟨by omega, by omega⟩ (by omega) (by omega) rfl dX10_moveTo_2 (fun H locs f17 ef17 z18 hB => ?_)
  refine q_ald_n cx dX10_moveTo_5 rfl (lv_at hl 1 rfl) ?_
  refine lv_dup cx.1 cx.2.1 dX10_moveTo_6 rfl ?_
  obtain ⟨x19, ex19⟩ : ∃ zz, q_is (q_z f17 p0 6) zz := ⟨_, q_isr _⟩
  refine q_gX10_149 cx hB hp0 kp0 ex19 dX10_moveTo_7 (fun lb20 ub20 => ?_)
  refine q_iconst cx dX10_moveTo_10 ?_
  refine q_iadd cx dX10_moveTo_11 ?_
  refine q_any (fun y21 ry21 ey21 => ?_)
  refine q_pX10_149 cx hB hp0 kp0 ⟨by omega, by omega⟩ (by omega) (by omega) rfl dX10_moveTo_12 (fun H locs f22 ef22 z23 hB => ?_)
  refine q_ild_n cx dX10_moveTo_15 rfl (lv_at hl 2 rfl) ?_
  refine q_ald_n cx dX10_moveTo_16 rfl (lv_at hl 1 rfl) ?_
  obtain ⟨x24, ex24⟩ : ∃ zz, q_is (q_z f22 p0 1) zz := ⟨_, q_isr _⟩
  refine q_gX10_134 cx hB hp0 kp0 ex24 dX10_moveTo_17 (fun lb25 ub25 => ?_)
  refine q_icne (tgt := 36) cx ⟨by omega, by omega⟩ ⟨by omega, by omega⟩ dX10_moveTo_20 (by decide) (fun c26 => ?_) (fun c26 => ?_)
  · exact J36 f22 H locs hB ls (lv_sub hl [] rfl)
  · refine q_ald_n cx dX10_moveTo_23 rfl (lv_at hl 1 rfl) ?_
    refine q_iconst cx dX10_moveTo_24 ?_
    refine q_pX10_140 cx hB hp0 kp0 ⟨by decide, by decide⟩ (by decide) (by decide) rfl dX10_moveTo_25 (fun H locs f27 ef27 z28 hB => ?_)
    refine q_ald_n cx dX10_moveTo_28 rfl (lv_at hl 1 rfl) ?_
    refine q_ald_n cx dX10_moveTo_29 rfl (lv_at hl 0 rfl) ?_
    obtain ⟨x29, ex29⟩ : ∃ zz, q_is (q_z f27 v 11) zz := ⟨_, q_isr _⟩
    refine q_gX10_60 cx hB hv kv ex29 dX10_moveTo_30 (fun lb30 ub30 => ?_)
    refine q_pX10_146 cx hB hp0 kp0 ⟨by omega, by omega⟩ (by omega) (by omega) rfl dX10_moveTo_33 (fun H locs f31 ef31 z32 hB => ?_)
    exact J36 f31 H locs hB ls (lv_sub hl [] rfl)
set_option maxHeartbeats 4000000 in
set_option maxRecDepth 100000 in
theorem g_X10_moveTo_1 (l : Launch) (g : q_G) {K : Nat → Nat} {L : List Nat} (hN : L.Nodup) {f : Nat → va_E} (hT : q_Ty g K L f) (v : Nat) (hv : v ∈ L) (kv : K v = 13) (p0 : Nat) (hp0 : p0 ∈ L) (kp0 : K p0 = 25) (p1 : Int) (lp1 : (-2147483648) ≤ p1) (up1 : p1 ≤ 2147483647) : q_Ct l g K L yX10_moveTo cX10_moveTo 3 none 0 0 [.ref v, .ref p0, .int (q_i p1)] f [(25, 2, 3), (25, 5, 6)] (q_Pv (fun (f1 : Nat → va_E) => True)) := by
  refine q_ofb (by decide +kernel) hN hT (Nat.le_of_ble_eq_true rfl) ?_
  intro p e s m below meth c ls cx hr hlk hB hl
  have hl : lv_has ls 3 [(0, .ref v), (1, .ref p0), (2, .int (q_i p1))] := hl
  have J36 : ∀ (f36 : Nat → va_E) (H : Heap) (locs : List Loc) (hB : q_B g K L (fun q => q ∈ L) [(25, 2, 3), (25, 5, 6)] f f36 s H locs) (ls : Array Slot) (hl : lv_has ls 3 []), W p l e { frames := 0, cells := 0, slots := 0, locals := 0 } s m ([.ref v, .ref p0, .int (q_i p1)] : List Value).toArray below meth c H locs 0 0 (MQ below (q_Q g K L [(25, 2, 3), (25, 5, 6)] f (q_Pv (fun (f1 : Nat → va_E) => True))) ([.ref v, .ref p0, .int (q_i p1)] : List Value).toArray s 0 0 (fun q => q ∈ L)) (F0 m 36 ls []) := by
    intro f36 H locs hB ls hl
    refine q_vret cx hr hlk hB dX10_moveTo_36 ?_
    trivial
  obtain ⟨H, hH⟩ : ∃ H : Heap, H = s.heap := ⟨_, rfl⟩
  obtain ⟨locs, hlocs⟩ : ∃ z : List Loc, z = [] := ⟨_, rfl⟩
  rw [← hH, ← hlocs] at hB
  rw [← hH, ← hlocs]
  refine q_ald_n cx dX10_moveTo_0 rfl (lv_at hl 1 rfl) ?_
  refine q_ild_n cx dX10_moveTo_1 rfl (lv_at hl 2 rfl) ?_
  refine q_pX10_137_25 cx hB hp0 kp0 ⟨by omega, by omega⟩ (by omega) (by omega) rfl dX10_moveTo_2 (fun H locs f17 ef17 z18 hB => ?_)
  refine q_ald_n cx dX10_moveTo_5 rfl (lv_at hl 1 rfl) ?_
  refine lv_dup cx.1 cx.2.1 dX10_moveTo_6 rfl ?_
  obtain ⟨x19, ex19⟩ : ∃ zz, q_is (q_z f17 p0 6) zz := ⟨_, q_isr _⟩
  refine q_gX10_149_25 cx hB hp0 kp0 ex19 dX10_moveTo_7 (fun lb20 ub20 => ?_)
  refine q_iconst cx dX10_moveTo_10 ?_
  refine q_iadd cx dX10_moveTo_11 ?_
  refine q_any (fun y21 ry21 ey21 => ?_)
  refine q_pX10_149_25 cx hB hp0 kp0 ⟨by omega, by omega⟩ (by omega) (by omega) rfl dX10_moveTo_12 (fun H locs f22 ef22 z23 hB => ?_)
  refine q_ild_n cx dX10_moveTo_15 rfl (lv_at hl 2 rfl) ?_
  refine q_ald_n cx dX10_moveTo_16 rfl (lv_at hl 1 rfl) ?_
  obtain ⟨x24, ex24⟩ : ∃ zz, q_is (q_z f22 p0 1) zz := ⟨_, q_isr _⟩
  refine q_gX10_134_25 cx hB hp0 kp0 ex24 dX10_moveTo_17 (fun lb25 ub25 => ?_)
  refine q_icne (tgt := 36) cx ⟨by omega, by omega⟩ ⟨by omega, by omega⟩ dX10_moveTo_20 (by decide) (fun c26 => ?_) (fun c26 => ?_)
  · exact J36 f22 H locs hB ls (lv_sub hl [] rfl)
  · refine q_ald_n cx dX10_moveTo_23 rfl (lv_at hl 1 rfl) ?_
    refine q_iconst cx dX10_moveTo_24 ?_
    refine q_pX10_140_25 cx hB hp0 kp0 ⟨by decide, by decide⟩ (by decide) (by decide) rfl dX10_moveTo_25 (fun H locs f27 ef27 z28 hB => ?_)
    refine q_ald_n cx dX10_moveTo_28 rfl (lv_at hl 1 rfl) ?_
    refine q_ald_n cx dX10_moveTo_29 rfl (lv_at hl 0 rfl) ?_
    obtain ⟨x29, ex29⟩ : ∃ zz, q_is (q_z f27 v 11) zz := ⟨_, q_isr _⟩
    refine q_gX10_60_13 cx hB hv kv ex29 dX10_moveTo_30 (fun lb30 ub30 => ?_)
    refine q_pX10_146_25 cx hB hp0 kp0 ⟨by omega, by omega⟩ (by omega) (by omega) rfl dX10_moveTo_33 (fun H locs f31 ef31 z32 hB => ?_)
    exact J36 f31 H locs hB ls (lv_sub hl [] rfl)
set_option maxHeartbeats 4000000 in
set_option maxRecDepth 100000 in
theorem g_X10_moveTo_2 (l : Launch) (g : q_G) {K : Nat → Nat} {L : List Nat} (hN : L.Nodup) {f : Nat → va_E} (hT : q_Ty g K L f) (v : Nat) (hv : v ∈ L) (kv : K v = 14) (p0 : Nat) (hp0 : p0 ∈ L) (kp0 : K p0 = 26) (p1 : Int) (lp1 : (-2147483648) ≤ p1) (up1 : p1 ≤ 2147483647) : q_Ct l g K L yX10_moveTo cX10_moveTo 3 none 0 0 [.ref v, .ref p0, .int (q_i p1)] f [(26, 2, 3), (26, 5, 6)] (q_Pv (fun (f1 : Nat → va_E) => True)) := by
  refine q_ofb (by decide +kernel) hN hT (Nat.le_of_ble_eq_true rfl) ?_
  intro p e s m below meth c ls cx hr hlk hB hl
  have hl : lv_has ls 3 [(0, .ref v), (1, .ref p0), (2, .int (q_i p1))] := hl
  have J36 : ∀ (f36 : Nat → va_E) (H : Heap) (locs : List Loc) (hB : q_B g K L (fun q => q ∈ L) [(26, 2, 3), (26, 5, 6)] f f36 s H locs) (ls : Array Slot) (hl : lv_has ls 3 []), W p l e { frames := 0, cells := 0, slots := 0, locals := 0 } s m ([.ref v, .ref p0, .int (q_i p1)] : List Value).toArray below meth c H locs 0 0 (MQ below (q_Q g K L [(26, 2, 3), (26, 5, 6)] f (q_Pv (fun (f1 : Nat → va_E) => True))) ([.ref v, .ref p0, .int (q_i p1)] : List Value).toArray s 0 0 (fun q => q ∈ L)) (F0 m 36 ls []) := by
    intro f36 H locs hB ls hl
    refine q_vret cx hr hlk hB dX10_moveTo_36 ?_
    trivial
  obtain ⟨H, hH⟩ : ∃ H : Heap, H = s.heap := ⟨_, rfl⟩
  obtain ⟨locs, hlocs⟩ : ∃ z : List Loc, z = [] := ⟨_, rfl⟩
  rw [← hH, ← hlocs] at hB
  rw [← hH, ← hlocs]
  refine q_ald_n cx dX10_moveTo_0 rfl (lv_at hl 1 rfl) ?_
  refine q_ild_n cx dX10_moveTo_1 rfl (lv_at hl 2 rfl) ?_
  refine q_pX10_137_26 cx hB hp0 kp0 ⟨by omega, by omega⟩ (by omega) (by omega) rfl dX10_moveTo_2 (fun H locs f17 ef17 z18 hB => ?_)
  refine q_ald_n cx dX10_moveTo_5 rfl (lv_at hl 1 rfl) ?_
  refine lv_dup cx.1 cx.2.1 dX10_moveTo_6 rfl ?_
  obtain ⟨x19, ex19⟩ : ∃ zz, q_is (q_z f17 p0 6) zz := ⟨_, q_isr _⟩
  refine q_gX10_149_26 cx hB hp0 kp0 ex19 dX10_moveTo_7 (fun lb20 ub20 => ?_)
  refine q_iconst cx dX10_moveTo_10 ?_
  refine q_iadd cx dX10_moveTo_11 ?_
  refine q_any (fun y21 ry21 ey21 => ?_)
  refine q_pX10_149_26 cx hB hp0 kp0 ⟨by omega, by omega⟩ (by omega) (by omega) rfl dX10_moveTo_12 (fun H locs f22 ef22 z23 hB => ?_)
  refine q_ild_n cx dX10_moveTo_15 rfl (lv_at hl 2 rfl) ?_
  refine q_ald_n cx dX10_moveTo_16 rfl (lv_at hl 1 rfl) ?_
  obtain ⟨x24, ex24⟩ : ∃ zz, q_is (q_z f22 p0 1) zz := ⟨_, q_isr _⟩
  refine q_gX10_134_26 cx hB hp0 kp0 ex24 dX10_moveTo_17 (fun lb25 ub25 => ?_)
  refine q_icne (tgt := 36) cx ⟨by omega, by omega⟩ ⟨by omega, by omega⟩ dX10_moveTo_20 (by decide) (fun c26 => ?_) (fun c26 => ?_)
  · exact J36 f22 H locs hB ls (lv_sub hl [] rfl)
  · refine q_ald_n cx dX10_moveTo_23 rfl (lv_at hl 1 rfl) ?_
    refine q_iconst cx dX10_moveTo_24 ?_
    refine q_pX10_140_26 cx hB hp0 kp0 ⟨by decide, by decide⟩ (by decide) (by decide) rfl dX10_moveTo_25 (fun H locs f27 ef27 z28 hB => ?_)
    refine q_ald_n cx dX10_moveTo_28 rfl (lv_at hl 1 rfl) ?_
    refine q_ald_n cx dX10_moveTo_29 rfl (lv_at hl 0 rfl) ?_
    obtain ⟨x29, ex29⟩ : ∃ zz, q_is (q_z f27 v 11) zz := ⟨_, q_isr _⟩
    refine q_gX10_60_14 cx hB hv kv ex29 dX10_moveTo_30 (fun lb30 ub30 => ?_)
    refine q_pX10_146_26 cx hB hp0 kp0 ⟨by omega, by omega⟩ (by omega) (by omega) rfl dX10_moveTo_33 (fun H locs f31 ef31 z32 hB => ?_)
    exact J36 f31 H locs hB ls (lv_sub hl [] rfl)
set_option maxHeartbeats 4000000 in
set_option maxRecDepth 100000 in
theorem g_X10_moveTo_3 (l : Launch) (g : q_G) {K : Nat → Nat} {L : List Nat} (hN : L.Nodup) {f : Nat → va_E} (hT : q_Ty g K L f) (v : Nat) (hv : v ∈ L) (kv : K v = 15) (p0 : Nat) (hp0 : p0 ∈ L) (kp0 : K p0 = 27) (p1 : Int) (lp1 : (-2147483648) ≤ p1) (up1 : p1 ≤ 2147483647) : q_Ct l g K L yX10_moveTo cX10_moveTo 3 none 0 0 [.ref v, .ref p0, .int (q_i p1)] f [(27, 2, 3), (27, 5, 6)] (q_Pv (fun (f1 : Nat → va_E) => True)) := by
  refine q_ofb (by decide +kernel) hN hT (Nat.le_of_ble_eq_true rfl) ?_
  intro p e s m below meth c ls cx hr hlk hB hl
  have hl : lv_has ls 3 [(0, .ref v), (1, .ref p0), (2, .int (q_i p1))] := hl
  have J36 : ∀ (f36 : Nat → va_E) (H : Heap) (locs : List Loc) (hB : q_B g K L (fun q => q ∈ L) [(27, 2, 3), (27, 5, 6)] f f36 s H locs) (ls : Array Slot) (hl : lv_has ls 3 []), W p l e { frames := 0, cells := 0, slots := 0, locals := 0 } s m ([.ref v, .ref p0, .int (q_i p1)] : List Value).toArray below meth c H locs 0 0 (MQ below (q_Q g K L [(27, 2, 3), (27, 5, 6)] f (q_Pv (fun (f1 : Nat → va_E) => True))) ([.ref v, .ref p0, .int (q_i p1)] : List Value).toArray s 0 0 (fun q => q ∈ L)) (F0 m 36 ls []) := by
    intro f36 H locs hB ls hl
    refine q_vret cx hr hlk hB dX10_moveTo_36 ?_
    trivial
  obtain ⟨H, hH⟩ : ∃ H : Heap, H = s.heap := ⟨_, rfl⟩
  obtain ⟨locs, hlocs⟩ : ∃ z : List Loc, z = [] := ⟨_, rfl⟩
  rw [← hH, ← hlocs] at hB
  rw [← hH, ← hlocs]
  refine q_ald_n cx dX10_moveTo_0 rfl (lv_at hl 1 rfl) ?_
  refine q_ild_n cx dX10_moveTo_1 rfl (lv_at hl 2 rfl) ?_
  refine q_pX10_137_27 cx hB hp0 kp0 ⟨by omega, by omega⟩ (by omega) (by omega) rfl dX10_moveTo_2 (fun H locs f17 ef17 z18 hB => ?_)
  refine q_ald_n cx dX10_moveTo_5 rfl (lv_at hl 1 rfl) ?_
  refine lv_dup cx.1 cx.2.1 dX10_moveTo_6 rfl ?_
  obtain ⟨x19, ex19⟩ : ∃ zz, q_is (q_z f17 p0 6) zz := ⟨_, q_isr _⟩
  refine q_gX10_149_27 cx hB hp0 kp0 ex19 dX10_moveTo_7 (fun lb20 ub20 => ?_)
  refine q_iconst cx dX10_moveTo_10 ?_
  refine q_iadd cx dX10_moveTo_11 ?_
  refine q_any (fun y21 ry21 ey21 => ?_)
  refine q_pX10_149_27 cx hB hp0 kp0 ⟨by omega, by omega⟩ (by omega) (by omega) rfl dX10_moveTo_12 (fun H locs f22 ef22 z23 hB => ?_)
  refine q_ild_n cx dX10_moveTo_15 rfl (lv_at hl 2 rfl) ?_
  refine q_ald_n cx dX10_moveTo_16 rfl (lv_at hl 1 rfl) ?_
  obtain ⟨x24, ex24⟩ : ∃ zz, q_is (q_z f22 p0 1) zz := ⟨_, q_isr _⟩
  refine q_gX10_134_27 cx hB hp0 kp0 ex24 dX10_moveTo_17 (fun lb25 ub25 => ?_)
  refine q_icne (tgt := 36) cx ⟨by omega, by omega⟩ ⟨by omega, by omega⟩ dX10_moveTo_20 (by decide) (fun c26 => ?_) (fun c26 => ?_)
  · exact J36 f22 H locs hB ls (lv_sub hl [] rfl)
  · refine q_ald_n cx dX10_moveTo_23 rfl (lv_at hl 1 rfl) ?_
    refine q_iconst cx dX10_moveTo_24 ?_
    refine q_pX10_140_27 cx hB hp0 kp0 ⟨by decide, by decide⟩ (by decide) (by decide) rfl dX10_moveTo_25 (fun H locs f27 ef27 z28 hB => ?_)
    refine q_ald_n cx dX10_moveTo_28 rfl (lv_at hl 1 rfl) ?_
    refine q_ald_n cx dX10_moveTo_29 rfl (lv_at hl 0 rfl) ?_
    obtain ⟨x29, ex29⟩ : ∃ zz, q_is (q_z f27 v 11) zz := ⟨_, q_isr _⟩
    refine q_gX10_60_15 cx hB hv kv ex29 dX10_moveTo_30 (fun lb30 ub30 => ?_)
    refine q_pX10_146_27 cx hB hp0 kp0 ⟨by omega, by omega⟩ (by omega) (by omega) rfl dX10_moveTo_33 (fun H locs f31 ef31 z32 hB => ?_)
    exact J36 f31 H locs hB ls (lv_sub hl [] rfl)
set_option maxHeartbeats 4000000 in
set_option maxRecDepth 100000 in
theorem g_X10_moveTo_4 (l : Launch) (g : q_G) {K : Nat → Nat} {L : List Nat} (hN : L.Nodup) {f : Nat → va_E} (hT : q_Ty g K L f) (v : Nat) (hv : v ∈ L) (kv : K v = 16) (p0 : Nat) (hp0 : p0 ∈ L) (kp0 : K p0 = 28) (p1 : Int) (lp1 : (-2147483648) ≤ p1) (up1 : p1 ≤ 2147483647) : q_Ct l g K L yX10_moveTo cX10_moveTo 3 none 0 0 [.ref v, .ref p0, .int (q_i p1)] f [(28, 2, 3), (28, 5, 6)] (q_Pv (fun (f1 : Nat → va_E) => True)) := by
  refine q_ofb (by decide +kernel) hN hT (Nat.le_of_ble_eq_true rfl) ?_
  intro p e s m below meth c ls cx hr hlk hB hl
  have hl : lv_has ls 3 [(0, .ref v), (1, .ref p0), (2, .int (q_i p1))] := hl
  have J36 : ∀ (f36 : Nat → va_E) (H : Heap) (locs : List Loc) (hB : q_B g K L (fun q => q ∈ L) [(28, 2, 3), (28, 5, 6)] f f36 s H locs) (ls : Array Slot) (hl : lv_has ls 3 []), W p l e { frames := 0, cells := 0, slots := 0, locals := 0 } s m ([.ref v, .ref p0, .int (q_i p1)] : List Value).toArray below meth c H locs 0 0 (MQ below (q_Q g K L [(28, 2, 3), (28, 5, 6)] f (q_Pv (fun (f1 : Nat → va_E) => True))) ([.ref v, .ref p0, .int (q_i p1)] : List Value).toArray s 0 0 (fun q => q ∈ L)) (F0 m 36 ls []) := by
    intro f36 H locs hB ls hl
    refine q_vret cx hr hlk hB dX10_moveTo_36 ?_
    trivial
  obtain ⟨H, hH⟩ : ∃ H : Heap, H = s.heap := ⟨_, rfl⟩
  obtain ⟨locs, hlocs⟩ : ∃ z : List Loc, z = [] := ⟨_, rfl⟩
  rw [← hH, ← hlocs] at hB
  rw [← hH, ← hlocs]
  refine q_ald_n cx dX10_moveTo_0 rfl (lv_at hl 1 rfl) ?_
  refine q_ild_n cx dX10_moveTo_1 rfl (lv_at hl 2 rfl) ?_
  refine q_pX10_137_28 cx hB hp0 kp0 ⟨by omega, by omega⟩ (by omega) (by omega) rfl dX10_moveTo_2 (fun H locs f17 ef17 z18 hB => ?_)
  refine q_ald_n cx dX10_moveTo_5 rfl (lv_at hl 1 rfl) ?_
  refine lv_dup cx.1 cx.2.1 dX10_moveTo_6 rfl ?_
  obtain ⟨x19, ex19⟩ : ∃ zz, q_is (q_z f17 p0 6) zz := ⟨_, q_isr _⟩
  refine q_gX10_149_28 cx hB hp0 kp0 ex19 dX10_moveTo_7 (fun lb20 ub20 => ?_)
  refine q_iconst cx dX10_moveTo_10 ?_
  refine q_iadd cx dX10_moveTo_11 ?_
  refine q_any (fun y21 ry21 ey21 => ?_)
  refine q_pX10_149_28 cx hB hp0 kp0 ⟨by omega, by omega⟩ (by omega) (by omega) rfl dX10_moveTo_12 (fun H locs f22 ef22 z23 hB => ?_)
  refine q_ild_n cx dX10_moveTo_15 rfl (lv_at hl 2 rfl) ?_
  refine q_ald_n cx dX10_moveTo_16 rfl (lv_at hl 1 rfl) ?_
  obtain ⟨x24, ex24⟩ : ∃ zz, q_is (q_z f22 p0 1) zz := ⟨_, q_isr _⟩
  refine q_gX10_134_28 cx hB hp0 kp0 ex24 dX10_moveTo_17 (fun lb25 ub25 => ?_)
  refine q_icne (tgt := 36) cx ⟨by omega, by omega⟩ ⟨by omega, by omega⟩ dX10_moveTo_20 (by decide) (fun c26 => ?_) (fun c26 => ?_)
  · exact J36 f22 H locs hB ls (lv_sub hl [] rfl)
  · refine q_ald_n cx dX10_moveTo_23 rfl (lv_at hl 1 rfl) ?_
    refine q_iconst cx dX10_moveTo_24 ?_
    refine q_pX10_140_28 cx hB hp0 kp0 ⟨by decide, by decide⟩ (by decide) (by decide) rfl dX10_moveTo_25 (fun H locs f27 ef27 z28 hB => ?_)
    refine q_ald_n cx dX10_moveTo_28 rfl (lv_at hl 1 rfl) ?_
    refine q_ald_n cx dX10_moveTo_29 rfl (lv_at hl 0 rfl) ?_
    obtain ⟨x29, ex29⟩ : ∃ zz, q_is (q_z f27 v 11) zz := ⟨_, q_isr _⟩
    refine q_gX10_60_16 cx hB hv kv ex29 dX10_moveTo_30 (fun lb30 ub30 => ?_)
    refine q_pX10_146_28 cx hB hp0 kp0 ⟨by omega, by omega⟩ (by omega) (by omega) rfl dX10_moveTo_33 (fun H locs f31 ef31 z32 hB => ?_)
    exact J36 f31 H locs hB ls (lv_sub hl [] rfl)
