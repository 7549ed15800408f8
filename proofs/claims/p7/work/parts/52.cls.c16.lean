set_option maxHeartbeats 4000000 in
set_option maxRecDepth 100000 in
theorem g_X4_figure_4 (l : Launch) (g : q_G) {K : Nat → Nat} {L : List Nat} (hN : L.Nodup) {f : Nat → va_E} (hT : q_Ty g K L f) (v : Nat) (hv : v ∈ L) (kv : K v = 28) (p0 : Int) (lp0 : (-2147483648) ≤ p0) (up0 : p0 ≤ 2147483647) : q_Ct l g K L yX4_figure cX4_figure 2 (some .int) 0 0 [.ref v, .int (q_i p0)] f [] (q_Pi (fun (z : Int) (f1 : Nat → va_E) => f = f1)) := by
  refine q_ofb (by decide +kernel) hN hT (Nat.le_of_ble_eq_true rfl) ?_
  intro p e s m below meth c ls cx hr hlk hB hl
  have hl : lv_has ls 2 [(0, .ref v), (1, .int (q_i p0))] := hl
  have J81 : ∀ (t81_0 : Int) (lt81_0 : 0 ≤ t81_0) (ut81_0 : t81_0 ≤ 1) (blp0 : 5 ≤ p0) (bup0 : p0 ≤ 5) (H : Heap) (locs : List Loc) (hB : q_B g K L (fun q => q ∈ L) [] f f s H locs) (ls : Array Slot) (hl : lv_has ls 2 []), W p l e { frames := 0, cells := 0, slots := 0, locals := 0 } s m ([.ref v, .int (q_i p0)] : List Value).toArray below meth c H locs 0 0 (MQ below (q_Q g K L [] f (q_Pi (fun (z : Int) (f1 : Nat → va_E) => f = f1))) ([.ref v, .int (q_i p0)] : List Value).toArray s 0 0 (fun q => q ∈ L)) (F0 m 81 ls [.int (q_i t81_0)]) := by
    intro t81_0 lt81_0 ut81_0 blp0 bup0 H locs hB ls hl
    refine q_iret cx hr hlk hB dX4_figure_81 ⟨by omega, by omega⟩ ?_
    exact rfl
  obtain ⟨H, hH⟩ : ∃ H : Heap, H = s.heap := ⟨_, rfl⟩
  obtain ⟨locs, hlocs⟩ : ∃ z : List Loc, z = [] := ⟨_, rfl⟩
  rw [← hH, ← hlocs] at hB
  rw [← hH, ← hlocs]
  refine q_ild_n cx dX4_figure_0 rfl (lv_at hl 1 rfl) ?_
  by_cases c27 : p0 = 0
  · refine lv_tableIn (tgt := 44) cx.1 cx.2.1 dX4_figure_1 (by rw [q_toInt ⟨by omega, by omega⟩]; omega) (by rw [q_toInt ⟨by omega, by omega⟩]; omega) (off := 43) (by rw [q_toInt ⟨by omega, by omega⟩, c27]; rfl) (by decide) ?_
    refine q_ald_n cx dX4_figure_44 rfl (lv_at hl 0 rfl) ?_
    obtain ⟨x28, ex28⟩ : ∃ zz, q_is (q_z f v 0) zz := ⟨_, q_isr _⟩
    refine q_gX4_7_28 cx hB hv kv ex28 dX4_figure_45 (fun lb29 ub29 => ?_)
    refine q_iret cx hr hlk hB dX4_figure_48 ⟨by omega, by omega⟩ ?_
    exact rfl
  by_cases c30 : p0 = 1
  · refine lv_tableIn (tgt := 49) cx.1 cx.2.1 dX4_figure_1 (by rw [q_toInt ⟨by omega, by omega⟩]; omega) (by rw [q_toInt ⟨by omega, by omega⟩]; omega) (off := 48) (by rw [q_toInt ⟨by omega, by omega⟩, c30]; rfl) (by decide) ?_
    refine q_ald_n cx dX4_figure_49 rfl (lv_at hl 0 rfl) ?_
    obtain ⟨x31, ex31⟩ : ∃ zz, q_is (q_z f v 1) zz := ⟨_, q_isr _⟩
    refine q_gX4_13_28 cx hB hv kv ex31 dX4_figure_50 (fun lb32 ub32 => ?_)
    refine q_iret cx hr hlk hB dX4_figure_53 ⟨by omega, by omega⟩ ?_
    exact rfl
  by_cases c33 : p0 = 2
  · refine lv_tableIn (tgt := 54) cx.1 cx.2.1 dX4_figure_1 (by rw [q_toInt ⟨by omega, by omega⟩]; omega) (by rw [q_toInt ⟨by omega, by omega⟩]; omega) (off := 53) (by rw [q_toInt ⟨by omega, by omega⟩, c33]; rfl) (by decide) ?_
    refine q_ald_n cx dX4_figure_54 rfl (lv_at hl 0 rfl) ?_
    obtain ⟨x34, ex34⟩ : ∃ zz, q_is (q_z f v 2) zz := ⟨_, q_isr _⟩
    refine q_gX4_16_28 cx hB hv kv ex34 dX4_figure_55 (fun lb35 ub35 => ?_)
    refine q_iret cx hr hlk hB dX4_figure_58 ⟨by omega, by omega⟩ ?_
    exact rfl
  by_cases c36 : p0 = 3
  · refine lv_tableIn (tgt := 59) cx.1 cx.2.1 dX4_figure_1 (by rw [q_toInt ⟨by omega, by omega⟩]; omega) (by rw [q_toInt ⟨by omega, by omega⟩]; omega) (off := 58) (by rw [q_toInt ⟨by omega, by omega⟩, c36]; rfl) (by decide) ?_
    refine q_ald_n cx dX4_figure_59 rfl (lv_at hl 0 rfl) ?_
    obtain ⟨x37, ex37⟩ : ∃ zz, q_is (q_z f v 3) zz := ⟨_, q_isr _⟩
    refine q_gX4_19_28 cx hB hv kv ex37 dX4_figure_60 (fun lb38 ub38 => ?_)
    refine q_iret cx hr hlk hB dX4_figure_63 ⟨by omega, by omega⟩ ?_
    exact rfl
  by_cases c39 : p0 = 4
  · refine lv_tableIn (tgt := 64) cx.1 cx.2.1 dX4_figure_1 (by rw [q_toInt ⟨by omega, by omega⟩]; omega) (by rw [q_toInt ⟨by omega, by omega⟩]; omega) (off := 63) (by rw [q_toInt ⟨by omega, by omega⟩, c39]; rfl) (by decide) ?_
    refine q_ald_n cx dX4_figure_64 rfl (lv_at hl 0 rfl) ?_
    obtain ⟨x40, ex40⟩ : ∃ zz, q_is (q_z f v 4) zz := ⟨_, q_isr _⟩
    refine q_gX4_22_28 cx hB hv kv ex40 dX4_figure_65 (fun lb41 ub41 => ?_)
    refine q_iret cx hr hlk hB dX4_figure_68 ⟨by omega, by omega⟩ ?_
    exact rfl
  by_cases c42 : p0 = 5
  · refine lv_tableIn (tgt := 69) cx.1 cx.2.1 dX4_figure_1 (by rw [q_toInt ⟨by omega, by omega⟩]; omega) (by rw [q_toInt ⟨by omega, by omega⟩]; omega) (off := 68) (by rw [q_toInt ⟨by omega, by omega⟩, c42]; rfl) (by decide) ?_
    refine q_ald_n cx dX4_figure_69 rfl (lv_at hl 0 rfl) ?_
    obtain ⟨x43, ex43⟩ : ∃ zz, q_is (q_z f v 7) zz := ⟨_, q_isr _⟩
    refine q_gX4_31_28 cx hB hv kv ex43 dX4_figure_70 (fun lb44 ub44 => ?_)
    refine q_ifeq (tgt := 80) cx ⟨by omega, by omega⟩ dX4_figure_73 (by decide) (fun c45 => ?_) (fun c45 => ?_)
    · refine q_iconst cx dX4_figure_80 ?_
      exact J81 0 (by decide) (by decide) (by omega) (by omega) H locs hB ls (lv_sub hl [] rfl)
    · refine q_iconst cx dX4_figure_76 ?_
      refine lv_goto (tgt := 81) cx.1 cx.2.1 dX4_figure_77 (by decide) ?_
      exact J81 1 (by decide) (by decide) (by omega) (by omega) H locs hB ls (lv_sub hl [] rfl)
  by_cases c46 : p0 = 6
  · refine lv_tableIn (tgt := 82) cx.1 cx.2.1 dX4_figure_1 (by rw [q_toInt ⟨by omega, by omega⟩]; omega) (by rw [q_toInt ⟨by omega, by omega⟩]; omega) (off := 81) (by rw [q_toInt ⟨by omega, by omega⟩, c46]; rfl) (by decide) ?_
    refine q_ald_n cx dX4_figure_82 rfl (lv_at hl 0 rfl) ?_
    obtain ⟨x47, ex47⟩ : ∃ zz, q_is (q_z f v 5) zz := ⟨_, q_isr _⟩
    refine q_gX4_25_28 cx hB hv kv ex47 dX4_figure_83 (fun lb48 ub48 => ?_)
    refine q_iret cx hr hlk hB dX4_figure_86 ⟨by omega, by omega⟩ ?_
    exact rfl
  refine lv_tableOut (tgt := 87) cx.1 cx.2.1 dX4_figure_1 (by rw [q_toInt ⟨by omega, by omega⟩]; omega) (by decide) ?_
  refine q_ald_n cx dX4_figure_87 rfl (lv_at hl 0 rfl) ?_
  obtain ⟨x49, ex49⟩ : ∃ zz, q_is (q_z f v 6) zz := ⟨_, q_isr _⟩
  refine q_gX4_28_28 cx hB hv kv ex49 dX4_figure_88 (fun lb50 ub50 => ?_)
  refine q_iret cx hr hlk hB dX4_figure_91 ⟨by omega, by omega⟩ ?_
  exact rfl
set_option maxHeartbeats 4000000 in
set_option maxRecDepth 100000 in
theorem g_X6_byteAt (l : Launch) (g : q_G) {K : Nat → Nat} {L : List Nat} (hN : L.Nodup) {f : Nat → va_E} (hT : q_Ty g K L f) (v : Nat) (hv : v ∈ L) (kv : K v = 6) (p0 : Int) (lp0 : (-2147483648) ≤ p0) (up0 : p0 ≤ 2147483647) : q_Ct l g K L yX6_byteAt cX6_byteAt 2 (some .int) 0 0 [.ref v, .int (q_i p0)] f [] (q_Pi (fun (z : Int) (f1 : Nat → va_E) => f = f1 ∧ (-128) ≤ z ∧ z ≤ 127)) := by
  refine q_ofb (by decide +kernel) hN hT (Nat.le_of_ble_eq_true rfl) ?_
  intro p e s m below meth c ls cx hr hlk hB hl
  have hl : lv_has ls 2 [(0, .ref v), (1, .int (q_i p0))] := hl
  have J23 : ∀ (t23_0 : Int) (lt23_0 : (-128) ≤ t23_0) (ut23_0 : t23_0 ≤ 127) (H : Heap) (locs : List Loc) (hB : q_B g K L (fun q => q ∈ L) [] f f s H locs) (ls : Array Slot) (hl : lv_has ls 2 []), W p l e { frames := 0, cells := 0, slots := 0, locals := 0 } s m ([.ref v, .int (q_i p0)] : List Value).toArray below meth c H locs 0 0 (MQ below (q_Q g K L [] f (q_Pi (fun (z : Int) (f1 : Nat → va_E) => f = f1 ∧ (-128) ≤ z ∧ z ≤ 127))) ([.ref v, .int (q_i p0)] : List Value).toArray s 0 0 (fun q => q ∈ L)) (F0 m 23 ls [.int (q_i t23_0)]) := by
    intro t23_0 lt23_0 ut23_0 H locs hB ls hl
    refine q_iret cx hr hlk hB dX6_byteAt_23 ⟨by omega, by omega⟩ ?_
    exact ⟨rfl, (by omega), (by omega)⟩
  have J22 : ∀  (H : Heap) (locs : List Loc) (hB : q_B g K L (fun q => q ∈ L) [] f f s H locs) (ls : Array Slot) (hl : lv_has ls 2 []), W p l e { frames := 0, cells := 0, slots := 0, locals := 0 } s m ([.ref v, .int (q_i p0)] : List Value).toArray below meth c H locs 0 0 (MQ below (q_Q g K L [] f (q_Pi (fun (z : Int) (f1 : Nat → va_E) => f = f1 ∧ (-128) ≤ z ∧ z ≤ 127))) ([.ref v, .int (q_i p0)] : List Value).toArray s 0 0 (fun q => q ∈ L)) (F0 m 22 ls []) := by
    intro  H locs hB ls hl
    refine q_iconst cx dX6_byteAt_22 ?_
    exact J23 0 (by decide) (by decide) H locs hB ls (lv_sub hl [] rfl)
  obtain ⟨H, hH⟩ : ∃ H : Heap, H = s.heap := ⟨_, rfl⟩
  obtain ⟨locs, hlocs⟩ : ∃ z : List Loc, z = [] := ⟨_, rfl⟩
  rw [← hH, ← hlocs] at hB
  rw [← hH, ← hlocs]
  refine q_ild_n cx dX6_byteAt_0 rfl (lv_at hl 1 rfl) ?_
  refine q_iflt (tgt := 22) cx ⟨by omega, by omega⟩ dX6_byteAt_1 (by decide) (fun c8 => ?_) (fun c8 => ?_)
  · exact J22  H locs hB ls (lv_sub hl [] rfl)
  · refine q_ild_n cx dX6_byteAt_4 rfl (lv_at hl 1 rfl) ?_
    refine q_ald_n cx dX6_byteAt_5 rfl (lv_at hl 0 rfl) ?_
    obtain ⟨p9, ep9⟩ : ∃ zz, q_ir (q_r f v 0) zz := ⟨_, q_irr _⟩
    refine q_gX6_9 cx hB hv kv ep9 dX6_byteAt_6 (fun hb10 kb10 => ?_)
    refine q_alen (n := 600) cx hB hb10 kb10 (by decide) rfl 0 rfl rfl dX6_byteAt_9 ?_
    refine q_icge (tgt := 22) cx ⟨by omega, by omega⟩ ⟨by decide, by decide⟩ dX6_byteAt_10 (by decide) (fun c11 => ?_) (fun c11 => ?_)
    · exact J22  H locs hB ls (lv_sub hl [] rfl)
    · refine q_ald_n cx dX6_byteAt_13 rfl (lv_at hl 0 rfl) ?_
      refine q_gX6_9 cx hB hv kv ep9 dX6_byteAt_14 (fun hb12 kb12 => ?_)
      refine q_ild_n cx dX6_byteAt_17 rfl (lv_at hl 1 rfl) ?_
      obtain ⟨x13, ex13⟩ : ∃ zz, q_is (q_z f p9 (Int.toNat p0)) zz := ⟨_, q_isr _⟩
      refine q_bald (lo := (-128)) (hi := 127) (n := 600) cx hB hb10 kb10 (by decide) rfl rfl (by omega) (by omega) (by decide) rfl ex13 dX6_byteAt_18 (fun lb14 ub14 => ?_)
      refine lv_goto (tgt := 23) cx.1 cx.2.1 dX6_byteAt_19 (by decide) ?_
      exact J23 x13 (by omega) (by omega) H locs hB ls (lv_sub hl [] rfl)
set_option maxHeartbeats 4000000 in
set_option maxRecDepth 100000 in
theorem g_X8_letterOf (l : Launch) (g : q_G) {K : Nat → Nat} {L : List Nat} (hN : L.Nodup) {f : Nat → va_E} (hT : q_Ty g K L f) (p0 : Int64) (p1 : Int) (lp1 : (-2147483648) ≤ p1) (up1 : p1 ≤ 2147483647) : q_Ct l g K L yX8_letterOf cX8_letterOf 3 (some .int) 0 0 [.long p0, .int (q_i p1)] f [] (q_Pi (fun (z : Int) (f1 : Nat → va_E) => f = f1)) := by
  refine q_ofb (by decide +kernel) hN hT (Nat.le_of_ble_eq_true rfl) ?_
  intro p e s m below meth c ls cx hr hlk hB hl
  have hl : lv_has ls 3 [(0, .long p0), (2, .int (q_i p1))] := hl
  have J25 : ∀ (t25_0 : Int) (lt25_0 : (-2147483648) ≤ t25_0) (ut25_0 : t25_0 ≤ 2147483647) (H : Heap) (locs : List Loc) (hB : q_B g K L (fun q => q ∈ L) [] f f s H locs) (ls : Array Slot) (hl : lv_has ls 3 []), W p l e { frames := 0, cells := 0, slots := 0, locals := 0 } s m ([.long p0, .int (q_i p1)] : List Value).toArray below meth c H locs 0 0 (MQ below (q_Q g K L [] f (q_Pi (fun (z : Int) (f1 : Nat → va_E) => f = f1))) ([.long p0, .int (q_i p1)] : List Value).toArray s 0 0 (fun q => q ∈ L)) (F0 m 25 ls [.int (q_i t25_0)]) := by
    intro t25_0 lt25_0 ut25_0 H locs hB ls hl
    refine q_iret cx hr hlk hB dX8_letterOf_25 ⟨by omega, by omega⟩ ?_
    exact rfl
  have J24 : ∀  (H : Heap) (locs : List Loc) (hB : q_B g K L (fun q => q ∈ L) [] f f s H locs) (ls : Array Slot) (hl : lv_has ls 3 []), W p l e { frames := 0, cells := 0, slots := 0, locals := 0 } s m ([.long p0, .int (q_i p1)] : List Value).toArray below meth c H locs 0 0 (MQ below (q_Q g K L [] f (q_Pi (fun (z : Int) (f1 : Nat → va_E) => f = f1))) ([.long p0, .int (q_i p1)] : List Value).toArray s 0 0 (fun q => q ∈ L)) (F0 m 24 ls []) := by
    intro  H locs hB ls hl
    refine q_iconst cx dX8_letterOf_24 ?_
    exact J25 0 (by decide) (by decide) H locs hB ls (lv_sub hl [] rfl)
  obtain ⟨H, hH⟩ : ∃ H : Heap, H = s.heap := ⟨_, rfl⟩
  obtain ⟨locs, hlocs⟩ : ∃ z : List Loc, z = [] := ⟨_, rfl⟩
  rw [← hH, ← hlocs] at hB
  rw [← hH, ← hlocs]
  refine q_ild_n cx dX8_letterOf_0 rfl (lv_at hl 1 rfl) ?_
  refine q_iflt (tgt := 24) cx ⟨by omega, by omega⟩ dX8_letterOf_1 (by decide) (fun c6 => ?_) (fun c6 => ?_)
  · exact J24  H locs hB ls (lv_sub hl [] rfl)
  · refine q_ild_n cx dX8_letterOf_4 rfl (lv_at hl 1 rfl) ?_
    refine q_bipush cx dX8_letterOf_5 rfl ?_
    refine q_icge (tgt := 24) cx ⟨by omega, by omega⟩ ⟨by decide, by decide⟩ dX8_letterOf_7 (by decide) (fun c7 => ?_) (fun c7 => ?_)
    · exact J24  H locs hB ls (lv_sub hl [] rfl)
    · refine q_lld_n cx dX8_letterOf_10 rfl (lv_at hl 0 rfl) ?_
      refine q_bipush cx dX8_letterOf_11 rfl ?_
      refine q_ild_n cx dX8_letterOf_13 rfl (lv_at hl 1 rfl) ?_
      refine q_imul cx dX8_letterOf_14 ?_
      refine lv_lshr cx.1 cx.2.1 dX8_letterOf_15 rfl ?_
      refine lv_topl (fun j8 ej8 => ?_)
      refine lv_ldc2 (v := q_l 255) cx.1 cx.2.1 cx.2.2.2.1 (cx.2.2.2.2 _ q_h759) dX8_letterOf_16 ?_
      refine lv_land cx.1 cx.2.1 dX8_letterOf_19 ?_
      refine lv_topl (fun j9 ej9 => ?_)
      refine q_l2i cx dX8_letterOf_20 (fun y10 ry10 ey10 => ?_)
      refine lv_goto (tgt := 25) cx.1 cx.2.1 dX8_letterOf_21 (by decide) ?_
      exact J25 y10 (by omega) (by omega) H locs hB ls (lv_sub hl [] rfl)
set_option maxHeartbeats 4000000 in
set_option maxRecDepth 100000 in
theorem g_X6_put (l : Launch) (g : q_G) {K : Nat → Nat} {L : List Nat} (hN : L.Nodup) {f : Nat → va_E} (hT : q_Ty g K L f) (v : Nat) (hv : v ∈ L) (kv : K v = 6) (p0 : Int) (lp0 : (-2147483648) ≤ p0) (up0 : p0 ≤ 2147483647) : q_Ct l g K L yX6_put cX6_put 2 none 0 0 [.ref v, .int (q_i p0)] f [(6, 1, 1), (143, 0, 599)] (q_Pv (fun (f1 : Nat → va_E) => True)) := by
  refine q_ofb (by decide +kernel) hN hT (Nat.le_of_ble_eq_true rfl) ?_
  intro p e s m below meth c ls cx hr hlk hB hl
  have hl : lv_has ls 2 [(0, .ref v), (1, .int (q_i p0))] := hl
  have J40 : ∀ (f40 : Nat → va_E) (H : Heap) (locs : List Loc) (hB : q_B g K L (fun q => q ∈ L) [(6, 1, 1), (143, 0, 599)] f f40 s H locs) (ls : Array Slot) (hl : lv_has ls 2 []), W p l e { frames := 0, cells := 0, slots := 0, locals := 0 } s m ([.ref v, .int (q_i p0)] : List Value).toArray below meth c H locs 0 0 (MQ below (q_Q g K L [(6, 1, 1), (143, 0, 599)] f (q_Pv (fun (f1 : Nat → va_E) => True))) ([.ref v, .int (q_i p0)] : List Value).toArray s 0 0 (fun q => q ∈ L)) (F0 m 40 ls []) := by
    intro f40 H locs hB ls hl
    refine q_vret cx hr hlk hB dX6_put_40 ?_
    trivial
  obtain ⟨H, hH⟩ : ∃ H : Heap, H = s.heap := ⟨_, rfl⟩
  obtain ⟨locs, hlocs⟩ : ∃ z : List Loc, z = [] := ⟨_, rfl⟩
  rw [← hH, ← hlocs] at hB
  rw [← hH, ← hlocs]
  refine q_ald_n cx dX6_put_0 rfl (lv_at hl 0 rfl) ?_
  obtain ⟨x20, ex20⟩ : ∃ zz, q_is (q_z f v 1) zz := ⟨_, q_isr _⟩
  refine q_gX6_13 cx hB hv kv ex20 dX6_put_1 (fun lb21 ub21 => ?_)
  refine q_iflt (tgt := 40) cx ⟨by omega, by omega⟩ dX6_put_4 (by decide) (fun c22 => ?_) (fun c22 => ?_)
  · exact J40 f H locs hB ls (lv_sub hl [] rfl)
  · refine q_ald_n cx dX6_put_7 rfl (lv_at hl 0 rfl) ?_
    refine q_gX6_13 cx hB hv kv ex20 dX6_put_8 (fun lb23 ub23 => ?_)
    refine q_ald_n cx dX6_put_11 rfl (lv_at hl 0 rfl) ?_
    obtain ⟨p24, ep24⟩ : ∃ zz, q_ir (q_r f v 0) zz := ⟨_, q_irr _⟩
    refine q_gX6_9 cx hB hv kv ep24 dX6_put_12 (fun hb25 kb25 => ?_)
    refine q_alen (n := 600) cx hB hb25 kb25 (by decide) rfl 0 rfl rfl dX6_put_15 ?_
    refine q_icge (tgt := 40) cx ⟨by omega, by omega⟩ ⟨by decide, by decide⟩ dX6_put_16 (by decide) (fun c26 => ?_) (fun c26 => ?_)
    · exact J40 f H locs hB ls (lv_sub hl [] rfl)
    · refine q_ald_n cx dX6_put_19 rfl (lv_at hl 0 rfl) ?_
      refine q_gX6_9 cx hB hv kv ep24 dX6_put_20 (fun hb27 kb27 => ?_)
      refine q_ald_n cx dX6_put_23 rfl (lv_at hl 0 rfl) ?_
      refine q_gX6_13 cx hB hv kv ex20 dX6_put_24 (fun lb28 ub28 => ?_)
      refine q_ild_n cx dX6_put_27 rfl (lv_at hl 1 rfl) ?_
      refine q_i2b cx dX6_put_28 (fun y29 ly29 uy29 ey29 => ?_)
      refine q_bast (lo := (-128)) (hi := 127) (n := 600) cx hB hb25 kb25 (by decide) rfl rfl (by omega) (by omega) (by decide) rfl ⟨by omega, by omega⟩ (by omega) (by omega) (by omega) (by omega) (q_inWi (lo := 0) (hi := 599) (by decide) (by omega) (by omega)) dX6_put_29 (fun H locs f30 ef30 z31 hB => ?_)
      have z32 : q_ir (q_r f30 v 0) p24 := by rw [ef30, q_setr (Or.inl (fun q => by rw [q, kb25] at kv; exact absurd kv (by decide)))]; exact ep24
      refine q_ald_n cx dX6_put_30 rfl (lv_at hl 0 rfl) ?_
      refine lv_dup cx.1 cx.2.1 dX6_put_31 rfl ?_
      obtain ⟨x33, ex33⟩ : ∃ zz, q_is (q_z f30 v 1) zz := ⟨_, q_isr _⟩
      refine q_gX6_13 cx hB hv kv ex33 dX6_put_32 (fun lb34 ub34 => ?_)
      refine q_iconst cx dX6_put_35 ?_
      refine q_iadd cx dX6_put_36 ?_
      refine q_any (fun y35 ry35 ey35 => ?_)
      refine q_pX6_13 cx hB hv kv ⟨by omega, by omega⟩ (by omega) (by omega) rfl dX6_put_37 (fun H locs f36 ef36 z37 hB => ?_)
      have z38 : q_ir (q_r f36 v 0) p24 := by rw [ef36, q_setr (Or.inr (by decide))]; exact z32
      exact J40 f36 H locs hB ls (lv_sub hl [] rfl)
set_option maxHeartbeats 4000000 in
set_option maxRecDepth 100000 in
theorem g_X6_writeName (l : Launch) (g : q_G) {K : Nat → Nat} {L : List Nat} (hN : L.Nodup) {f : Nat → va_E} (hT : q_Ty g K L f) (v : Nat) (hv : v ∈ L) (kv : K v = 6) (p0 : Int64) : q_Ct l g K L yX6_writeName cX6_writeName 4 none 1 22 [.ref v, .long p0] f [(6, 1, 1), (143, 0, 599)] (q_Pv (fun (f1 : Nat → va_E) => True)) := by
  refine q_ofb (by decide +kernel) hN hT (Nat.le_of_ble_eq_true rfl) ?_
  intro p e s m below meth c ls cx hr hlk hB hl
  have hl : lv_has ls 4 [(0, .ref v), (1, .long p0)] := hl
  have J2 : ∀ (n : Nat) (f2 : Nat → va_E) (v2_1 : Int64) (v2_3 : Int) (lv2_3 : 0 ≤ v2_3) (uv2_3 : v2_3 ≤ 9) (hmu : (Int.toNat (2147483647 - v2_3)) < n) (H : Heap) (locs : List Loc) (hB : q_B g K L (fun q => q ∈ L) [(6, 1, 1), (143, 0, 599)] f f2 s H locs) (ls : Array Slot) (hl : lv_has ls 4 [(0, .ref v), (1, .long v2_1), (3, .int (q_i v2_3))]), W p l e { frames := 1, cells := 0, slots := 0, locals := 22 } s m ([.ref v, .long p0] : List Value).toArray below meth c H locs 0 0 (MQ below (q_Q g K L [(6, 1, 1), (143, 0, 599)] f (q_Pv (fun (f1 : Nat → va_E) => True))) ([.ref v, .long p0] : List Value).toArray s 0 0 (fun q => q ∈ L)) (F0 m 2 ls []) := by
    intro n
    induction n with
    | zero =>
      intro f2 v2_1 v2_3 lv2_3 uv2_3 hmu
      exact absurd hmu (Nat.not_lt_zero _)
    | succ n ih2 =>
      intro f2 v2_1 v2_3 lv2_3 uv2_3 hmu H locs hB ls hl
      have J25 : ∀ (f25 : Nat → va_E) (buv2_3 : v2_3 ≤ 7) (H : Heap) (locs : List Loc) (hB : q_B g K L (fun q => q ∈ L) [(6, 1, 1), (143, 0, 599)] f f25 s H locs) (ls : Array Slot) (hl : lv_has ls 4 [(0, .ref v), (1, .long v2_1), (3, .int (q_i v2_3))]), W p l e { frames := 1, cells := 0, slots := 0, locals := 22 } s m ([.ref v, .long p0] : List Value).toArray below meth c H locs 0 0 (MQ below (q_Q g K L [(6, 1, 1), (143, 0, 599)] f (q_Pv (fun (f1 : Nat → va_E) => True))) ([.ref v, .long p0] : List Value).toArray s 0 0 (fun q => q ∈ L)) (F0 m 25 ls []) := by
        intro f25 buv2_3 H locs hB ls hl
        refine q_iinc (lv' := [(3, .int (q_i (v2_3 + 1))), (0, .ref v), (1, .long v2_1)]) cx dX6_writeName_25 hl (k := 2) rfl (by decide) rfl (fun ls hl => ?_)
        refine lv_goto (tgt := 2) cx.1 cx.2.1 dX6_writeName_28 (by decide) ?_
        exact ih2 f25 v2_1 (v2_3 + 1) (by omega) (by omega) (by omega) H locs hB ls (lv_sub hl [1, 2, 0] rfl)
      refine q_ild_n cx dX6_writeName_2 rfl (lv_at hl 2 rfl) ?_
      refine q_bipush cx dX6_writeName_3 rfl ?_
      refine q_icge (tgt := 31) cx ⟨by omega, by omega⟩ ⟨by decide, by decide⟩ dX6_writeName_5 (by decide) (fun c100 => ?_) (fun c100 => ?_)
      · refine q_vret cx hr hlk hB dX6_writeName_31 ?_
        trivial
      · refine q_lld_n cx dX6_writeName_8 rfl (lv_at hl 1 rfl) ?_
        refine q_ild_n cx dX6_writeName_9 rfl (lv_at hl 2 rfl) ?_
        refine q_cSi (As := [.long v2_1, .int (q_i v2_3)]) (rest := []) cx hB (fun _ h => h) hN (g_X8_letterOf l g hN hB.2.1 v2_1 v2_3 (by omega) (by omega)) q_cX6_77 q_dX8_letterOf (by decide) rfl rfl hl.1 rfl (Nat.le_of_ble_eq_true rfl) dX6_writeName_10 (fun y102 H locs f101 ry102 h103 hF hB => ?_)
        obtain rfl := h103
        refine q_ifeq (tgt := 25) cx ⟨by omega, by omega⟩ dX6_writeName_13 (by decide) (fun c104 => ?_) (fun c104 => ?_)
        · exact J25 f2 (by omega) H locs hB ls (lv_sub hl [0, 1, 2] rfl)
        · refine q_ald_n cx dX6_writeName_16 rfl (lv_at hl 0 rfl) ?_
          refine q_lld_n cx dX6_writeName_17 rfl (lv_at hl 1 rfl) ?_
          refine q_ild_n cx dX6_writeName_18 rfl (lv_at hl 2 rfl) ?_
          refine q_cSi (As := [.long v2_1, .int (q_i v2_3)]) (rest := [.ref v]) cx hB (fun _ h => h) hN (g_X8_letterOf l g hN hB.2.1 v2_1 v2_3 (by omega) (by omega)) q_cX6_77 q_dX8_letterOf (by decide) rfl rfl hl.1 rfl (Nat.le_of_ble_eq_true rfl) dX6_writeName_19 (fun y106 H locs f105 ry106 h107 hF hB => ?_)
          obtain rfl := h107
          refine q_cVv (As := [.int (q_i y106)]) (rest := []) cx hB (fun _ h => h) hN hv kv (by decide) rfl (g_X6_put l g hN hB.2.1 v hv kv y106 (by omega) (by omega)) q_cX6_40 q_dX6_put (by decide) rfl rfl hl.1 rfl (Nat.le_of_ble_eq_true rfl) dX6_writeName_22 (fun H locs f108 h110 hF hB => ?_)
          exact J25 f108 (by omega) H locs hB ls (lv_sub hl [0, 1, 2] rfl)
  obtain ⟨H, hH⟩ : ∃ H : Heap, H = s.heap := ⟨_, rfl⟩
  obtain ⟨locs, hlocs⟩ : ∃ z : List Loc, z = [] := ⟨_, rfl⟩
  rw [← hH, ← hlocs] at hB
  rw [← hH, ← hlocs]
  refine q_iconst cx dX6_writeName_0 ?_
  refine lv_istore_n (lv' := [(3, .int (q_i 0)), (0, .ref v), (1, .long p0)]) cx.1 cx.2.1 dX6_writeName_1 rfl hl (by decide) rfl (fun ls hl => ?_)
  exact J2 ((Int.toNat (2147483647 - 0)) + 1) f p0 0 (by decide) (by decide) (Nat.lt_succ_self _) H locs hB ls (lv_sub hl [1, 2, 0] rfl)
set_option maxHeartbeats 4000000 in
set_option maxRecDepth 100000 in
theorem g_X6_putNumber (l : Launch) (g : q_G) {K : Nat → Nat} {L : List Nat} (hN : L.Nodup) {f : Nat → va_E} (hT : q_Ty g K L f) (v : Nat) (hv : v ∈ L) (kv : K v = 6) (p0 : Int) (lp0 : (-2147483648) ≤ p0) (up0 : p0 ≤ 2147483647) : q_Ct l g K L yX6_putNumber cX6_putNumber 4 none 1 21 [.ref v, .int (q_i p0)] f [(6, 1, 1), (143, 0, 599)] (q_Pv (fun (f1 : Nat → va_E) => True)) := by
  refine q_ofb (by decide +kernel) hN hT (Nat.le_of_ble_eq_true rfl) ?_
  intro p e s m below meth c ls cx hr hlk hB hl
  have hl : lv_has ls 4 [(0, .ref v), (1, .int (q_i p0))] := hl
  obtain ⟨H, hH⟩ : ∃ H : Heap, H = s.heap := ⟨_, rfl⟩
  obtain ⟨locs, hlocs⟩ : ∃ z : List Loc, z = [] := ⟨_, rfl⟩
  rw [← hH, ← hlocs] at hB
  rw [← hH, ← hlocs]
  refine q_iconst cx dX6_putNumber_0 ?_
  refine lv_istore_n (lv' := [(2, .int (q_i 0)), (0, .ref v), (1, .int (q_i p0))]) cx.1 cx.2.1 dX6_putNumber_1 rfl hl (by decide) rfl (fun ls hl => ?_)
  refine q_sipush cx dX6_putNumber_2 rfl ?_
  refine lv_istore_n (lv' := [(3, .int (q_i 1000)), (2, .int (q_i 0)), (0, .ref v), (1, .int (q_i p0))]) cx.1 cx.2.1 dX6_putNumber_5 rfl hl (by decide) rfl (fun ls hl => ?_)
  refine q_ild_n cx dX6_putNumber_6 rfl (lv_at hl 0 rfl) ?_
  refine q_iconst cx dX6_putNumber_7 ?_
  refine q_iclt (tgt := 56) cx ⟨by decide, by decide⟩ ⟨by decide, by decide⟩ dX6_putNumber_8 (by decide) (fun c117 => ?_) (fun c117 => ?_)
  · exact absurd c117 (by omega)
  · refine q_ild_n cx dX6_putNumber_11 rfl (lv_at hl 1 rfl) ?_
    refine q_ifne (tgt := 25) cx ⟨by decide, by decide⟩ dX6_putNumber_12 (by decide) (fun c118 => ?_) (fun c118 => ?_)
    · exact absurd c118 (by omega)
    · refine q_ild_n cx dX6_putNumber_15 rfl (lv_at hl 3 rfl) ?_
      refine q_ild_n cx dX6_putNumber_16 rfl (lv_at hl 0 rfl) ?_
      refine q_icge (tgt := 25) cx ⟨by omega, by omega⟩ ⟨by decide, by decide⟩ dX6_putNumber_17 (by decide) (fun c119 => ?_) (fun c119 => ?_)
      · refine q_iconst cx dX6_putNumber_25 ?_
        refine lv_goto (tgt := 30) cx.1 cx.2.1 dX6_putNumber_26 (by decide) ?_
        refine lv_istore_n (lv' := [(2, .int (q_i 1)), (3, .int (q_i 1000)), (0, .ref v), (1, .int (q_i p0))]) cx.1 cx.2.1 dX6_putNumber_30 rfl hl (by decide) rfl (fun ls hl => ?_)
        refine q_ild_n cx dX6_putNumber_31 rfl (lv_at hl 0 rfl) ?_
        refine q_ifeq (tgt := 48) cx ⟨by decide, by decide⟩ dX6_putNumber_32 (by decide) (fun c120 => ?_) (fun c120 => ?_)
        · exact absurd c120 (by omega)
        · refine q_ald_n cx dX6_putNumber_35 rfl (lv_at hl 2 rfl) ?_
          refine q_bipush cx dX6_putNumber_36 rfl ?_
          refine q_ild_n cx dX6_putNumber_38 rfl (lv_at hl 3 rfl) ?_
          refine q_ild_n cx dX6_putNumber_39 rfl (lv_at hl 1 rfl) ?_
          refine q_idiv cx ⟨by omega, by omega⟩ ⟨by decide, by decide⟩ (by omega) dX6_putNumber_40 ?_
          obtain ⟨y121, ey121⟩ : ∃ zz, Int.tdiv p0 1000 = zz := ⟨_, rfl⟩
          obtain ⟨ly121, my121, uy121⟩ := q_tdb (x := p0) (y := 1000) (by omega) (by decide)
          rw [ey121] at ly121 my121 uy121
          rw [ey121]
          refine q_bipush cx dX6_putNumber_41 rfl ?_
          refine q_irem cx ⟨by omega, by omega⟩ ⟨by decide, by decide⟩ (by omega) dX6_putNumber_43 (fun y122 ey122 ay122 by122 ny122 => ?_)
          refine q_iadd cx dX6_putNumber_44 ?_
          refine q_cVv (As := [.int (q_i (48 + y122))]) (rest := []) cx hB (fun _ h => h) hN hv kv (by decide) rfl (g_X6_put l g hN hB.2.1 v hv kv (48 + y122) (by omega) (by omega)) q_cX6_40 q_dX6_put (by decide) rfl rfl hl.1 rfl (Nat.le_of_ble_eq_true rfl) dX6_putNumber_45 (fun H locs f123 h125 hF hB => ?_)
          refine q_ild_n cx dX6_putNumber_48 rfl (lv_at hl 1 rfl) ?_
          refine q_bipush cx dX6_putNumber_49 rfl ?_
          refine q_idiv cx ⟨by decide, by decide⟩ ⟨by decide, by decide⟩ (by omega) dX6_putNumber_51 ?_
          rw [show Int.tdiv 1000 10 = 100 from by decide]
          refine lv_istore_n (lv' := [(3, .int (q_i 100)), (2, .int (q_i 1)), (0, .ref v), (1, .int (q_i p0))]) cx.1 cx.2.1 dX6_putNumber_52 rfl hl (by decide) rfl (fun ls hl => ?_)
          refine lv_goto (tgt := 6) cx.1 cx.2.1 dX6_putNumber_53 (by decide) ?_
          refine q_ild_n cx dX6_putNumber_6 rfl (lv_at hl 0 rfl) ?_
          refine q_iconst cx dX6_putNumber_7 ?_
          refine q_iclt (tgt := 56) cx ⟨by decide, by decide⟩ ⟨by decide, by decide⟩ dX6_putNumber_8 (by decide) (fun c127 => ?_) (fun c127 => ?_)
          · exact absurd c127 (by omega)
          · refine q_ild_n cx dX6_putNumber_11 rfl (lv_at hl 1 rfl) ?_
            refine q_ifne (tgt := 25) cx ⟨by decide, by decide⟩ dX6_putNumber_12 (by decide) (fun c128 => ?_) (fun c128 => ?_)
            · refine q_iconst cx dX6_putNumber_25 ?_
              refine lv_goto (tgt := 30) cx.1 cx.2.1 dX6_putNumber_26 (by decide) ?_
              refine lv_istore_n (lv' := [(2, .int (q_i 1)), (3, .int (q_i 100)), (0, .ref v), (1, .int (q_i p0))]) cx.1 cx.2.1 dX6_putNumber_30 rfl hl (by decide) rfl (fun ls hl => ?_)
              refine q_ild_n cx dX6_putNumber_31 rfl (lv_at hl 0 rfl) ?_
              refine q_ifeq (tgt := 48) cx ⟨by decide, by decide⟩ dX6_putNumber_32 (by decide) (fun c129 => ?_) (fun c129 => ?_)
              · exact absurd c129 (by omega)
              · refine q_ald_n cx dX6_putNumber_35 rfl (lv_at hl 2 rfl) ?_
                refine q_bipush cx dX6_putNumber_36 rfl ?_
                refine q_ild_n cx dX6_putNumber_38 rfl (lv_at hl 3 rfl) ?_
                refine q_ild_n cx dX6_putNumber_39 rfl (lv_at hl 1 rfl) ?_
                refine q_idiv cx ⟨by omega, by omega⟩ ⟨by decide, by decide⟩ (by omega) dX6_putNumber_40 ?_
                obtain ⟨y130, ey130⟩ : ∃ zz, Int.tdiv p0 100 = zz := ⟨_, rfl⟩
                obtain ⟨ly130, my130, uy130⟩ := q_tdb (x := p0) (y := 100) (by omega) (by decide)
                rw [ey130] at ly130 my130 uy130
                rw [ey130]
                refine q_bipush cx dX6_putNumber_41 rfl ?_
                refine q_irem cx ⟨by omega, by omega⟩ ⟨by decide, by decide⟩ (by omega) dX6_putNumber_43 (fun y131 ey131 ay131 by131 ny131 => ?_)
                refine q_iadd cx dX6_putNumber_44 ?_
                refine q_cVv (As := [.int (q_i (48 + y131))]) (rest := []) cx hB (fun _ h => h) hN hv kv (by decide) rfl (g_X6_put l g hN hB.2.1 v hv kv (48 + y131) (by omega) (by omega)) q_cX6_40 q_dX6_put (by decide) rfl rfl hl.1 rfl (Nat.le_of_ble_eq_true rfl) dX6_putNumber_45 (fun H locs f132 h134 hF hB => ?_)
                refine q_ild_n cx dX6_putNumber_48 rfl (lv_at hl 1 rfl) ?_
                refine q_bipush cx dX6_putNumber_49 rfl ?_
                refine q_idiv cx ⟨by decide, by decide⟩ ⟨by decide, by decide⟩ (by omega) dX6_putNumber_51 ?_
                rw [show Int.tdiv 100 10 = 10 from by decide]
                refine lv_istore_n (lv' := [(3, .int (q_i 10)), (2, .int (q_i 1)), (0, .ref v), (1, .int (q_i p0))]) cx.1 cx.2.1 dX6_putNumber_52 rfl hl (by decide) rfl (fun ls hl => ?_)
                refine lv_goto (tgt := 6) cx.1 cx.2.1 dX6_putNumber_53 (by decide) ?_
                refine q_ild_n cx dX6_putNumber_6 rfl (lv_at hl 0 rfl) ?_
                refine q_iconst cx dX6_putNumber_7 ?_
                refine q_iclt (tgt := 56) cx ⟨by decide, by decide⟩ ⟨by decide, by decide⟩ dX6_putNumber_8 (by decide) (fun c136 => ?_) (fun c136 => ?_)
                · exact absurd c136 (by omega)
                · refine q_ild_n cx dX6_putNumber_11 rfl (lv_at hl 1 rfl) ?_
                  refine q_ifne (tgt := 25) cx ⟨by decide, by decide⟩ dX6_putNumber_12 (by decide) (fun c137 => ?_) (fun c137 => ?_)
                  · refine q_iconst cx dX6_putNumber_25 ?_
                    refine lv_goto (tgt := 30) cx.1 cx.2.1 dX6_putNumber_26 (by decide) ?_
                    refine lv_istore_n (lv' := [(2, .int (q_i 1)), (3, .int (q_i 10)), (0, .ref v), (1, .int (q_i p0))]) cx.1 cx.2.1 dX6_putNumber_30 rfl hl (by decide) rfl (fun ls hl => ?_)
                    refine q_ild_n cx dX6_putNumber_31 rfl (lv_at hl 0 rfl) ?_
                    refine q_ifeq (tgt := 48) cx ⟨by decide, by decide⟩ dX6_putNumber_32 (by decide) (fun c138 => ?_) (fun c138 => ?_)
                    · exact absurd c138 (by omega)
                    · refine q_ald_n cx dX6_putNumber_35 rfl (lv_at hl 2 rfl) ?_
                      refine q_bipush cx dX6_putNumber_36 rfl ?_
                      refine q_ild_n cx dX6_putNumber_38 rfl (lv_at hl 3 rfl) ?_
                      refine q_ild_n cx dX6_putNumber_39 rfl (lv_at hl 1 rfl) ?_
                      refine q_idiv cx ⟨by omega, by omega⟩ ⟨by decide, by decide⟩ (by omega) dX6_putNumber_40 ?_
                      obtain ⟨y139, ey139⟩ : ∃ zz, Int.tdiv p0 10 = zz := ⟨_, rfl⟩
                      obtain ⟨ly139, my139, uy139⟩ := q_tdb (x := p0) (y := 10) (by omega) (by decide)
                      rw [ey139] at ly139 my139 uy139
                      rw [ey139]
                      refine q_bipush cx dX6_putNumber_41 rfl ?_
                      refine q_irem cx ⟨by omega, by omega⟩ ⟨by decide, by decide⟩ (by omega) dX6_putNumber_43 (fun y140 ey140 ay140 by140 ny140 => ?_)
                      refine q_iadd cx dX6_putNumber_44 ?_
                      refine q_cVv (As := [.int (q_i (48 + y140))]) (rest := []) cx hB (fun _ h => h) hN hv kv (by decide) rfl (g_X6_put l g hN hB.2.1 v hv kv (48 + y140) (by omega) (by omega)) q_cX6_40 q_dX6_put (by decide) rfl rfl hl.1 rfl (Nat.le_of_ble_eq_true rfl) dX6_putNumber_45 (fun H locs f141 h143 hF hB => ?_)
                      refine q_ild_n cx dX6_putNumber_48 rfl (lv_at hl 1 rfl) ?_
                      refine q_bipush cx dX6_putNumber_49 rfl ?_
                      refine q_idiv cx ⟨by decide, by decide⟩ ⟨by decide, by decide⟩ (by omega) dX6_putNumber_51 ?_
                      rw [show Int.tdiv 10 10 = 1 from by decide]
                      refine lv_istore_n (lv' := [(3, .int (q_i 1)), (2, .int (q_i 1)), (0, .ref v), (1, .int (q_i p0))]) cx.1 cx.2.1 dX6_putNumber_52 rfl hl (by decide) rfl (fun ls hl => ?_)
                      refine lv_goto (tgt := 6) cx.1 cx.2.1 dX6_putNumber_53 (by decide) ?_
                      refine q_ild_n cx dX6_putNumber_6 rfl (lv_at hl 0 rfl) ?_
                      refine q_iconst cx dX6_putNumber_7 ?_
                      refine q_iclt (tgt := 56) cx ⟨by decide, by decide⟩ ⟨by decide, by decide⟩ dX6_putNumber_8 (by decide) (fun c145 => ?_) (fun c145 => ?_)
                      · exact absurd c145 (by omega)
                      · refine q_ild_n cx dX6_putNumber_11 rfl (lv_at hl 1 rfl) ?_
                        refine q_ifne (tgt := 25) cx ⟨by decide, by decide⟩ dX6_putNumber_12 (by decide) (fun c146 => ?_) (fun c146 => ?_)
                        · refine q_iconst cx dX6_putNumber_25 ?_
                          refine lv_goto (tgt := 30) cx.1 cx.2.1 dX6_putNumber_26 (by decide) ?_
                          refine lv_istore_n (lv' := [(2, .int (q_i 1)), (3, .int (q_i 1)), (0, .ref v), (1, .int (q_i p0))]) cx.1 cx.2.1 dX6_putNumber_30 rfl hl (by decide) rfl (fun ls hl => ?_)
                          refine q_ild_n cx dX6_putNumber_31 rfl (lv_at hl 0 rfl) ?_
                          refine q_ifeq (tgt := 48) cx ⟨by decide, by decide⟩ dX6_putNumber_32 (by decide) (fun c147 => ?_) (fun c147 => ?_)
                          · exact absurd c147 (by omega)
                          · refine q_ald_n cx dX6_putNumber_35 rfl (lv_at hl 2 rfl) ?_
                            refine q_bipush cx dX6_putNumber_36 rfl ?_
                            refine q_ild_n cx dX6_putNumber_38 rfl (lv_at hl 3 rfl) ?_
                            refine q_ild_n cx dX6_putNumber_39 rfl (lv_at hl 1 rfl) ?_
                            refine q_idiv cx ⟨by omega, by omega⟩ ⟨by decide, by decide⟩ (by omega) dX6_putNumber_40 ?_
                            obtain ⟨y148, ey148⟩ : ∃ zz, Int.tdiv p0 1 = zz := ⟨_, rfl⟩
                            obtain ⟨ly148, my148, uy148⟩ := q_tdb (x := p0) (y := 1) (by omega) (by decide)
                            rw [ey148] at ly148 my148 uy148
                            rw [ey148]
                            refine q_bipush cx dX6_putNumber_41 rfl ?_
                            refine q_irem cx ⟨by omega, by omega⟩ ⟨by decide, by decide⟩ (by omega) dX6_putNumber_43 (fun y149 ey149 ay149 by149 ny149 => ?_)
                            refine q_iadd cx dX6_putNumber_44 ?_
                            refine q_cVv (As := [.int (q_i (48 + y149))]) (rest := []) cx hB (fun _ h => h) hN hv kv (by decide) rfl (g_X6_put l g hN hB.2.1 v hv kv (48 + y149) (by omega) (by omega)) q_cX6_40 q_dX6_put (by decide) rfl rfl hl.1 rfl (Nat.le_of_ble_eq_true rfl) dX6_putNumber_45 (fun H locs f150 h152 hF hB => ?_)
                            refine q_ild_n cx dX6_putNumber_48 rfl (lv_at hl 1 rfl) ?_
                            refine q_bipush cx dX6_putNumber_49 rfl ?_
                            refine q_idiv cx ⟨by decide, by decide⟩ ⟨by decide, by decide⟩ (by omega) dX6_putNumber_51 ?_
                            rw [show Int.tdiv 1 10 = 0 from by decide]
                            refine lv_istore_n (lv' := [(3, .int (q_i 0)), (2, .int (q_i 1)), (0, .ref v), (1, .int (q_i p0))]) cx.1 cx.2.1 dX6_putNumber_52 rfl hl (by decide) rfl (fun ls hl => ?_)
                            refine lv_goto (tgt := 6) cx.1 cx.2.1 dX6_putNumber_53 (by decide) ?_
                            refine q_ild_n cx dX6_putNumber_6 rfl (lv_at hl 0 rfl) ?_
                            refine q_iconst cx dX6_putNumber_7 ?_
                            refine q_iclt (tgt := 56) cx ⟨by decide, by decide⟩ ⟨by decide, by decide⟩ dX6_putNumber_8 (by decide) (fun c154 => ?_) (fun c154 => ?_)
                            · refine q_vret cx hr hlk hB dX6_putNumber_56 ?_
                              trivial
                            · exact absurd c154 (by omega)
                        · exact absurd c146 (by omega)
                  · exact absurd c137 (by omega)
            · exact absurd c128 (by omega)
      · refine q_ild_n cx dX6_putNumber_20 rfl (lv_at hl 0 rfl) ?_
        refine q_iconst cx dX6_putNumber_21 ?_
        refine q_icne (tgt := 29) cx ⟨by decide, by decide⟩ ⟨by decide, by decide⟩ dX6_putNumber_22 (by decide) (fun c155 => ?_) (fun c155 => ?_)
        · refine q_iconst cx dX6_putNumber_29 ?_
          refine lv_istore_n (lv' := [(2, .int (q_i 0)), (3, .int (q_i 1000)), (0, .ref v), (1, .int (q_i p0))]) cx.1 cx.2.1 dX6_putNumber_30 rfl hl (by decide) rfl (fun ls hl => ?_)
          refine q_ild_n cx dX6_putNumber_31 rfl (lv_at hl 0 rfl) ?_
          refine q_ifeq (tgt := 48) cx ⟨by decide, by decide⟩ dX6_putNumber_32 (by decide) (fun c156 => ?_) (fun c156 => ?_)
          · refine q_ild_n cx dX6_putNumber_48 rfl (lv_at hl 1 rfl) ?_
            refine q_bipush cx dX6_putNumber_49 rfl ?_
            refine q_idiv cx ⟨by decide, by decide⟩ ⟨by decide, by decide⟩ (by omega) dX6_putNumber_51 ?_
            rw [show Int.tdiv 1000 10 = 100 from by decide]
            refine lv_istore_n (lv' := [(3, .int (q_i 100)), (2, .int (q_i 0)), (0, .ref v), (1, .int (q_i p0))]) cx.1 cx.2.1 dX6_putNumber_52 rfl hl (by decide) rfl (fun ls hl => ?_)
            refine lv_goto (tgt := 6) cx.1 cx.2.1 dX6_putNumber_53 (by decide) ?_
            refine q_ild_n cx dX6_putNumber_6 rfl (lv_at hl 0 rfl) ?_
            refine q_iconst cx dX6_putNumber_7 ?_
            refine q_iclt (tgt := 56) cx ⟨by decide, by decide⟩ ⟨by decide, by decide⟩ dX6_putNumber_8 (by decide) (fun c158 => ?_) (fun c158 => ?_)
            · exact absurd c158 (by omega)
            · refine q_ild_n cx dX6_putNumber_11 rfl (lv_at hl 1 rfl) ?_
              refine q_ifne (tgt := 25) cx ⟨by decide, by decide⟩ dX6_putNumber_12 (by decide) (fun c159 => ?_) (fun c159 => ?_)
              · exact absurd c159 (by omega)
              · refine q_ild_n cx dX6_putNumber_15 rfl (lv_at hl 3 rfl) ?_
                refine q_ild_n cx dX6_putNumber_16 rfl (lv_at hl 0 rfl) ?_
                refine q_icge (tgt := 25) cx ⟨by omega, by omega⟩ ⟨by decide, by decide⟩ dX6_putNumber_17 (by decide) (fun c160 => ?_) (fun c160 => ?_)
                · refine q_iconst cx dX6_putNumber_25 ?_
                  refine lv_goto (tgt := 30) cx.1 cx.2.1 dX6_putNumber_26 (by decide) ?_
                  refine lv_istore_n (lv' := [(2, .int (q_i 1)), (3, .int (q_i 100)), (0, .ref v), (1, .int (q_i p0))]) cx.1 cx.2.1 dX6_putNumber_30 rfl hl (by decide) rfl (fun ls hl => ?_)
                  refine q_ild_n cx dX6_putNumber_31 rfl (lv_at hl 0 rfl) ?_
                  refine q_ifeq (tgt := 48) cx ⟨by decide, by decide⟩ dX6_putNumber_32 (by decide) (fun c161 => ?_) (fun c161 => ?_)
                  · exact absurd c161 (by omega)
                  · refine q_ald_n cx dX6_putNumber_35 rfl (lv_at hl 2 rfl) ?_
                    refine q_bipush cx dX6_putNumber_36 rfl ?_
                    refine q_ild_n cx dX6_putNumber_38 rfl (lv_at hl 3 rfl) ?_
                    refine q_ild_n cx dX6_putNumber_39 rfl (lv_at hl 1 rfl) ?_
                    refine q_idiv cx ⟨by omega, by omega⟩ ⟨by decide, by decide⟩ (by omega) dX6_putNumber_40 ?_
                    obtain ⟨y162, ey162⟩ : ∃ zz, Int.tdiv p0 100 = zz := ⟨_, rfl⟩
                    obtain ⟨ly162, my162, uy162⟩ := q_tdb (x := p0) (y := 100) (by omega) (by decide)
                    rw [ey162] at ly162 my162 uy162
                    rw [ey162]
                    refine q_bipush cx dX6_putNumber_41 rfl ?_
                    refine q_irem cx ⟨by omega, by omega⟩ ⟨by decide, by decide⟩ (by omega) dX6_putNumber_43 (fun y163 ey163 ay163 by163 ny163 => ?_)
                    refine q_iadd cx dX6_putNumber_44 ?_
                    refine q_cVv (As := [.int (q_i (48 + y163))]) (rest := []) cx hB (fun _ h => h) hN hv kv (by decide) rfl (g_X6_put l g hN hB.2.1 v hv kv (48 + y163) (by omega) (by omega)) q_cX6_40 q_dX6_put (by decide) rfl rfl hl.1 rfl (Nat.le_of_ble_eq_true rfl) dX6_putNumber_45 (fun H locs f164 h166 hF hB => ?_)
                    refine q_ild_n cx dX6_putNumber_48 rfl (lv_at hl 1 rfl) ?_
                    refine q_bipush cx dX6_putNumber_49 rfl ?_
                    refine q_idiv cx ⟨by decide, by decide⟩ ⟨by decide, by decide⟩ (by omega) dX6_putNumber_51 ?_
                    rw [show Int.tdiv 100 10 = 10 from by decide]
                    refine lv_istore_n (lv' := [(3, .int (q_i 10)), (2, .int (q_i 1)), (0, .ref v), (1, .int (q_i p0))]) cx.1 cx.2.1 dX6_putNumber_52 rfl hl (by decide) rfl (fun ls hl => ?_)
                    refine lv_goto (tgt := 6) cx.1 cx.2.1 dX6_putNumber_53 (by decide) ?_
                    refine q_ild_n cx dX6_putNumber_6 rfl (lv_at hl 0 rfl) ?_
                    refine q_iconst cx dX6_putNumber_7 ?_
                    refine q_iclt (tgt := 56) cx ⟨by decide, by decide⟩ ⟨by decide, by decide⟩ dX6_putNumber_8 (by decide) (fun c168 => ?_) (fun c168 => ?_)
                    · exact absurd c168 (by omega)
                    · refine q_ild_n cx dX6_putNumber_11 rfl (lv_at hl 1 rfl) ?_
                      refine q_ifne (tgt := 25) cx ⟨by decide, by decide⟩ dX6_putNumber_12 (by decide) (fun c169 => ?_) (fun c169 => ?_)
                      · refine q_iconst cx dX6_putNumber_25 ?_
                        refine lv_goto (tgt := 30) cx.1 cx.2.1 dX6_putNumber_26 (by decide) ?_
                        refine lv_istore_n (lv' := [(2, .int (q_i 1)), (3, .int (q_i 10)), (0, .ref v), (1, .int (q_i p0))]) cx.1 cx.2.1 dX6_putNumber_30 rfl hl (by decide) rfl (fun ls hl => ?_)
                        refine q_ild_n cx dX6_putNumber_31 rfl (lv_at hl 0 rfl) ?_
                        refine q_ifeq (tgt := 48) cx ⟨by decide, by decide⟩ dX6_putNumber_32 (by decide) (fun c170 => ?_) (fun c170 => ?_)
                        · exact absurd c170 (by omega)
                        · refine q_ald_n cx dX6_putNumber_35 rfl (lv_at hl 2 rfl) ?_
                          refine q_bipush cx dX6_putNumber_36 rfl ?_
                          refine q_ild_n cx dX6_putNumber_38 rfl (lv_at hl 3 rfl) ?_
                          refine q_ild_n cx dX6_putNumber_39 rfl (lv_at hl 1 rfl) ?_
                          refine q_idiv cx ⟨by omega, by omega⟩ ⟨by decide, by decide⟩ (by omega) dX6_putNumber_40 ?_
                          obtain ⟨y171, ey171⟩ : ∃ zz, Int.tdiv p0 10 = zz := ⟨_, rfl⟩
                          obtain ⟨ly171, my171, uy171⟩ := q_tdb (x := p0) (y := 10) (by omega) (by decide)
                          rw [ey171] at ly171 my171 uy171
                          rw [ey171]
                          refine q_bipush cx dX6_putNumber_41 rfl ?_
                          refine q_irem cx ⟨by omega, by omega⟩ ⟨by decide, by decide⟩ (by omega) dX6_putNumber_43 (fun y172 ey172 ay172 by172 ny172 => ?_)
                          refine q_iadd cx dX6_putNumber_44 ?_
                          refine q_cVv (As := [.int (q_i (48 + y172))]) (rest := []) cx hB (fun _ h => h) hN hv kv (by decide) rfl (g_X6_put l g hN hB.2.1 v hv kv (48 + y172) (by omega) (by omega)) q_cX6_40 q_dX6_put (by decide) rfl rfl hl.1 rfl (Nat.le_of_ble_eq_true rfl) dX6_putNumber_45 (fun H locs f173 h175 hF hB => ?_)
                          refine q_ild_n cx dX6_putNumber_48 rfl (lv_at hl 1 rfl) ?_
                          refine q_bipush cx dX6_putNumber_49 rfl ?_
                          refine q_idiv cx ⟨by decide, by decide⟩ ⟨by decide, by decide⟩ (by omega) dX6_putNumber_51 ?_
                          rw [show Int.tdiv 10 10 = 1 from by decide]
                          refine lv_istore_n (lv' := [(3, .int (q_i 1)), (2, .int (q_i 1)), (0, .ref v), (1, .int (q_i p0))]) cx.1 cx.2.1 dX6_putNumber_52 rfl hl (by decide) rfl (fun ls hl => ?_)
                          refine lv_goto (tgt := 6) cx.1 cx.2.1 dX6_putNumber_53 (by decide) ?_
                          refine q_ild_n cx dX6_putNumber_6 rfl (lv_at hl 0 rfl) ?_
                          refine q_iconst cx dX6_putNumber_7 ?_
                          refine q_iclt (tgt := 56) cx ⟨by decide, by decide⟩ ⟨by decide, by decide⟩ dX6_putNumber_8 (by decide) (fun c177 => ?_) (fun c177 => ?_)
                          · exact absurd c177 (by omega)
                          · refine q_ild_n cx dX6_putNumber_11 rfl (lv_at hl 1 rfl) ?_
                            refine q_ifne (tgt := 25) cx ⟨by decide, by decide⟩ dX6_putNumber_12 (by decide) (fun c178 => ?_) (fun c178 => ?_)
                            · refine q_iconst cx dX6_putNumber_25 ?_
                              refine lv_goto (tgt := 30) cx.1 cx.2.1 dX6_putNumber_26 (by decide) ?_
                              refine lv_istore_n (lv' := [(2, .int (q_i 1)), (3, .int (q_i 1)), (0, .ref v), (1, .int (q_i p0))]) cx.1 cx.2.1 dX6_putNumber_30 rfl hl (by decide) rfl (fun ls hl => ?_)
                              refine q_ild_n cx dX6_putNumber_31 rfl (lv_at hl 0 rfl) ?_
                              refine q_ifeq (tgt := 48) cx ⟨by decide, by decide⟩ dX6_putNumber_32 (by decide) (fun c179 => ?_) (fun c179 => ?_)
                              · exact absurd c179 (by omega)
                              · refine q_ald_n cx dX6_putNumber_35 rfl (lv_at hl 2 rfl) ?_
                                refine q_bipush cx dX6_putNumber_36 rfl ?_
                                refine q_ild_n cx dX6_putNumber_38 rfl (lv_at hl 3 rfl) ?_
                                refine q_ild_n cx dX6_putNumber_39 rfl (lv_at hl 1 rfl) ?_
                                refine q_idiv cx ⟨by omega, by omega⟩ ⟨by decide, by decide⟩ (by omega) dX6_putNumber_40 ?_
                                obtain ⟨y180, ey180⟩ : ∃ zz, Int.tdiv p0 1 = zz := ⟨_, rfl⟩
                                obtain ⟨ly180, my180, uy180⟩ := q_tdb (x := p0) (y := 1) (by omega) (by decide)
                                rw [ey180] at ly180 my180 uy180
                                rw [ey180]
                                refine q_bipush cx dX6_putNumber_41 rfl ?_
                                refine q_irem cx ⟨by omega, by omega⟩ ⟨by decide, by decide⟩ (by omega) dX6_putNumber_43 (fun y181 ey181 ay181 by181 ny181 => ?_)
                                refine q_iadd cx dX6_putNumber_44 ?_
                                refine q_cVv (As := [.int (q_i (48 + y181))]) (rest := []) cx hB (fun _ h => h) hN hv kv (by decide) rfl (g_X6_put l g hN hB.2.1 v hv kv (48 + y181) (by omega) (by omega)) q_cX6_40 q_dX6_put (by decide) rfl rfl hl.1 rfl (Nat.le_of_ble_eq_true rfl) dX6_putNumber_45 (fun H locs f182 h184 hF hB => ?_)
                                refine q_ild_n cx dX6_putNumber_48 rfl (lv_at hl 1 rfl) ?_
                                refine q_bipush cx dX6_putNumber_49 rfl ?_
                                refine q_idiv cx ⟨by decide, by decide⟩ ⟨by decide, by decide⟩ (by omega) dX6_putNumber_51 ?_
                                rw [show Int.tdiv 1 10 = 0 from by decide]
                                refine lv_istore_n (lv' := [(3, .int (q_i 0)), (2, .int (q_i 1)), (0, .ref v), (1, .int (q_i p0))]) cx.1 cx.2.1 dX6_putNumber_52 rfl hl (by decide) rfl (fun ls hl => ?_)
                                refine lv_goto (tgt := 6) cx.1 cx.2.1 dX6_putNumber_53 (by decide) ?_
                                refine q_ild_n cx dX6_putNumber_6 rfl (lv_at hl 0 rfl) ?_
                                refine q_iconst cx dX6_putNumber_7 ?_
                                refine q_iclt (tgt := 56) cx ⟨by decide, by decide⟩ ⟨by decide, by decide⟩ dX6_putNumber_8 (by decide) (fun c186 => ?_) (fun c186 => ?_)
                                · refine q_vret cx hr hlk hB dX6_putNumber_56 ?_
                                  trivial
                                · exact absurd c186 (by omega)
                            · exact absurd c178 (by omega)
                      · exact absurd c169 (by omega)
                · refine q_ild_n cx dX6_putNumber_20 rfl (lv_at hl 0 rfl) ?_
                  refine q_iconst cx dX6_putNumber_21 ?_
                  refine q_icne (tgt := 29) cx ⟨by decide, by decide⟩ ⟨by decide, by decide⟩ dX6_putNumber_22 (by decide) (fun c187 => ?_) (fun c187 => ?_)
                  · refine q_iconst cx dX6_putNumber_29 ?_
                    refine lv_istore_n (lv' := [(2, .int (q_i 0)), (3, .int (q_i 100)), (0, .ref v), (1, .int (q_i p0))]) cx.1 cx.2.1 dX6_putNumber_30 rfl hl (by decide) rfl (fun ls hl => ?_)
                    refine q_ild_n cx dX6_putNumber_31 rfl (lv_at hl 0 rfl) ?_
                    refine q_ifeq (tgt := 48) cx ⟨by decide, by decide⟩ dX6_putNumber_32 (by decide) (fun c188 => ?_) (fun c188 => ?_)
                    · refine q_ild_n cx dX6_putNumber_48 rfl (lv_at hl 1 rfl) ?_
                      refine q_bipush cx dX6_putNumber_49 rfl ?_
                      refine q_idiv cx ⟨by decide, by decide⟩ ⟨by decide, by decide⟩ (by omega) dX6_putNumber_51 ?_
                      rw [show Int.tdiv 100 10 = 10 from by decide]
                      refine lv_istore_n (lv' := [(3, .int (q_i 10)), (2, .int (q_i 0)), (0, .ref v), (1, .int (q_i p0))]) cx.1 cx.2.1 dX6_putNumber_52 rfl hl (by decide) rfl (fun ls hl => ?_)
                      refine lv_goto (tgt := 6) cx.1 cx.2.1 dX6_putNumber_53 (by decide) ?_
                      refine q_ild_n cx dX6_putNumber_6 rfl (lv_at hl 0 rfl) ?_
                      refine q_iconst cx dX6_putNumber_7 ?_
                      refine q_iclt (tgt := 56) cx ⟨by decide, by decide⟩ ⟨by decide, by decide⟩ dX6_putNumber_8 (by decide) (fun c190 => ?_) (fun c190 => ?_)
                      · exact absurd c190 (by omega)
                      · refine q_ild_n cx dX6_putNumber_11 rfl (lv_at hl 1 rfl) ?_
                        refine q_ifne (tgt := 25) cx ⟨by decide, by decide⟩ dX6_putNumber_12 (by decide) (fun c191 => ?_) (fun c191 => ?_)
                        · exact absurd c191 (by omega)
                        · refine q_ild_n cx dX6_putNumber_15 rfl (lv_at hl 3 rfl) ?_
                          refine q_ild_n cx dX6_putNumber_16 rfl (lv_at hl 0 rfl) ?_
                          refine q_icge (tgt := 25) cx ⟨by omega, by omega⟩ ⟨by decide, by decide⟩ dX6_putNumber_17 (by decide) (fun c192 => ?_) (fun c192 => ?_)
                          · refine q_iconst cx dX6_putNumber_25 ?_
                            refine lv_goto (tgt := 30) cx.1 cx.2.1 dX6_putNumber_26 (by decide) ?_
                            refine lv_istore_n (lv' := [(2, .int (q_i 1)), (3, .int (q_i 10)), (0, .ref v), (1, .int (q_i p0))]) cx.1 cx.2.1 dX6_putNumber_30 rfl hl (by decide) rfl (fun ls hl => ?_)
                            refine q_ild_n cx dX6_putNumber_31 rfl (lv_at hl 0 rfl) ?_
                            refine q_ifeq (tgt := 48) cx ⟨by decide, by decide⟩ dX6_putNumber_32 (by decide) (fun c193 => ?_) (fun c193 => ?_)
                            · exact absurd c193 (by omega)
                            · refine q_ald_n cx dX6_putNumber_35 rfl (lv_at hl 2 rfl) ?_
                              refine q_bipush cx dX6_putNumber_36 rfl ?_
                              refine q_ild_n cx dX6_putNumber_38 rfl (lv_at hl 3 rfl) ?_
                              refine q_ild_n cx dX6_putNumber_39 rfl (lv_at hl 1 rfl) ?_
                              refine q_idiv cx ⟨by omega, by omega⟩ ⟨by decide, by decide⟩ (by omega) dX6_putNumber_40 ?_
                              obtain ⟨y194, ey194⟩ : ∃ zz, Int.tdiv p0 10 = zz := ⟨_, rfl⟩
                              obtain ⟨ly194, my194, uy194⟩ := q_tdb (x := p0) (y := 10) (by omega) (by decide)
                              rw [ey194] at ly194 my194 uy194
                              rw [ey194]
                              refine q_bipush cx dX6_putNumber_41 rfl ?_
                              refine q_irem cx ⟨by omega, by omega⟩ ⟨by decide, by decide⟩ (by omega) dX6_putNumber_43 (fun y195 ey195 ay195 by195 ny195 => ?_)
                              refine q_iadd cx dX6_putNumber_44 ?_
                              refine q_cVv (As := [.int (q_i (48 + y195))]) (rest := []) cx hB (fun _ h => h) hN hv kv (by decide) rfl (g_X6_put l g hN hB.2.1 v hv kv (48 + y195) (by omega) (by omega)) q_cX6_40 q_dX6_put (by decide) rfl rfl hl.1 rfl (Nat.le_of_ble_eq_true rfl) dX6_putNumber_45 (fun H locs f196 h198 hF hB => ?_)
                              refine q_ild_n cx dX6_putNumber_48 rfl (lv_at hl 1 rfl) ?_
                              refine q_bipush cx dX6_putNumber_49 rfl ?_
                              refine q_idiv cx ⟨by decide, by decide⟩ ⟨by decide, by decide⟩ (by omega) dX6_putNumber_51 ?_
                              rw [show Int.tdiv 10 10 = 1 from by decide]
                              refine lv_istore_n (lv' := [(3, .int (q_i 1)), (2, .int (q_i 1)), (0, .ref v), (1, .int (q_i p0))]) cx.1 cx.2.1 dX6_putNumber_52 rfl hl (by decide) rfl (fun ls hl => ?_)
                              refine lv_goto (tgt := 6) cx.1 cx.2.1 dX6_putNumber_53 (by decide) ?_
                              refine q_ild_n cx dX6_putNumber_6 rfl (lv_at hl 0 rfl) ?_
                              refine q_iconst cx dX6_putNumber_7 ?_
                              refine q_iclt (tgt := 56) cx ⟨by decide, by decide⟩ ⟨by decide, by decide⟩ dX6_putNumber_8 (by decide) (fun c200 => ?_) (fun c200 => ?_)
                              · exact absurd c200 (by omega)
                              · refine q_ild_n cx dX6_putNumber_11 rfl (lv_at hl 1 rfl) ?_
                                refine q_ifne (tgt := 25) cx ⟨by decide, by decide⟩ dX6_putNumber_12 (by decide) (fun c201 => ?_) (fun c201 => ?_)
                                · refine q_iconst cx dX6_putNumber_25 ?_
                                  refine lv_goto (tgt := 30) cx.1 cx.2.1 dX6_putNumber_26 (by decide) ?_
                                  refine lv_istore_n (lv' := [(2, .int (q_i 1)), (3, .int (q_i 1)), (0, .ref v), (1, .int (q_i p0))]) cx.1 cx.2.1 dX6_putNumber_30 rfl hl (by decide) rfl (fun ls hl => ?_)
                                  refine q_ild_n cx dX6_putNumber_31 rfl (lv_at hl 0 rfl) ?_
                                  refine q_ifeq (tgt := 48) cx ⟨by decide, by decide⟩ dX6_putNumber_32 (by decide) (fun c202 => ?_) (fun c202 => ?_)
                                  · exact absurd c202 (by omega)
                                  · refine q_ald_n cx dX6_putNumber_35 rfl (lv_at hl 2 rfl) ?_
                                    refine q_bipush cx dX6_putNumber_36 rfl ?_
                                    refine q_ild_n cx dX6_putNumber_38 rfl (lv_at hl 3 rfl) ?_
                                    refine q_ild_n cx dX6_putNumber_39 rfl (lv_at hl 1 rfl) ?_
                                    refine q_idiv cx ⟨by omega, by omega⟩ ⟨by decide, by decide⟩ (by omega) dX6_putNumber_40 ?_
                                    obtain ⟨y203, ey203⟩ : ∃ zz, Int.tdiv p0 1 = zz := ⟨_, rfl⟩
                                    obtain ⟨ly203, my203, uy203⟩ := q_tdb (x := p0) (y := 1) (by omega) (by decide)
                                    rw [ey203] at ly203 my203 uy203
                                    rw [ey203]
                                    refine q_bipush cx dX6_putNumber_41 rfl ?_
                                    refine q_irem cx ⟨by omega, by omega⟩ ⟨by decide, by decide⟩ (by omega) dX6_putNumber_43 (fun y204 ey204 ay204 by204 ny204 => ?_)
                                    refine q_iadd cx dX6_putNumber_44 ?_
                                    refine q_cVv (As := [.int (q_i (48 + y204))]) (rest := []) cx hB (fun _ h => h) hN hv kv (by decide) rfl (g_X6_put l g hN hB.2.1 v hv kv (48 + y204) (by omega) (by omega)) q_cX6_40 q_dX6_put (by decide) rfl rfl hl.1 rfl (Nat.le_of_ble_eq_true rfl) dX6_putNumber_45 (fun H locs f205 h207 hF hB => ?_)
                                    refine q_ild_n cx dX6_putNumber_48 rfl (lv_at hl 1 rfl) ?_
                                    refine q_bipush cx dX6_putNumber_49 rfl ?_
                                    refine q_idiv cx ⟨by decide, by decide⟩ ⟨by decide, by decide⟩ (by omega) dX6_putNumber_51 ?_
                                    rw [show Int.tdiv 1 10 = 0 from by decide]
                                    refine lv_istore_n (lv' := [(3, .int (q_i 0)), (2, .int (q_i 1)), (0, .ref v), (1, .int (q_i p0))]) cx.1 cx.2.1 dX6_putNumber_52 rfl hl (by decide) rfl (fun ls hl => ?_)
                                    refine lv_goto (tgt := 6) cx.1 cx.2.1 dX6_putNumber_53 (by decide) ?_
                                    refine q_ild_n cx dX6_putNumber_6 rfl (lv_at hl 0 rfl) ?_
                                    refine q_iconst cx dX6_putNumber_7 ?_
                                    refine q_iclt (tgt := 56) cx ⟨by decide, by decide⟩ ⟨by decide, by decide⟩ dX6_putNumber_8 (by decide) (fun c209 => ?_) (fun c209 => ?_)
                                    · refine q_vret cx hr hlk hB dX6_putNumber_56 ?_
                                      trivial
                                    · exact absurd c209 (by omega)
                                · exact absurd c201 (by omega)
                          · refine q_ild_n cx dX6_putNumber_20 rfl (lv_at hl 0 rfl) ?_
                            refine q_iconst cx dX6_putNumber_21 ?_
                            refine q_icne (tgt := 29) cx ⟨by decide, by decide⟩ ⟨by decide, by decide⟩ dX6_putNumber_22 (by decide) (fun c210 => ?_) (fun c210 => ?_)
                            · refine q_iconst cx dX6_putNumber_29 ?_
                              refine lv_istore_n (lv' := [(2, .int (q_i 0)), (3, .int (q_i 10)), (0, .ref v), (1, .int (q_i p0))]) cx.1 cx.2.1 dX6_putNumber_30 rfl hl (by decide) rfl (fun ls hl => ?_)
                              refine q_ild_n cx dX6_putNumber_31 rfl (lv_at hl 0 rfl) ?_
                              refine q_ifeq (tgt := 48) cx ⟨by decide, by decide⟩ dX6_putNumber_32 (by decide) (fun c211 => ?_) (fun c211 => ?_)
                              · refine q_ild_n cx dX6_putNumber_48 rfl (lv_at hl 1 rfl) ?_
                                refine q_bipush cx dX6_putNumber_49 rfl ?_
                                refine q_idiv cx ⟨by decide, by decide⟩ ⟨by decide, by decide⟩ (by omega) dX6_putNumber_51 ?_
                                rw [show Int.tdiv 10 10 = 1 from by decide]
                                refine lv_istore_n (lv' := [(3, .int (q_i 1)), (2, .int (q_i 0)), (0, .ref v), (1, .int (q_i p0))]) cx.1 cx.2.1 dX6_putNumber_52 rfl hl (by decide) rfl (fun ls hl => ?_)
                                refine lv_goto (tgt := 6) cx.1 cx.2.1 dX6_putNumber_53 (by decide) ?_
                                refine q_ild_n cx dX6_putNumber_6 rfl (lv_at hl 0 rfl) ?_
                                refine q_iconst cx dX6_putNumber_7 ?_
                                refine q_iclt (tgt := 56) cx ⟨by decide, by decide⟩ ⟨by decide, by decide⟩ dX6_putNumber_8 (by decide) (fun c213 => ?_) (fun c213 => ?_)
                                · exact absurd c213 (by omega)
                                · refine q_ild_n cx dX6_putNumber_11 rfl (lv_at hl 1 rfl) ?_
                                  refine q_ifne (tgt := 25) cx ⟨by decide, by decide⟩ dX6_putNumber_12 (by decide) (fun c214 => ?_) (fun c214 => ?_)
                                  · exact absurd c214 (by omega)
                                  · refine q_ild_n cx dX6_putNumber_15 rfl (lv_at hl 3 rfl) ?_
                                    refine q_ild_n cx dX6_putNumber_16 rfl (lv_at hl 0 rfl) ?_
                                    refine q_icge (tgt := 25) cx ⟨by omega, by omega⟩ ⟨by decide, by decide⟩ dX6_putNumber_17 (by decide) (fun c215 => ?_) (fun c215 => ?_)
                                    · refine q_iconst cx dX6_putNumber_25 ?_
                                      refine lv_goto (tgt := 30) cx.1 cx.2.1 dX6_putNumber_26 (by decide) ?_
                                      refine lv_istore_n (lv' := [(2, .int (q_i 1)), (3, .int (q_i 1)), (0, .ref v), (1, .int (q_i p0))]) cx.1 cx.2.1 dX6_putNumber_30 rfl hl (by decide) rfl (fun ls hl => ?_)
                                      refine q_ild_n cx dX6_putNumber_31 rfl (lv_at hl 0 rfl) ?_
                                      refine q_ifeq (tgt := 48) cx ⟨by decide, by decide⟩ dX6_putNumber_32 (by decide) (fun c216 => ?_) (fun c216 => ?_)
                                      · exact absurd c216 (by omega)
                                      · refine q_ald_n cx dX6_putNumber_35 rfl (lv_at hl 2 rfl) ?_
                                        refine q_bipush cx dX6_putNumber_36 rfl ?_
                                        refine q_ild_n cx dX6_putNumber_38 rfl (lv_at hl 3 rfl) ?_
                                        refine q_ild_n cx dX6_putNumber_39 rfl (lv_at hl 1 rfl) ?_
                                        refine q_idiv cx ⟨by omega, by omega⟩ ⟨by decide, by decide⟩ (by omega) dX6_putNumber_40 ?_
                                        obtain ⟨y217, ey217⟩ : ∃ zz, Int.tdiv p0 1 = zz := ⟨_, rfl⟩
                                        obtain ⟨ly217, my217, uy217⟩ := q_tdb (x := p0) (y := 1) (by omega) (by decide)
                                        rw [ey217] at ly217 my217 uy217
                                        rw [ey217]
                                        refine q_bipush cx dX6_putNumber_41 rfl ?_
                                        refine q_irem cx ⟨by omega, by omega⟩ ⟨by decide, by decide⟩ (by omega) dX6_putNumber_43 (fun y218 ey218 ay218 by218 ny218 => ?_)
                                        refine q_iadd cx dX6_putNumber_44 ?_
                                        refine q_cVv (As := [.int (q_i (48 + y218))]) (rest := []) cx hB (fun _ h => h) hN hv kv (by decide) rfl (g_X6_put l g hN hB.2.1 v hv kv (48 + y218) (by omega) (by omega)) q_cX6_40 q_dX6_put (by decide) rfl rfl hl.1 rfl (Nat.le_of_ble_eq_true rfl) dX6_putNumber_45 (fun H locs f219 h221 hF hB => ?_)
                                        refine q_ild_n cx dX6_putNumber_48 rfl (lv_at hl 1 rfl) ?_
                                        refine q_bipush cx dX6_putNumber_49 rfl ?_
                                        refine q_idiv cx ⟨by decide, by decide⟩ ⟨by decide, by decide⟩ (by omega) dX6_putNumber_51 ?_
                                        rw [show Int.tdiv 1 10 = 0 from by decide]
                                        refine lv_istore_n (lv' := [(3, .int (q_i 0)), (2, .int (q_i 1)), (0, .ref v), (1, .int (q_i p0))]) cx.1 cx.2.1 dX6_putNumber_52 rfl hl (by decide) rfl (fun ls hl => ?_)
                                        refine lv_goto (tgt := 6) cx.1 cx.2.1 dX6_putNumber_53 (by decide) ?_
                                        refine q_ild_n cx dX6_putNumber_6 rfl (lv_at hl 0 rfl) ?_
                                        refine q_iconst cx dX6_putNumber_7 ?_
                                        refine q_iclt (tgt := 56) cx ⟨by decide, by decide⟩ ⟨by decide, by decide⟩ dX6_putNumber_8 (by decide) (fun c223 => ?_) (fun c223 => ?_)
                                        · refine q_vret cx hr hlk hB dX6_putNumber_56 ?_
                                          trivial
                                        · exact absurd c223 (by omega)
                                    · refine q_ild_n cx dX6_putNumber_20 rfl (lv_at hl 0 rfl) ?_
                                      refine q_iconst cx dX6_putNumber_21 ?_
                                      refine q_icne (tgt := 29) cx ⟨by decide, by decide⟩ ⟨by decide, by decide⟩ dX6_putNumber_22 (by decide) (fun c224 => ?_) (fun c224 => ?_)
                                      · exact absurd c224 (by omega)
                                      · refine q_iconst cx dX6_putNumber_25 ?_
                                        refine lv_goto (tgt := 30) cx.1 cx.2.1 dX6_putNumber_26 (by decide) ?_
                                        refine lv_istore_n (lv' := [(2, .int (q_i 1)), (3, .int (q_i 1)), (0, .ref v), (1, .int (q_i p0))]) cx.1 cx.2.1 dX6_putNumber_30 rfl hl (by decide) rfl (fun ls hl => ?_)
                                        refine q_ild_n cx dX6_putNumber_31 rfl (lv_at hl 0 rfl) ?_
                                        refine q_ifeq (tgt := 48) cx ⟨by decide, by decide⟩ dX6_putNumber_32 (by decide) (fun c225 => ?_) (fun c225 => ?_)
                                        · exact absurd c225 (by omega)
                                        · refine q_ald_n cx dX6_putNumber_35 rfl (lv_at hl 2 rfl) ?_
                                          refine q_bipush cx dX6_putNumber_36 rfl ?_
                                          refine q_ild_n cx dX6_putNumber_38 rfl (lv_at hl 3 rfl) ?_
                                          refine q_ild_n cx dX6_putNumber_39 rfl (lv_at hl 1 rfl) ?_
                                          refine q_idiv cx ⟨by omega, by omega⟩ ⟨by decide, by decide⟩ (by omega) dX6_putNumber_40 ?_
                                          obtain ⟨y226, ey226⟩ : ∃ zz, Int.tdiv p0 1 = zz := ⟨_, rfl⟩
                                          obtain ⟨ly226, uy226⟩ := q_tdn (x := p0) (y := 1) (by omega) (by decide)
                                          rw [ey226] at ly226 uy226
                                          rw [ey226]
                                          refine q_bipush cx dX6_putNumber_41 rfl ?_
                                          refine q_irem cx ⟨by omega, by omega⟩ ⟨by decide, by decide⟩ (by omega) dX6_putNumber_43 (fun y227 ey227 ay227 by227 ny227 => ?_)
                                          refine q_iadd cx dX6_putNumber_44 ?_
                                          refine q_cVv (As := [.int (q_i (48 + y227))]) (rest := []) cx hB (fun _ h => h) hN hv kv (by decide) rfl (g_X6_put l g hN hB.2.1 v hv kv (48 + y227) (by omega) (by omega)) q_cX6_40 q_dX6_put (by decide) rfl rfl hl.1 rfl (Nat.le_of_ble_eq_true rfl) dX6_putNumber_45 (fun H locs f228 h230 hF hB => ?_)
                                          refine q_ild_n cx dX6_putNumber_48 rfl (lv_at hl 1 rfl) ?_
                                          refine q_bipush cx dX6_putNumber_49 rfl ?_
                                          refine q_idiv cx ⟨by decide, by decide⟩ ⟨by decide, by decide⟩ (by omega) dX6_putNumber_51 ?_
                                          rw [show Int.tdiv 1 10 = 0 from by decide]
                                          refine lv_istore_n (lv' := [(3, .int (q_i 0)), (2, .int (q_i 1)), (0, .ref v), (1, .int (q_i p0))]) cx.1 cx.2.1 dX6_putNumber_52 rfl hl (by decide) rfl (fun ls hl => ?_)
                                          refine lv_goto (tgt := 6) cx.1 cx.2.1 dX6_putNumber_53 (by decide) ?_
                                          refine q_ild_n cx dX6_putNumber_6 rfl (lv_at hl 0 rfl) ?_
                                          refine q_iconst cx dX6_putNumber_7 ?_
                                          refine q_iclt (tgt := 56) cx ⟨by decide, by decide⟩ ⟨by decide, by decide⟩ dX6_putNumber_8 (by decide) (fun c232 => ?_) (fun c232 => ?_)
                                          · refine q_vret cx hr hlk hB dX6_putNumber_56 ?_
                                            trivial
                                          · exact absurd c232 (by omega)
                              · exact absurd c211 (by omega)
                            · exact absurd c210 (by omega)
                    · exact absurd c188 (by omega)
                  · exact absurd c187 (by omega)
          · exact absurd c156 (by omega)
        · exact absurd c155 (by omega)
