set_option maxHeartbeats 4000000 in
set_option maxRecDepth 100000 in
theorem g_Integer_bitCount (l : Launch) (g : q_G) {K : Nat → Nat} {L : List Nat} (hN : L.Nodup) {f : Nat → va_E} (hT : q_Ty g K L f) (p0 : Int) (lp0 : (-2147483648) ≤ p0) (up0 : p0 ≤ 2147483647) : q_Ct l g K L yJ6_bitCount_0f7a4 cJ6_bitCount_0f7a4 1 (some .int) 0 0 [.int (q_i p0)] f [] (q_Pi (fun (z : Int) (f1 : Nat → va_E) => f = f1 ∧ 0 ≤ z ∧ z ≤ 63)) := by
  refine q_ofb (by decide +kernel) hN hT (Nat.le_of_ble_eq_true rfl) ?_
  intro p e s m below meth c ls cx hr hlk hB hl
  have hl : lv_has ls 1 [(0, .int (q_i p0))] := hl
  obtain ⟨H, hH⟩ : ∃ H : Heap, H = s.heap := ⟨_, rfl⟩
  obtain ⟨locs, hlocs⟩ : ∃ z : List Loc, z = [] := ⟨_, rfl⟩
  rw [← hH, ← hlocs] at hB
  rw [← hH, ← hlocs]
  refine q_ild_n cx dJ6_bitCount_0f7a4_0 rfl (lv_at hl 0 rfl) ?_
  refine q_ild_n cx dJ6_bitCount_0f7a4_1 rfl (lv_at hl 0 rfl) ?_
  refine q_iconst cx dJ6_bitCount_0f7a4_2 ?_
  refine lv_iushr cx.1 cx.2.1 dJ6_bitCount_0f7a4_3 rfl ?_
  refine q_any (fun y16 ry16 ey16 => ?_)
  refine lv_ldcw (v := q_i 1431655765) cx.1 cx.2.1 cx.2.2.2.1 (cx.2.2.2.2 _ q_h635) dJ6_bitCount_0f7a4_4 ?_
  refine q_iand cx dJ6_bitCount_0f7a4_7 (fun y17 ry17 ey17 => ?_)
  refine q_isub cx dJ6_bitCount_0f7a4_8 ?_
  refine q_any (fun y18 ry18 ey18 => ?_)
  refine lv_istore_n (lv' := [(0, .int (q_i y18))]) cx.1 cx.2.1 dJ6_bitCount_0f7a4_9 rfl hl (by decide) rfl (fun ls hl => ?_)
  refine q_ild_n cx dJ6_bitCount_0f7a4_10 rfl (lv_at hl 0 rfl) ?_
  refine lv_ldcw (v := q_i 858993459) cx.1 cx.2.1 cx.2.2.2.1 (cx.2.2.2.2 _ q_h636) dJ6_bitCount_0f7a4_11 ?_
  refine q_iand cx dJ6_bitCount_0f7a4_14 (fun y19 ry19 ey19 => ?_)
  refine q_ild_n cx dJ6_bitCount_0f7a4_15 rfl (lv_at hl 0 rfl) ?_
  refine q_iconst cx dJ6_bitCount_0f7a4_16 ?_
  refine lv_iushr cx.1 cx.2.1 dJ6_bitCount_0f7a4_17 rfl ?_
  refine q_any (fun y20 ry20 ey20 => ?_)
  refine lv_ldcw (v := q_i 858993459) cx.1 cx.2.1 cx.2.2.2.1 (cx.2.2.2.2 _ q_h636) dJ6_bitCount_0f7a4_18 ?_
  refine q_iand cx dJ6_bitCount_0f7a4_21 (fun y21 ry21 ey21 => ?_)
  refine q_iadd cx dJ6_bitCount_0f7a4_22 ?_
  refine q_any (fun y22 ry22 ey22 => ?_)
  refine lv_istore_n (lv' := [(0, .int (q_i y22))]) cx.1 cx.2.1 dJ6_bitCount_0f7a4_23 rfl hl (by decide) rfl (fun ls hl => ?_)
  refine q_ild_n cx dJ6_bitCount_0f7a4_24 rfl (lv_at hl 0 rfl) ?_
  refine q_ild_n cx dJ6_bitCount_0f7a4_25 rfl (lv_at hl 0 rfl) ?_
  refine q_iconst cx dJ6_bitCount_0f7a4_26 ?_
  refine lv_iushr cx.1 cx.2.1 dJ6_bitCount_0f7a4_27 rfl ?_
  refine q_any (fun y23 ry23 ey23 => ?_)
  refine q_iadd cx dJ6_bitCount_0f7a4_28 ?_
  refine q_any (fun y24 ry24 ey24 => ?_)
  refine lv_ldcw (v := q_i 252645135) cx.1 cx.2.1 cx.2.2.2.1 (cx.2.2.2.2 _ q_h637) dJ6_bitCount_0f7a4_29 ?_
  refine q_iand cx dJ6_bitCount_0f7a4_32 (fun y25 ry25 ey25 => ?_)
  refine lv_istore_n (lv' := [(0, .int (q_i y25))]) cx.1 cx.2.1 dJ6_bitCount_0f7a4_33 rfl hl (by decide) rfl (fun ls hl => ?_)
  refine q_ild_n cx dJ6_bitCount_0f7a4_34 rfl (lv_at hl 0 rfl) ?_
  refine q_ild_n cx dJ6_bitCount_0f7a4_35 rfl (lv_at hl 0 rfl) ?_
  refine q_bipush cx dJ6_bitCount_0f7a4_36 rfl ?_
  refine lv_iushr cx.1 cx.2.1 dJ6_bitCount_0f7a4_38 rfl ?_
  refine q_any (fun y26 ry26 ey26 => ?_)
  refine q_iadd cx dJ6_bitCount_0f7a4_39 ?_
  refine q_any (fun y27 ry27 ey27 => ?_)
  refine lv_istore_n (lv' := [(0, .int (q_i y27))]) cx.1 cx.2.1 dJ6_bitCount_0f7a4_40 rfl hl (by decide) rfl (fun ls hl => ?_)
  refine q_ild_n cx dJ6_bitCount_0f7a4_41 rfl (lv_at hl 0 rfl) ?_
  refine q_ild_n cx dJ6_bitCount_0f7a4_42 rfl (lv_at hl 0 rfl) ?_
  refine q_bipush cx dJ6_bitCount_0f7a4_43 rfl ?_
  refine lv_iushr cx.1 cx.2.1 dJ6_bitCount_0f7a4_45 rfl ?_
  refine q_any (fun y28 ry28 ey28 => ?_)
  refine q_iadd cx dJ6_bitCount_0f7a4_46 ?_
  refine q_any (fun y29 ry29 ey29 => ?_)
  refine lv_istore_n (lv' := [(0, .int (q_i y29))]) cx.1 cx.2.1 dJ6_bitCount_0f7a4_47 rfl hl (by decide) rfl (fun ls hl => ?_)
  refine q_ild_n cx dJ6_bitCount_0f7a4_48 rfl (lv_at hl 0 rfl) ?_
  refine q_bipush cx dJ6_bitCount_0f7a4_49 rfl ?_
  refine q_iandm cx 6 (by decide) rfl dJ6_bitCount_0f7a4_51 (fun y30 ly30 uy30 ey30 => ?_)
  refine q_iret cx hr hlk hB dJ6_bitCount_0f7a4_52 ⟨by omega, by omega⟩ ?_
  exact ⟨rfl, (by omega), (by omega)⟩
set_option maxHeartbeats 4000000 in
set_option maxRecDepth 100000 in
theorem g_Long_bitCount (l : Launch) (g : q_G) {K : Nat → Nat} {L : List Nat} (hN : L.Nodup) {f : Nat → va_E} (hT : q_Ty g K L f) (p0 : Int64) : q_Ct l g K L yJ13_bitCount_95d88 cJ13_bitCount_95d88 2 (some .int) 0 0 [.long p0] f [] (q_Pi (fun (z : Int) (f1 : Nat → va_E) => f = f1 ∧ 0 ≤ z ∧ z ≤ 127)) := by
  refine q_ofb (by decide +kernel) hN hT (Nat.le_of_ble_eq_true rfl) ?_
  intro p e s m below meth c ls cx hr hlk hB hl
  have hl : lv_has ls 2 [(0, .long p0)] := hl
  obtain ⟨H, hH⟩ : ∃ H : Heap, H = s.heap := ⟨_, rfl⟩
  obtain ⟨locs, hlocs⟩ : ∃ z : List Loc, z = [] := ⟨_, rfl⟩
  rw [← hH, ← hlocs] at hB
  rw [← hH, ← hlocs]
  refine q_lld_n cx dJ13_bitCount_95d88_0 rfl (lv_at hl 0 rfl) ?_
  refine q_lld_n cx dJ13_bitCount_95d88_1 rfl (lv_at hl 0 rfl) ?_
  refine q_iconst cx dJ13_bitCount_95d88_2 ?_
  refine lv_lushr cx.1 cx.2.1 dJ13_bitCount_95d88_3 rfl ?_
  refine lv_topl (fun j19 ej19 => ?_)
  refine lv_ldc2 cx.1 cx.2.1 cx.2.2.2.1 (cx.2.2.2.2 _ q_h1258) dJ13_bitCount_95d88_4 ?_
  refine lv_land cx.1 cx.2.1 dJ13_bitCount_95d88_7 ?_
  refine lv_topl (fun j20 ej20 => ?_)
  refine lv_lsub cx.1 cx.2.1 dJ13_bitCount_95d88_8 ?_
  refine lv_topl (fun j21 ej21 => ?_)
  refine lv_lstore_n (lv' := [(0, .long j21)]) cx.1 cx.2.1 dJ13_bitCount_95d88_9 rfl hl (by decide) rfl (fun ls hl => ?_)
  refine q_lld_n cx dJ13_bitCount_95d88_10 rfl (lv_at hl 0 rfl) ?_
  refine lv_ldc2 cx.1 cx.2.1 cx.2.2.2.1 (cx.2.2.2.2 _ q_h1259) dJ13_bitCount_95d88_11 ?_
  refine lv_land cx.1 cx.2.1 dJ13_bitCount_95d88_14 ?_
  refine lv_topl (fun j22 ej22 => ?_)
  refine q_lld_n cx dJ13_bitCount_95d88_15 rfl (lv_at hl 0 rfl) ?_
  refine q_iconst cx dJ13_bitCount_95d88_16 ?_
  refine lv_lushr cx.1 cx.2.1 dJ13_bitCount_95d88_17 rfl ?_
  refine lv_topl (fun j23 ej23 => ?_)
  refine lv_ldc2 cx.1 cx.2.1 cx.2.2.2.1 (cx.2.2.2.2 _ q_h1259) dJ13_bitCount_95d88_18 ?_
  refine lv_land cx.1 cx.2.1 dJ13_bitCount_95d88_21 ?_
  refine lv_topl (fun j24 ej24 => ?_)
  refine lv_ladd cx.1 cx.2.1 dJ13_bitCount_95d88_22 ?_
  refine lv_topl (fun j25 ej25 => ?_)
  refine lv_lstore_n (lv' := [(0, .long j25)]) cx.1 cx.2.1 dJ13_bitCount_95d88_23 rfl hl (by decide) rfl (fun ls hl => ?_)
  refine q_lld_n cx dJ13_bitCount_95d88_24 rfl (lv_at hl 0 rfl) ?_
  refine q_lld_n cx dJ13_bitCount_95d88_25 rfl (lv_at hl 0 rfl) ?_
  refine q_iconst cx dJ13_bitCount_95d88_26 ?_
  refine lv_lushr cx.1 cx.2.1 dJ13_bitCount_95d88_27 rfl ?_
  refine lv_topl (fun j26 ej26 => ?_)
  refine lv_ladd cx.1 cx.2.1 dJ13_bitCount_95d88_28 ?_
  refine lv_topl (fun j27 ej27 => ?_)
  refine lv_ldc2 cx.1 cx.2.1 cx.2.2.2.1 (cx.2.2.2.2 _ q_h1260) dJ13_bitCount_95d88_29 ?_
  refine lv_land cx.1 cx.2.1 dJ13_bitCount_95d88_32 ?_
  refine lv_topl (fun j28 ej28 => ?_)
  refine lv_lstore_n (lv' := [(0, .long j28)]) cx.1 cx.2.1 dJ13_bitCount_95d88_33 rfl hl (by decide) rfl (fun ls hl => ?_)
  refine q_lld_n cx dJ13_bitCount_95d88_34 rfl (lv_at hl 0 rfl) ?_
  refine q_lld_n cx dJ13_bitCount_95d88_35 rfl (lv_at hl 0 rfl) ?_
  refine q_bipush cx dJ13_bitCount_95d88_36 rfl ?_
  refine lv_lushr cx.1 cx.2.1 dJ13_bitCount_95d88_38 rfl ?_
  refine lv_topl (fun j29 ej29 => ?_)
  refine lv_ladd cx.1 cx.2.1 dJ13_bitCount_95d88_39 ?_
  refine lv_topl (fun j30 ej30 => ?_)
  refine lv_lstore_n (lv' := [(0, .long j30)]) cx.1 cx.2.1 dJ13_bitCount_95d88_40 rfl hl (by decide) rfl (fun ls hl => ?_)
  refine q_lld_n cx dJ13_bitCount_95d88_41 rfl (lv_at hl 0 rfl) ?_
  refine q_lld_n cx dJ13_bitCount_95d88_42 rfl (lv_at hl 0 rfl) ?_
  refine q_bipush cx dJ13_bitCount_95d88_43 rfl ?_
  refine lv_lushr cx.1 cx.2.1 dJ13_bitCount_95d88_45 rfl ?_
  refine lv_topl (fun j31 ej31 => ?_)
  refine lv_ladd cx.1 cx.2.1 dJ13_bitCount_95d88_46 ?_
  refine lv_topl (fun j32 ej32 => ?_)
  refine lv_lstore_n (lv' := [(0, .long j32)]) cx.1 cx.2.1 dJ13_bitCount_95d88_47 rfl hl (by decide) rfl (fun ls hl => ?_)
  refine q_lld_n cx dJ13_bitCount_95d88_48 rfl (lv_at hl 0 rfl) ?_
  refine q_lld_n cx dJ13_bitCount_95d88_49 rfl (lv_at hl 0 rfl) ?_
  refine q_bipush cx dJ13_bitCount_95d88_50 rfl ?_
  refine lv_lushr cx.1 cx.2.1 dJ13_bitCount_95d88_52 rfl ?_
  refine lv_topl (fun j33 ej33 => ?_)
  refine lv_ladd cx.1 cx.2.1 dJ13_bitCount_95d88_53 ?_
  refine lv_topl (fun j34 ej34 => ?_)
  refine lv_lstore_n (lv' := [(0, .long j34)]) cx.1 cx.2.1 dJ13_bitCount_95d88_54 rfl hl (by decide) rfl (fun ls hl => ?_)
  refine q_lld_n cx dJ13_bitCount_95d88_55 rfl (lv_at hl 0 rfl) ?_
  refine q_l2i cx dJ13_bitCount_95d88_56 (fun y35 ry35 ey35 => ?_)
  refine q_bipush cx dJ13_bitCount_95d88_57 rfl ?_
  refine q_iandm cx 7 (by decide) rfl dJ13_bitCount_95d88_59 (fun y36 ly36 uy36 ey36 => ?_)
  refine q_iret cx hr hlk hB dJ13_bitCount_95d88_60 ⟨by omega, by omega⟩ ?_
  exact ⟨rfl, (by omega), (by omega)⟩
set_option maxHeartbeats 4000000 in
set_option maxRecDepth 100000 in
theorem g_X10_nodeAt (l : Launch) (g : q_G) {K : Nat → Nat} {L : List Nat} (hN : L.Nodup) {f : Nat → va_E} (hT : q_Ty g K L f) (v : Nat) (hv : v ∈ L) (kv : K v = 10) (p0 : Int) (lp0 : (-2147483648) ≤ p0) (up0 : p0 ≤ 2147483647) : q_Ct l g K L yX10_nodeAt cX10_nodeAt 2 (some (.object "WakeVillage$Node")) 0 0 [.ref v, .int (q_i p0)] f [] (q_Pr (fun (z : Nat) (f1 : Nat → va_E) => f = f1 ∧ z ∈ L ∧ K z = 5)) := by
  refine q_ofb (by decide +kernel) hN hT (Nat.le_of_ble_eq_true rfl) ?_
  intro p e s m below meth c ls cx hr hlk hB hl
  have hl : lv_has ls 2 [(0, .ref v), (1, .int (q_i p0))] := hl
  have J22 : ∀ (t22_0 : Int) (lt22_0 : 0 ≤ t22_0) (ut22_0 : t22_0 ≤ 9) (t22_1 : Nat) (ht22_1 : t22_1 ∈ L) (kt22_1 : K t22_1 = 110) (H : Heap) (locs : List Loc) (hB : q_B g K L (fun q => q ∈ L) [] f f s H locs) (ls : Array Slot) (hl : lv_has ls 2 []), W p l e { frames := 0, cells := 0, slots := 0, locals := 0 } s m ([.ref v, .int (q_i p0)] : List Value).toArray below meth c H locs 0 0 (MQ below (q_Q g K L [] f (q_Pr (fun (z : Nat) (f1 : Nat → va_E) => f = f1 ∧ z ∈ L ∧ K z = 5))) ([.ref v, .int (q_i p0)] : List Value).toArray s 0 0 (fun q => q ∈ L)) (F0 m 22 ls [.int (q_i t22_0), .ref t22_1]) := by
    intro t22_0 lt22_0 ut22_0 t22_1 ht22_1 kt22_1 H locs hB ls hl
    obtain ⟨p8, ep8⟩ : ∃ zz, q_ir (q_r f t22_1 (Int.toNat t22_0)) zz := ⟨_, q_irr _⟩
    refine q_aald (k2 := 5) (n := 10) cx hB ht22_1 kt22_1 (by decide) rfl 7 rfl (by decide) rfl (by omega) (by omega) (by decide) rfl ep8 dX10_nodeAt_22 (fun hb9 kb9 => ?_)
    refine q_aret cx hr (Or.inl ⟨_, rfl⟩) hlk hB dX10_nodeAt_23 ?_
    exact ⟨rfl, hb9, kb9⟩
  have J21 : ∀ (t21_0 : Nat) (ht21_0 : t21_0 ∈ L) (kt21_0 : K t21_0 = 110) (H : Heap) (locs : List Loc) (hB : q_B g K L (fun q => q ∈ L) [] f f s H locs) (ls : Array Slot) (hl : lv_has ls 2 []), W p l e { frames := 0, cells := 0, slots := 0, locals := 0 } s m ([.ref v, .int (q_i p0)] : List Value).toArray below meth c H locs 0 0 (MQ below (q_Q g K L [] f (q_Pr (fun (z : Nat) (f1 : Nat → va_E) => f = f1 ∧ z ∈ L ∧ K z = 5))) ([.ref v, .int (q_i p0)] : List Value).toArray s 0 0 (fun q => q ∈ L)) (F0 m 21 ls [.ref t21_0]) := by
    intro t21_0 ht21_0 kt21_0 H locs hB ls hl
    refine q_iconst cx dX10_nodeAt_21 ?_
    exact J22 0 (by decide) (by decide) t21_0 ht21_0 kt21_0 H locs hB ls (lv_sub hl [] rfl)
  obtain ⟨H, hH⟩ : ∃ H : Heap, H = s.heap := ⟨_, rfl⟩
  obtain ⟨locs, hlocs⟩ : ∃ z : List Loc, z = [] := ⟨_, rfl⟩
  rw [← hH, ← hlocs] at hB
  rw [← hH, ← hlocs]
  refine q_ald_n cx dX10_nodeAt_0 rfl (lv_at hl 0 rfl) ?_
  obtain ⟨p10, ep10⟩ : ∃ zz, q_ir (q_r f v 0) zz := ⟨_, q_irr _⟩
  refine q_gX10_13 cx hB hv kv ep10 dX10_nodeAt_1 (fun hb11 kb11 => ?_)
  refine q_ild_n cx dX10_nodeAt_4 rfl (lv_at hl 1 rfl) ?_
  refine q_iflt (tgt := 21) cx ⟨by omega, by omega⟩ dX10_nodeAt_5 (by decide) (fun c12 => ?_) (fun c12 => ?_)
  · exact J21 p10 hb11 kb11 H locs hB ls (lv_sub hl [] rfl)
  · refine q_ild_n cx dX10_nodeAt_8 rfl (lv_at hl 1 rfl) ?_
    refine q_ald_n cx dX10_nodeAt_9 rfl (lv_at hl 0 rfl) ?_
    refine q_gX10_13 cx hB hv kv ep10 dX10_nodeAt_10 (fun hb13 kb13 => ?_)
    refine q_alen (n := 10) cx hB hb11 kb11 (by decide) rfl 7 rfl rfl dX10_nodeAt_13 ?_
    refine q_icge (tgt := 21) cx ⟨by omega, by omega⟩ ⟨by decide, by decide⟩ dX10_nodeAt_14 (by decide) (fun c14 => ?_) (fun c14 => ?_)
    · exact J21 p10 hb11 kb11 H locs hB ls (lv_sub hl [] rfl)
    · refine q_ild_n cx dX10_nodeAt_17 rfl (lv_at hl 1 rfl) ?_
      refine lv_goto (tgt := 22) cx.1 cx.2.1 dX10_nodeAt_18 (by decide) ?_
      exact J22 p0 (by omega) (by omega) p10 hb11 kb11 H locs hB ls (lv_sub hl [] rfl)
set_option maxHeartbeats 4000000 in
set_option maxRecDepth 100000 in
theorem g_X10_nodeAt_1 (l : Launch) (g : q_G) {K : Nat → Nat} {L : List Nat} (hN : L.Nodup) {f : Nat → va_E} (hT : q_Ty g K L f) (v : Nat) (hv : v ∈ L) (kv : K v = 13) (p0 : Int) (lp0 : (-2147483648) ≤ p0) (up0 : p0 ≤ 2147483647) : q_Ct l g K L yX10_nodeAt cX10_nodeAt 2 (some (.object "WakeVillage$Node")) 0 0 [.ref v, .int (q_i p0)] f [] (q_Pr (fun (z : Nat) (f1 : Nat → va_E) => f = f1 ∧ z ∈ L ∧ K z = 17)) := by
  refine q_ofb (by decide +kernel) hN hT (Nat.le_of_ble_eq_true rfl) ?_
  intro p e s m below meth c ls cx hr hlk hB hl
  have hl : lv_has ls 2 [(0, .ref v), (1, .int (q_i p0))] := hl
  have J22 : ∀ (t22_0 : Int) (lt22_0 : 0 ≤ t22_0) (ut22_0 : t22_0 ≤ 9) (t22_1 : Nat) (ht22_1 : t22_1 ∈ L) (kt22_1 : K t22_1 = 111) (H : Heap) (locs : List Loc) (hB : q_B g K L (fun q => q ∈ L) [] f f s H locs) (ls : Array Slot) (hl : lv_has ls 2 []), W p l e { frames := 0, cells := 0, slots := 0, locals := 0 } s m ([.ref v, .int (q_i p0)] : List Value).toArray below meth c H locs 0 0 (MQ below (q_Q g K L [] f (q_Pr (fun (z : Nat) (f1 : Nat → va_E) => f = f1 ∧ z ∈ L ∧ K z = 17))) ([.ref v, .int (q_i p0)] : List Value).toArray s 0 0 (fun q => q ∈ L)) (F0 m 22 ls [.int (q_i t22_0), .ref t22_1]) := by
    intro t22_0 lt22_0 ut22_0 t22_1 ht22_1 kt22_1 H locs hB ls hl
    obtain ⟨p8, ep8⟩ : ∃ zz, q_ir (q_r f t22_1 (Int.toNat t22_0)) zz := ⟨_, q_irr _⟩
    refine q_aald (k2 := 17) (n := 10) cx hB ht22_1 kt22_1 (by decide) rfl 7 rfl (by decide) rfl (by omega) (by omega) (by decide) rfl ep8 dX10_nodeAt_22 (fun hb9 kb9 => ?_)
    refine q_aret cx hr (Or.inl ⟨_, rfl⟩) hlk hB dX10_nodeAt_23 ?_
    exact ⟨rfl, hb9, kb9⟩
  have J21 : ∀ (t21_0 : Nat) (ht21_0 : t21_0 ∈ L) (kt21_0 : K t21_0 = 111) (H : Heap) (locs : List Loc) (hB : q_B g K L (fun q => q ∈ L) [] f f s H locs) (ls : Array Slot) (hl : lv_has ls 2 []), W p l e { frames := 0, cells := 0, slots := 0, locals := 0 } s m ([.ref v, .int (q_i p0)] : List Value).toArray below meth c H locs 0 0 (MQ below (q_Q g K L [] f (q_Pr (fun (z : Nat) (f1 : Nat → va_E) => f = f1 ∧ z ∈ L ∧ K z = 17))) ([.ref v, .int (q_i p0)] : List Value).toArray s 0 0 (fun q => q ∈ L)) (F0 m 21 ls [.ref t21_0]) := by
    intro t21_0 ht21_0 kt21_0 H locs hB ls hl
    refine q_iconst cx dX10_nodeAt_21 ?_
    exact J22 0 (by decide) (by decide) t21_0 ht21_0 kt21_0 H locs hB ls (lv_sub hl [] rfl)
  obtain ⟨H, hH⟩ : ∃ H : Heap, H = s.heap := ⟨_, rfl⟩
  obtain ⟨locs, hlocs⟩ : ∃ z : List Loc, z = [] := ⟨_, rfl⟩
  rw [← hH, ← hlocs] at hB
  rw [← hH, ← hlocs]
  refine q_ald_n cx dX10_nodeAt_0 rfl (lv_at hl 0 rfl) ?_
  obtain ⟨p10, ep10⟩ : ∃ zz, q_ir (q_r f v 0) zz := ⟨_, q_irr _⟩
  refine q_gX10_13_13 cx hB hv kv ep10 dX10_nodeAt_1 (fun hb11 kb11 => ?_)
  refine q_ild_n cx dX10_nodeAt_4 rfl (lv_at hl 1 rfl) ?_
  refine q_iflt (tgt := 21) cx ⟨by omega, by omega⟩ dX10_nodeAt_5 (by decide) (fun c12 => ?_) (fun c12 => ?_)
  · exact J21 p10 hb11 kb11 H locs hB ls (lv_sub hl [] rfl)
  · refine q_ild_n cx dX10_nodeAt_8 rfl (lv_at hl 1 rfl) ?_
    refine q_ald_n cx dX10_nodeAt_9 rfl (lv_at hl 0 rfl) ?_
    refine q_gX10_13_13 cx hB hv kv ep10 dX10_nodeAt_10 (fun hb13 kb13 => ?_)
    refine q_alen (n := 10) cx hB hb11 kb11 (by decide) rfl 7 rfl rfl dX10_nodeAt_13 ?_
    refine q_icge (tgt := 21) cx ⟨by omega, by omega⟩ ⟨by decide, by decide⟩ dX10_nodeAt_14 (by decide) (fun c14 => ?_) (fun c14 => ?_)
    · exact J21 p10 hb11 kb11 H locs hB ls (lv_sub hl [] rfl)
    · refine q_ild_n cx dX10_nodeAt_17 rfl (lv_at hl 1 rfl) ?_
      refine lv_goto (tgt := 22) cx.1 cx.2.1 dX10_nodeAt_18 (by decide) ?_
      exact J22 p0 (by omega) (by omega) p10 hb11 kb11 H locs hB ls (lv_sub hl [] rfl)
set_option maxHeartbeats 4000000 in
set_option maxRecDepth 100000 in
theorem g_X10_nodeAt_2 (l : Launch) (g : q_G) {K : Nat → Nat} {L : List Nat} (hN : L.Nodup) {f : Nat → va_E} (hT : q_Ty g K L f) (v : Nat) (hv : v ∈ L) (kv : K v = 14) (p0 : Int) (lp0 : (-2147483648) ≤ p0) (up0 : p0 ≤ 2147483647) : q_Ct l g K L yX10_nodeAt cX10_nodeAt 2 (some (.object "WakeVillage$Node")) 0 0 [.ref v, .int (q_i p0)] f [] (q_Pr (fun (z : Nat) (f1 : Nat → va_E) => f = f1 ∧ z ∈ L ∧ K z = 18)) := by
  refine q_ofb (by decide +kernel) hN hT (Nat.le_of_ble_eq_true rfl) ?_
  intro p e s m below meth c ls cx hr hlk hB hl
  have hl : lv_has ls 2 [(0, .ref v), (1, .int (q_i p0))] := hl
  have J22 : ∀ (t22_0 : Int) (lt22_0 : 0 ≤ t22_0) (ut22_0 : t22_0 ≤ 9) (t22_1 : Nat) (ht22_1 : t22_1 ∈ L) (kt22_1 : K t22_1 = 112) (H : Heap) (locs : List Loc) (hB : q_B g K L (fun q => q ∈ L) [] f f s H locs) (ls : Array Slot) (hl : lv_has ls 2 []), W p l e { frames := 0, cells := 0, slots := 0, locals := 0 } s m ([.ref v, .int (q_i p0)] : List Value).toArray below meth c H locs 0 0 (MQ below (q_Q g K L [] f (q_Pr (fun (z : Nat) (f1 : Nat → va_E) => f = f1 ∧ z ∈ L ∧ K z = 18))) ([.ref v, .int (q_i p0)] : List Value).toArray s 0 0 (fun q => q ∈ L)) (F0 m 22 ls [.int (q_i t22_0), .ref t22_1]) := by
    intro t22_0 lt22_0 ut22_0 t22_1 ht22_1 kt22_1 H locs hB ls hl
    obtain ⟨p8, ep8⟩ : ∃ zz, q_ir (q_r f t22_1 (Int.toNat t22_0)) zz := ⟨_, q_irr _⟩
    refine q_aald (k2 := 18) (n := 10) cx hB ht22_1 kt22_1 (by decide) rfl 7 rfl (by decide) rfl (by omega) (by omega) (by decide) rfl ep8 dX10_nodeAt_22 (fun hb9 kb9 => ?_)
    refine q_aret cx hr (Or.inl ⟨_, rfl⟩) hlk hB dX10_nodeAt_23 ?_
    exact ⟨rfl, hb9, kb9⟩
  have J21 : ∀ (t21_0 : Nat) (ht21_0 : t21_0 ∈ L) (kt21_0 : K t21_0 = 112) (H : Heap) (locs : List Loc) (hB : q_B g K L (fun q => q ∈ L) [] f f s H locs) (ls : Array Slot) (hl : lv_has ls 2 []), W p l e { frames := 0, cells := 0, slots := 0, locals := 0 } s m ([.ref v, .int (q_i p0)] : List Value).toArray below meth c H locs 0 0 (MQ below (q_Q g K L [] f (q_Pr (fun (z : Nat) (f1 : Nat → va_E) => f = f1 ∧ z ∈ L ∧ K z = 18))) ([.ref v, .int (q_i p0)] : List Value).toArray s 0 0 (fun q => q ∈ L)) (F0 m 21 ls [.ref t21_0]) := by
    intro t21_0 ht21_0 kt21_0 H locs hB ls hl
    refine q_iconst cx dX10_nodeAt_21 ?_
    exact J22 0 (by decide) (by decide) t21_0 ht21_0 kt21_0 H locs hB ls (lv_sub hl [] rfl)
  obtain ⟨H, hH⟩ : ∃ H : Heap, H = s.heap := ⟨_, rfl⟩
  obtain ⟨locs, hlocs⟩ : ∃ z : List Loc, z = [] := ⟨_, rfl⟩
  rw [← hH, ← hlocs] at hB
  rw [← hH, ← hlocs]
  refine q_ald_n cx dX10_nodeAt_0 rfl (lv_at hl 0 rfl) ?_
  obtain ⟨p10, ep10⟩ : ∃ zz, q_ir (q_r f v 0) zz := ⟨_, q_irr _⟩
  refine q_gX10_13_14 cx hB hv kv ep10 dX10_nodeAt_1 (fun hb11 kb11 => ?_)
  refine q_ild_n cx dX10_nodeAt_4 rfl (lv_at hl 1 rfl) ?_
  refine q_iflt (tgt := 21) cx ⟨by omega, by omega⟩ dX10_nodeAt_5 (by decide) (fun c12 => ?_) (fun c12 => ?_)
  · exact J21 p10 hb11 kb11 H locs hB ls (lv_sub hl [] rfl)
  · refine q_ild_n cx dX10_nodeAt_8 rfl (lv_at hl 1 rfl) ?_
    refine q_ald_n cx dX10_nodeAt_9 rfl (lv_at hl 0 rfl) ?_
    refine q_gX10_13_14 cx hB hv kv ep10 dX10_nodeAt_10 (fun hb13 kb13 => ?_)
    refine q_alen (n := 10) cx hB hb11 kb11 (by decide) rfl 7 rfl rfl dX10_nodeAt_13 ?_
    refine q_icge (tgt := 21) cx ⟨by omega, by omega⟩ ⟨by decide, by decide⟩ dX10_nodeAt_14 (by decide) (fun c14 => ?_) (fun c14 => ?_)
    · exact J21 p10 hb11 kb11 H locs hB ls (lv_sub hl [] rfl)
    · refine q_ild_n cx dX10_nodeAt_17 rfl (lv_at hl 1 rfl) ?_
      refine lv_goto (tgt := 22) cx.1 cx.2.1 dX10_nodeAt_18 (by decide) ?_
      exact J22 p0 (by omega) (by omega) p10 hb11 kb11 H locs hB ls (lv_sub hl [] rfl)
set_option maxHeartbeats 4000000 in
set_option maxRecDepth 100000 in
theorem g_X10_nodeAt_3 (l : Launch) (g : q_G) {K : Nat → Nat} {L : List Nat} (hN : L.Nodup) {f : Nat → va_E} (hT : q_Ty g K L f) (v : Nat) (hv : v ∈ L) (kv : K v = 15) (p0 : Int) (lp0 : (-2147483648) ≤ p0) (up0 : p0 ≤ 2147483647) : q_Ct l g K L yX10_nodeAt cX10_nodeAt 2 (some (.object "WakeVillage$Node")) 0 0 [.ref v, .int (q_i p0)] f [] (q_Pr (fun (z : Nat) (f1 : Nat → va_E) => f = f1 ∧ z ∈ L ∧ K z = 19)) := by
  refine q_ofb (by decide +kernel) hN hT (Nat.le_of_ble_eq_true rfl) ?_
  intro p e s m below meth c ls cx hr hlk hB hl
  have hl : lv_has ls 2 [(0, .ref v), (1, .int (q_i p0))] := hl
  have J22 : ∀ (t22_0 : Int) (lt22_0 : 0 ≤ t22_0) (ut22_0 : t22_0 ≤ 9) (t22_1 : Nat) (ht22_1 : t22_1 ∈ L) (kt22_1 : K t22_1 = 113) (H : Heap) (locs : List Loc) (hB : q_B g K L (fun q => q ∈ L) [] f f s H locs) (ls : Array Slot) (hl : lv_has ls 2 []), W p l e { frames := 0, cells := 0, slots := 0, locals := 0 } s m ([.ref v, .int (q_i p0)] : List Value).toArray below meth c H locs 0 0 (MQ below (q_Q g K L [] f (q_Pr (fun (z : Nat) (f1 : Nat → va_E) => f = f1 ∧ z ∈ L ∧ K z = 19))) ([.ref v, .int (q_i p0)] : List Value).toArray s 0 0 (fun q => q ∈ L)) (F0 m 22 ls [.int (q_i t22_0), .ref t22_1]) := by
    intro t22_0 lt22_0 ut22_0 t22_1 ht22_1 kt22_1 H locs hB ls hl
    obtain ⟨p8, ep8⟩ : ∃ zz, q_ir (q_r f t22_1 (Int.toNat t22_0)) zz := ⟨_, q_irr _⟩
    refine q_aald (k2 := 19) (n := 10) cx hB ht22_1 kt22_1 (by decide) rfl 7 rfl (by decide) rfl (by omega) (by omega) (by decide) rfl ep8 dX10_nodeAt_22 (fun hb9 kb9 => ?_)
    refine q_aret cx hr (Or.inl ⟨_, rfl⟩) hlk hB dX10_nodeAt_23 ?_
    exact ⟨rfl, hb9, kb9⟩
  have J21 : ∀ (t21_0 : Nat) (ht21_0 : t21_0 ∈ L) (kt21_0 : K t21_0 = 113) (H : Heap) (locs : List Loc) (hB : q_B g K L (fun q => q ∈ L) [] f f s H locs) (ls : Array Slot) (hl : lv_has ls 2 []), W p l e { frames := 0, cells := 0, slots := 0, locals := 0 } s m ([.ref v, .int (q_i p0)] : List Value).toArray below meth c H locs 0 0 (MQ below (q_Q g K L [] f (q_Pr (fun (z : Nat) (f1 : Nat → va_E) => f = f1 ∧ z ∈ L ∧ K z = 19))) ([.ref v, .int (q_i p0)] : List Value).toArray s 0 0 (fun q => q ∈ L)) (F0 m 21 ls [.ref t21_0]) := by
    intro t21_0 ht21_0 kt21_0 H locs hB ls hl
    refine q_iconst cx dX10_nodeAt_21 ?_
    exact J22 0 (by decide) (by decide) t21_0 ht21_0 kt21_0 H locs hB ls (lv_sub hl [] rfl)
  obtain ⟨H, hH⟩ : ∃ H : Heap, H = s.heap := ⟨_, rfl⟩
  obtain ⟨locs, hlocs⟩ : ∃ z : List Loc, z = [] := ⟨_, rfl⟩
  rw [← hH, ← hlocs] at hB
  rw [← hH, ← hlocs]
  refine q_ald_n cx dX10_nodeAt_0 rfl (lv_at hl 0 rfl) ?_
  obtain ⟨p10, ep10⟩ : ∃ zz, q_ir (q_r f v 0) zz := ⟨_, q_irr _⟩
  refine q_gX10_13_15 cx hB hv kv ep10 dX10_nodeAt_1 (fun hb11 kb11 => ?_)
  refine q_ild_n cx dX10_nodeAt_4 rfl (lv_at hl 1 rfl) ?_
  refine q_iflt (tgt := 21) cx ⟨by omega, by omega⟩ dX10_nodeAt_5 (by decide) (fun c12 => ?_) (fun c12 => ?_)
  · exact J21 p10 hb11 kb11 H locs hB ls (lv_sub hl [] rfl)
  · refine q_ild_n cx dX10_nodeAt_8 rfl (lv_at hl 1 rfl) ?_
    refine q_ald_n cx dX10_nodeAt_9 rfl (lv_at hl 0 rfl) ?_
    refine q_gX10_13_15 cx hB hv kv ep10 dX10_nodeAt_10 (fun hb13 kb13 => ?_)
    refine q_alen (n := 10) cx hB hb11 kb11 (by decide) rfl 7 rfl rfl dX10_nodeAt_13 ?_
    refine q_icge (tgt := 21) cx ⟨by omega, by omega⟩ ⟨by decide, by decide⟩ dX10_nodeAt_14 (by decide) (fun c14 => ?_) (fun c14 => ?_)
    · exact J21 p10 hb11 kb11 H locs hB ls (lv_sub hl [] rfl)
    · refine q_ild_n cx dX10_nodeAt_17 rfl (lv_at hl 1 rfl) ?_
      refine lv_goto (tgt := 22) cx.1 cx.2.1 dX10_nodeAt_18 (by decide) ?_
      exact J22 p0 (by omega) (by omega) p10 hb11 kb11 H locs hB ls (lv_sub hl [] rfl)
set_option maxHeartbeats 4000000 in
set_option maxRecDepth 100000 in
theorem g_X10_nodeAt_4 (l : Launch) (g : q_G) {K : Nat → Nat} {L : List Nat} (hN : L.Nodup) {f : Nat → va_E} (hT : q_Ty g K L f) (v : Nat) (hv : v ∈ L) (kv : K v = 16) (p0 : Int) (lp0 : (-2147483648) ≤ p0) (up0 : p0 ≤ 2147483647) : q_Ct l g K L yX10_nodeAt cX10_nodeAt 2 (some (.object "WakeVillage$Node")) 0 0 [.ref v, .int (q_i p0)] f [] (q_Pr (fun (z : Nat) (f1 : Nat → va_E) => f = f1 ∧ z ∈ L ∧ K z = 20)) := by
  refine q_ofb (by decide +kernel) hN hT (Nat.le_of_ble_eq_true rfl) ?_
  intro p e s m below meth c ls cx hr hlk hB hl
  have hl : lv_has ls 2 [(0, .ref v), (1, .int (q_i p0))] := hl
  have J22 : ∀ (t22_0 : Int) (lt22_0 : 0 ≤ t22_0) (ut22_0 : t22_0 ≤ 9) (t22_1 : Nat) (ht22_1 : t22_1 ∈ L) (kt22_1 : K t22_1 = 114) (H : Heap) (locs : List Loc) (hB : q_B g K L (fun q => q ∈ L) [] f f s H locs) (ls : Array Slot) (hl : lv_has ls 2 []), W p l e { frames := 0, cells := 0, slots := 0, locals := 0 } s m ([.ref v, .int (q_i p0)] : List Value).toArray below meth c H locs 0 0 (MQ below (q_Q g K L [] f (q_Pr (fun (z : Nat) (f1 : Nat → va_E) => f = f1 ∧ z ∈ L ∧ K z = 20))) ([.ref v, .int (q_i p0)] : List Value).toArray s 0 0 (fun q => q ∈ L)) (F0 m 22 ls [.int (q_i t22_0), .ref t22_1]) := by
    intro t22_0 lt22_0 ut22_0 t22_1 ht22_1 kt22_1 H locs hB ls hl
    obtain ⟨p8, ep8⟩ : ∃ zz, q_ir (q_r f t22_1 (Int.toNat t22_0)) zz := ⟨_, q_irr _⟩
    refine q_aald (k2 := 20) (n := 10) cx hB ht22_1 kt22_1 (by decide) rfl 7 rfl (by decide) rfl (by omega) (by omega) (by decide) rfl ep8 dX10_nodeAt_22 (fun hb9 kb9 => ?_)
    refine q_aret cx hr (Or.inl ⟨_, rfl⟩) hlk hB dX10_nodeAt_23 ?_
    exact ⟨rfl, hb9, kb9⟩
  have J21 : ∀ (t21_0 : Nat) (ht21_0 : t21_0 ∈ L) (kt21_0 : K t21_0 = 114) (H : Heap) (locs : List Loc) (hB : q_B g K L (fun q => q ∈ L) [] f f s H locs) (ls : Array Slot) (hl : lv_has ls 2 []), W p l e { frames := 0, cells := 0, slots := 0, locals := 0 } s m ([.ref v, .int (q_i p0)] : List Value).toArray below meth c H locs 0 0 (MQ below (q_Q g K L [] f (q_Pr (fun (z : Nat) (f1 : Nat → va_E) => f = f1 ∧ z ∈ L ∧ K z = 20))) ([.ref v, .int (q_i p0)] : List Value).toArray s 0 0 (fun q => q ∈ L)) (F0 m 21 ls [.ref t21_0]) := by
    intro t21_0 ht21_0 kt21_0 H locs hB ls hl
    refine q_iconst cx dX10_nodeAt_21 ?_
    exact J22 0 (by decide) (by decide) t21_0 ht21_0 kt21_0 H locs hB ls (lv_sub hl [] rfl)
  obtain ⟨H, hH⟩ : ∃ H : Heap, H = s.heap := ⟨_, rfl⟩
  obtain ⟨locs, hlocs⟩ : ∃ z : List Loc, z = [] := ⟨_, rfl⟩
  rw [← hH, ← hlocs] at hB
  rw [← hH, ← hlocs]
  refine q_ald_n cx dX10_nodeAt_0 rfl (lv_at hl 0 rfl) ?_
  obtain ⟨p10, ep10⟩ : ∃ zz, q_ir (q_r f v 0) zz := ⟨_, q_irr _⟩
  refine q_gX10_13_16 cx hB hv kv ep10 dX10_nodeAt_1 (fun hb11 kb11 => ?_)
  refine q_ild_n cx dX10_nodeAt_4 rfl (lv_at hl 1 rfl) ?_
  refine q_iflt (tgt := 21) cx ⟨by omega, by omega⟩ dX10_nodeAt_5 (by decide) (fun c12 => ?_) (fun c12 => ?_)
  · exact J21 p10 hb11 kb11 H locs hB ls (lv_sub hl [] rfl)
  · refine q_ild_n cx dX10_nodeAt_8 rfl (lv_at hl 1 rfl) ?_
    refine q_ald_n cx dX10_nodeAt_9 rfl (lv_at hl 0 rfl) ?_
    refine q_gX10_13_16 cx hB hv kv ep10 dX10_nodeAt_10 (fun hb13 kb13 => ?_)
    refine q_alen (n := 10) cx hB hb11 kb11 (by decide) rfl 7 rfl rfl dX10_nodeAt_13 ?_
    refine q_icge (tgt := 21) cx ⟨by omega, by omega⟩ ⟨by decide, by decide⟩ dX10_nodeAt_14 (by decide) (fun c14 => ?_) (fun c14 => ?_)
    · exact J21 p10 hb11 kb11 H locs hB ls (lv_sub hl [] rfl)
    · refine q_ild_n cx dX10_nodeAt_17 rfl (lv_at hl 1 rfl) ?_
      refine lv_goto (tgt := 22) cx.1 cx.2.1 dX10_nodeAt_18 (by decide) ?_
      exact J22 p0 (by omega) (by omega) p10 hb11 kb11 H locs hB ls (lv_sub hl [] rfl)
set_option maxHeartbeats 4000000 in
set_option maxRecDepth 100000 in
theorem g_X5_copyFrom_01 (l : Launch) (g : q_G) {K : Nat → Nat} {L : List Nat} (hN : L.Nodup) {f : Nat → va_E} (hT : q_Ty g K L f) (v : Nat) (hv : v ∈ L) (kv : K v = 5) (p0 : Nat) (hp0 : p0 ∈ L) (kp0 : K p0 = 17) : q_Ct l g K L yX5_copyFrom cX5_copyFrom 2 none 0 0 [.ref v, .ref p0] f [(5, 0, 8)] (q_Pv (fun (f1 : Nat → va_E) => True)) := by
  refine q_ofb (by decide +kernel) hN hT (Nat.le_of_ble_eq_true rfl) ?_
  intro p e s m below meth c ls cx hr hlk hB hl
  have hl : lv_has ls 2 [(0, .ref v), (1, .ref p0)] := hl
  obtain ⟨H, hH⟩ : ∃ H : Heap, H = s.heap := ⟨_, rfl⟩
  obtain ⟨locs, hlocs⟩ : ∃ z : List Loc, z = [] := ⟨_, rfl⟩
  rw [← hH, ← hlocs] at hB
  rw [← hH, ← hlocs]
  refine q_ald_n cx dX5_copyFrom_0 rfl (lv_at hl 0 rfl) ?_
  refine q_ald_n cx dX5_copyFrom_1 rfl (lv_at hl 1 rfl) ?_
  obtain ⟨j84, ej84⟩ : ∃ zz, q_j f p0 0 = zz := ⟨_, rfl⟩
  refine q_gX5_7_17 cx hB hp0 kp0 ej84 dX5_copyFrom_2 ?_
  refine q_pX5_7 cx hB hv kv rfl dX5_copyFrom_5 (fun H locs f85 ef85 z86 hB => ?_)
  refine q_ald_n cx dX5_copyFrom_8 rfl (lv_at hl 0 rfl) ?_
  refine q_ald_n cx dX5_copyFrom_9 rfl (lv_at hl 1 rfl) ?_
  obtain ⟨j87, ej87⟩ : ∃ zz, q_j f85 p0 1 = zz := ⟨_, rfl⟩
  refine q_gX5_13_17 cx hB hp0 kp0 ej87 dX5_copyFrom_10 ?_
  refine q_pX5_13 cx hB hv kv rfl dX5_copyFrom_13 (fun H locs f88 ef88 z89 hB => ?_)
  refine q_ald_n cx dX5_copyFrom_16 rfl (lv_at hl 0 rfl) ?_
  refine q_ald_n cx dX5_copyFrom_17 rfl (lv_at hl 1 rfl) ?_
  obtain ⟨x90, ex90⟩ : ∃ zz, q_is (q_z f88 p0 2) zz := ⟨_, q_isr _⟩
  refine q_gX5_16_17 cx hB hp0 kp0 ex90 dX5_copyFrom_18 (fun lb91 ub91 => ?_)
  refine q_pX5_16 cx hB hv kv ⟨by omega, by omega⟩ (by omega) (by omega) rfl dX5_copyFrom_21 (fun H locs f92 ef92 z93 hB => ?_)
  have z94 : q_is (q_z f92 p0 2) x90 := by rw [ef92, q_setz (Or.inl (fun q => by rw [q, kv] at kp0; exact absurd kp0 (by decide)))]; exact ex90
  refine q_ald_n cx dX5_copyFrom_24 rfl (lv_at hl 0 rfl) ?_
  refine q_ald_n cx dX5_copyFrom_25 rfl (lv_at hl 1 rfl) ?_
  obtain ⟨x95, ex95⟩ : ∃ zz, q_is (q_z f92 p0 3) zz := ⟨_, q_isr _⟩
  refine q_gX5_20_17 cx hB hp0 kp0 ex95 dX5_copyFrom_26 (fun lb96 ub96 => ?_)
  refine q_pX5_20 cx hB hv kv ⟨by omega, by omega⟩ (by omega) (by omega) rfl dX5_copyFrom_29 (fun H locs f97 ef97 z98 hB => ?_)
  have z99 : q_is (q_z f97 p0 2) x90 := by rw [ef97, q_setz (Or.inr (by decide))]; exact z94
  have z100 : q_is (q_z f97 v 2) x90 := by rw [ef97, q_setz (Or.inr (by decide))]; exact z93
  have z101 : q_is (q_z f97 p0 3) x95 := by rw [ef97, q_setz (Or.inl (fun q => by rw [q, kv] at kp0; exact absurd kp0 (by decide)))]; exact ex95
  refine q_ald_n cx dX5_copyFrom_32 rfl (lv_at hl 0 rfl) ?_
  refine q_ald_n cx dX5_copyFrom_33 rfl (lv_at hl 1 rfl) ?_
  obtain ⟨x102, ex102⟩ : ∃ zz, q_is (q_z f97 p0 4) zz := ⟨_, q_isr _⟩
  refine q_gX5_23_17 cx hB hp0 kp0 ex102 dX5_copyFrom_34 (fun lb103 ub103 => ?_)
  refine q_pX5_23 cx hB hv kv ⟨by omega, by omega⟩ (by omega) (by omega) rfl dX5_copyFrom_37 (fun H locs f104 ef104 z105 hB => ?_)
  have z106 : q_is (q_z f104 p0 2) x90 := by rw [ef104, q_setz (Or.inr (by decide))]; exact z99
  have z107 : q_is (q_z f104 v 2) x90 := by rw [ef104, q_setz (Or.inr (by decide))]; exact z100
  have z108 : q_is (q_z f104 p0 3) x95 := by rw [ef104, q_setz (Or.inr (by decide))]; exact z101
  have z109 : q_is (q_z f104 v 3) x95 := by rw [ef104, q_setz (Or.inr (by decide))]; exact z98
  have z110 : q_is (q_z f104 p0 4) x102 := by rw [ef104, q_setz (Or.inl (fun q => by rw [q, kv] at kp0; exact absurd kp0 (by decide)))]; exact ex102
  refine q_ald_n cx dX5_copyFrom_40 rfl (lv_at hl 0 rfl) ?_
  refine q_ald_n cx dX5_copyFrom_41 rfl (lv_at hl 1 rfl) ?_
  obtain ⟨x111, ex111⟩ : ∃ zz, q_is (q_z f104 p0 5) zz := ⟨_, q_isr _⟩
  refine q_gX5_26_17 cx hB hp0 kp0 ex111 dX5_copyFrom_42 (fun lb112 ub112 => ?_)
  refine q_pX5_26 cx hB hv kv ⟨by omega, by omega⟩ (by omega) (by omega) rfl dX5_copyFrom_45 (fun H locs f113 ef113 z114 hB => ?_)
  have z115 : q_is (q_z f113 p0 2) x90 := by rw [ef113, q_setz (Or.inr (by decide))]; exact z106
  have z116 : q_is (q_z f113 v 2) x90 := by rw [ef113, q_setz (Or.inr (by decide))]; exact z107
  have z117 : q_is (q_z f113 p0 3) x95 := by rw [ef113, q_setz (Or.inr (by decide))]; exact z108
  have z118 : q_is (q_z f113 v 3) x95 := by rw [ef113, q_setz (Or.inr (by decide))]; exact z109
  have z119 : q_is (q_z f113 p0 4) x102 := by rw [ef113, q_setz (Or.inr (by decide))]; exact z110
  have z120 : q_is (q_z f113 v 4) x102 := by rw [ef113, q_setz (Or.inr (by decide))]; exact z105
  have z121 : q_is (q_z f113 p0 5) x111 := by rw [ef113, q_setz (Or.inl (fun q => by rw [q, kv] at kp0; exact absurd kp0 (by decide)))]; exact ex111
  refine q_ald_n cx dX5_copyFrom_48 rfl (lv_at hl 0 rfl) ?_
  refine q_ald_n cx dX5_copyFrom_49 rfl (lv_at hl 1 rfl) ?_
  obtain ⟨x122, ex122⟩ : ∃ zz, q_is (q_z f113 p0 6) zz := ⟨_, q_isr _⟩
  refine q_gX5_29_17 cx hB hp0 kp0 ex122 dX5_copyFrom_50 (fun lb123 ub123 => ?_)
  refine q_pX5_29 cx hB hv kv ⟨by omega, by omega⟩ (by omega) (by omega) rfl dX5_copyFrom_53 (fun H locs f124 ef124 z125 hB => ?_)
  have z126 : q_is (q_z f124 p0 2) x90 := by rw [ef124, q_setz (Or.inr (by decide))]; exact z115
  have z127 : q_is (q_z f124 v 2) x90 := by rw [ef124, q_setz (Or.inr (by decide))]; exact z116
  have z128 : q_is (q_z f124 p0 3) x95 := by rw [ef124, q_setz (Or.inr (by decide))]; exact z117
  have z129 : q_is (q_z f124 v 3) x95 := by rw [ef124, q_setz (Or.inr (by decide))]; exact z118
  have z130 : q_is (q_z f124 p0 4) x102 := by rw [ef124, q_setz (Or.inr (by decide))]; exact z119
  have z131 : q_is (q_z f124 v 4) x102 := by rw [ef124, q_setz (Or.inr (by decide))]; exact z120
  have z132 : q_is (q_z f124 p0 5) x111 := by rw [ef124, q_setz (Or.inr (by decide))]; exact z121
  have z133 : q_is (q_z f124 v 5) x111 := by rw [ef124, q_setz (Or.inr (by decide))]; exact z114
  have z134 : q_is (q_z f124 p0 6) x122 := by rw [ef124, q_setz (Or.inl (fun q => by rw [q, kv] at kp0; exact absurd kp0 (by decide)))]; exact ex122
  refine q_ald_n cx dX5_copyFrom_56 rfl (lv_at hl 0 rfl) ?_
  refine q_ald_n cx dX5_copyFrom_57 rfl (lv_at hl 1 rfl) ?_
  obtain ⟨x135, ex135⟩ : ∃ zz, q_is (q_z f124 p0 7) zz := ⟨_, q_isr _⟩
  refine q_gX5_32_17 cx hB hp0 kp0 ex135 dX5_copyFrom_58 (fun lb136 ub136 => ?_)
  refine q_pX5_32 cx hB hv kv ⟨by omega, by omega⟩ (by omega) (by omega) rfl dX5_copyFrom_61 (fun H locs f137 ef137 z138 hB => ?_)
  have z139 : q_is (q_z f137 p0 2) x90 := by rw [ef137, q_setz (Or.inr (by decide))]; exact z126
  have z140 : q_is (q_z f137 v 2) x90 := by rw [ef137, q_setz (Or.inr (by decide))]; exact z127
  have z141 : q_is (q_z f137 p0 3) x95 := by rw [ef137, q_setz (Or.inr (by decide))]; exact z128
  have z142 : q_is (q_z f137 v 3) x95 := by rw [ef137, q_setz (Or.inr (by decide))]; exact z129
  have z143 : q_is (q_z f137 p0 4) x102 := by rw [ef137, q_setz (Or.inr (by decide))]; exact z130
  have z144 : q_is (q_z f137 v 4) x102 := by rw [ef137, q_setz (Or.inr (by decide))]; exact z131
  have z145 : q_is (q_z f137 p0 5) x111 := by rw [ef137, q_setz (Or.inr (by decide))]; exact z132
  have z146 : q_is (q_z f137 v 5) x111 := by rw [ef137, q_setz (Or.inr (by decide))]; exact z133
  have z147 : q_is (q_z f137 p0 6) x122 := by rw [ef137, q_setz (Or.inr (by decide))]; exact z134
  have z148 : q_is (q_z f137 v 6) x122 := by rw [ef137, q_setz (Or.inr (by decide))]; exact z125
  have z149 : q_is (q_z f137 p0 7) x135 := by rw [ef137, q_setz (Or.inl (fun q => by rw [q, kv] at kp0; exact absurd kp0 (by decide)))]; exact ex135
  refine q_ald_n cx dX5_copyFrom_64 rfl (lv_at hl 0 rfl) ?_
  refine q_ald_n cx dX5_copyFrom_65 rfl (lv_at hl 1 rfl) ?_
  obtain ⟨x150, ex150⟩ : ∃ zz, q_is (q_z f137 p0 8) zz := ⟨_, q_isr _⟩
  refine q_gX5_35_17 cx hB hp0 kp0 ex150 dX5_copyFrom_66 (fun lb151 ub151 => ?_)
  refine q_pX5_35 cx hB hv kv ⟨by omega, by omega⟩ (by omega) (by omega) rfl dX5_copyFrom_69 (fun H locs f152 ef152 z153 hB => ?_)
  have z154 : q_is (q_z f152 p0 2) x90 := by rw [ef152, q_setz (Or.inr (by decide))]; exact z139
  have z155 : q_is (q_z f152 v 2) x90 := by rw [ef152, q_setz (Or.inr (by decide))]; exact z140
  have z156 : q_is (q_z f152 p0 3) x95 := by rw [ef152, q_setz (Or.inr (by decide))]; exact z141
  have z157 : q_is (q_z f152 v 3) x95 := by rw [ef152, q_setz (Or.inr (by decide))]; exact z142
  have z158 : q_is (q_z f152 p0 4) x102 := by rw [ef152, q_setz (Or.inr (by decide))]; exact z143
  have z159 : q_is (q_z f152 v 4) x102 := by rw [ef152, q_setz (Or.inr (by decide))]; exact z144
  have z160 : q_is (q_z f152 p0 5) x111 := by rw [ef152, q_setz (Or.inr (by decide))]; exact z145
  have z161 : q_is (q_z f152 v 5) x111 := by rw [ef152, q_setz (Or.inr (by decide))]; exact z146
  have z162 : q_is (q_z f152 p0 6) x122 := by rw [ef152, q_setz (Or.inr (by decide))]; exact z147
  have z163 : q_is (q_z f152 v 6) x122 := by rw [ef152, q_setz (Or.inr (by decide))]; exact z148
  have z164 : q_is (q_z f152 p0 7) x135 := by rw [ef152, q_setz (Or.inr (by decide))]; exact z149
  have z165 : q_is (q_z f152 v 7) x135 := by rw [ef152, q_setz (Or.inr (by decide))]; exact z138
  have z166 : q_is (q_z f152 p0 8) x150 := by rw [ef152, q_setz (Or.inl (fun q => by rw [q, kv] at kp0; exact absurd kp0 (by decide)))]; exact ex150
  refine q_vret cx hr hlk hB dX5_copyFrom_72 ?_
  trivial
set_option maxHeartbeats 4000000 in
set_option maxRecDepth 100000 in
theorem g_X5_copyFrom_02 (l : Launch) (g : q_G) {K : Nat → Nat} {L : List Nat} (hN : L.Nodup) {f : Nat → va_E} (hT : q_Ty g K L f) (v : Nat) (hv : v ∈ L) (kv : K v = 5) (p0 : Nat) (hp0 : p0 ∈ L) (kp0 : K p0 = 18) : q_Ct l g K L yX5_copyFrom cX5_copyFrom 2 none 0 0 [.ref v, .ref p0] f [(5, 0, 8)] (q_Pv (fun (f1 : Nat → va_E) => True)) := by
  refine q_ofb (by decide +kernel) hN hT (Nat.le_of_ble_eq_true rfl) ?_
  intro p e s m below meth c ls cx hr hlk hB hl
  have hl : lv_has ls 2 [(0, .ref v), (1, .ref p0)] := hl
  obtain ⟨H, hH⟩ : ∃ H : Heap, H = s.heap := ⟨_, rfl⟩
  obtain ⟨locs, hlocs⟩ : ∃ z : List Loc, z = [] := ⟨_, rfl⟩
  rw [← hH, ← hlocs] at hB
  rw [← hH, ← hlocs]
  refine q_ald_n cx dX5_copyFrom_0 rfl (lv_at hl 0 rfl) ?_
  refine q_ald_n cx dX5_copyFrom_1 rfl (lv_at hl 1 rfl) ?_
  obtain ⟨j84, ej84⟩ : ∃ zz, q_j f p0 0 = zz := ⟨_, rfl⟩
  refine q_gX5_7_18 cx hB hp0 kp0 ej84 dX5_copyFrom_2 ?_
  refine q_pX5_7 cx hB hv kv rfl dX5_copyFrom_5 (fun H locs f85 ef85 z86 hB => ?_)
  refine q_ald_n cx dX5_copyFrom_8 rfl (lv_at hl 0 rfl) ?_
  refine q_ald_n cx dX5_copyFrom_9 rfl (lv_at hl 1 rfl) ?_
  obtain ⟨j87, ej87⟩ : ∃ zz, q_j f85 p0 1 = zz := ⟨_, rfl⟩
  refine q_gX5_13_18 cx hB hp0 kp0 ej87 dX5_copyFrom_10 ?_
  refine q_pX5_13 cx hB hv kv rfl dX5_copyFrom_13 (fun H locs f88 ef88 z89 hB => ?_)
  refine q_ald_n cx dX5_copyFrom_16 rfl (lv_at hl 0 rfl) ?_
  refine q_ald_n cx dX5_copyFrom_17 rfl (lv_at hl 1 rfl) ?_
  obtain ⟨x90, ex90⟩ : ∃ zz, q_is (q_z f88 p0 2) zz := ⟨_, q_isr _⟩
  refine q_gX5_16_18 cx hB hp0 kp0 ex90 dX5_copyFrom_18 (fun lb91 ub91 => ?_)
  refine q_pX5_16 cx hB hv kv ⟨by omega, by omega⟩ (by omega) (by omega) rfl dX5_copyFrom_21 (fun H locs f92 ef92 z93 hB => ?_)
  have z94 : q_is (q_z f92 p0 2) x90 := by rw [ef92, q_setz (Or.inl (fun q => by rw [q, kv] at kp0; exact absurd kp0 (by decide)))]; exact ex90
  refine q_ald_n cx dX5_copyFrom_24 rfl (lv_at hl 0 rfl) ?_
  refine q_ald_n cx dX5_copyFrom_25 rfl (lv_at hl 1 rfl) ?_
  obtain ⟨x95, ex95⟩ : ∃ zz, q_is (q_z f92 p0 3) zz := ⟨_, q_isr _⟩
  refine q_gX5_20_18 cx hB hp0 kp0 ex95 dX5_copyFrom_26 (fun lb96 ub96 => ?_)
  refine q_pX5_20 cx hB hv kv ⟨by omega, by omega⟩ (by omega) (by omega) rfl dX5_copyFrom_29 (fun H locs f97 ef97 z98 hB => ?_)
  have z99 : q_is (q_z f97 p0 2) x90 := by rw [ef97, q_setz (Or.inr (by decide))]; exact z94
  have z100 : q_is (q_z f97 v 2) x90 := by rw [ef97, q_setz (Or.inr (by decide))]; exact z93
  have z101 : q_is (q_z f97 p0 3) x95 := by rw [ef97, q_setz (Or.inl (fun q => by rw [q, kv] at kp0; exact absurd kp0 (by decide)))]; exact ex95
  refine q_ald_n cx dX5_copyFrom_32 rfl (lv_at hl 0 rfl) ?_
  refine q_ald_n cx dX5_copyFrom_33 rfl (lv_at hl 1 rfl) ?_
  obtain ⟨x102, ex102⟩ : ∃ zz, q_is (q_z f97 p0 4) zz := ⟨_, q_isr _⟩
  refine q_gX5_23_18 cx hB hp0 kp0 ex102 dX5_copyFrom_34 (fun lb103 ub103 => ?_)
  refine q_pX5_23 cx hB hv kv ⟨by omega, by omega⟩ (by omega) (by omega) rfl dX5_copyFrom_37 (fun H locs f104 ef104 z105 hB => ?_)
  have z106 : q_is (q_z f104 p0 2) x90 := by rw [ef104, q_setz (Or.inr (by decide))]; exact z99
  have z107 : q_is (q_z f104 v 2) x90 := by rw [ef104, q_setz (Or.inr (by decide))]; exact z100
  have z108 : q_is (q_z f104 p0 3) x95 := by rw [ef104, q_setz (Or.inr (by decide))]; exact z101
  have z109 : q_is (q_z f104 v 3) x95 := by rw [ef104, q_setz (Or.inr (by decide))]; exact z98
  have z110 : q_is (q_z f104 p0 4) x102 := by rw [ef104, q_setz (Or.inl (fun q => by rw [q, kv] at kp0; exact absurd kp0 (by decide)))]; exact ex102
  refine q_ald_n cx dX5_copyFrom_40 rfl (lv_at hl 0 rfl) ?_
  refine q_ald_n cx dX5_copyFrom_41 rfl (lv_at hl 1 rfl) ?_
  obtain ⟨x111, ex111⟩ : ∃ zz, q_is (q_z f104 p0 5) zz := ⟨_, q_isr _⟩
  refine q_gX5_26_18 cx hB hp0 kp0 ex111 dX5_copyFrom_42 (fun lb112 ub112 => ?_)
  refine q_pX5_26 cx hB hv kv ⟨by omega, by omega⟩ (by omega) (by omega) rfl dX5_copyFrom_45 (fun H locs f113 ef113 z114 hB => ?_)
  have z115 : q_is (q_z f113 p0 2) x90 := by rw [ef113, q_setz (Or.inr (by decide))]; exact z106
  have z116 : q_is (q_z f113 v 2) x90 := by rw [ef113, q_setz (Or.inr (by decide))]; exact z107
  have z117 : q_is (q_z f113 p0 3) x95 := by rw [ef113, q_setz (Or.inr (by decide))]; exact z108
  have z118 : q_is (q_z f113 v 3) x95 := by rw [ef113, q_setz (Or.inr (by decide))]; exact z109
  have z119 : q_is (q_z f113 p0 4) x102 := by rw [ef113, q_setz (Or.inr (by decide))]; exact z110
  have z120 : q_is (q_z f113 v 4) x102 := by rw [ef113, q_setz (Or.inr (by decide))]; exact z105
  have z121 : q_is (q_z f113 p0 5) x111 := by rw [ef113, q_setz (Or.inl (fun q => by rw [q, kv] at kp0; exact absurd kp0 (by decide)))]; exact ex111
  refine q_ald_n cx dX5_copyFrom_48 rfl (lv_at hl 0 rfl) ?_
  refine q_ald_n cx dX5_copyFrom_49 rfl (lv_at hl 1 rfl) ?_
  obtain ⟨x122, ex122⟩ : ∃ zz, q_is (q_z f113 p0 6) zz := ⟨_, q_isr _⟩
  refine q_gX5_29_18 cx hB hp0 kp0 ex122 dX5_copyFrom_50 (fun lb123 ub123 => ?_)
  refine q_pX5_29 cx hB hv kv ⟨by omega, by omega⟩ (by omega) (by omega) rfl dX5_copyFrom_53 (fun H locs f124 ef124 z125 hB => ?_)
  have z126 : q_is (q_z f124 p0 2) x90 := by rw [ef124, q_setz (Or.inr (by decide))]; exact z115
  have z127 : q_is (q_z f124 v 2) x90 := by rw [ef124, q_setz (Or.inr (by decide))]; exact z116
  have z128 : q_is (q_z f124 p0 3) x95 := by rw [ef124, q_setz (Or.inr (by decide))]; exact z117
  have z129 : q_is (q_z f124 v 3) x95 := by rw [ef124, q_setz (Or.inr (by decide))]; exact z118
  have z130 : q_is (q_z f124 p0 4) x102 := by rw [ef124, q_setz (Or.inr (by decide))]; exact z119
  have z131 : q_is (q_z f124 v 4) x102 := by rw [ef124, q_setz (Or.inr (by decide))]; exact z120
  have z132 : q_is (q_z f124 p0 5) x111 := by rw [ef124, q_setz (Or.inr (by decide))]; exact z121
  have z133 : q_is (q_z f124 v 5) x111 := by rw [ef124, q_setz (Or.inr (by decide))]; exact z114
  have z134 : q_is (q_z f124 p0 6) x122 := by rw [ef124, q_setz (Or.inl (fun q => by rw [q, kv] at kp0; exact absurd kp0 (by decide)))]; exact ex122
  refine q_ald_n cx dX5_copyFrom_56 rfl (lv_at hl 0 rfl) ?_
  refine q_ald_n cx dX5_copyFrom_57 rfl (lv_at hl 1 rfl) ?_
  obtain ⟨x135, ex135⟩ : ∃ zz, q_is (q_z f124 p0 7) zz := ⟨_, q_isr _⟩
  refine q_gX5_32_18 cx hB hp0 kp0 ex135 dX5_copyFrom_58 (fun lb136 ub136 => ?_)
  refine q_pX5_32 cx hB hv kv ⟨by omega, by omega⟩ (by omega) (by omega) rfl dX5_copyFrom_61 (fun H locs f137 ef137 z138 hB => ?_)
  have z139 : q_is (q_z f137 p0 2) x90 := by rw [ef137, q_setz (Or.inr (by decide))]; exact z126
  have z140 : q_is (q_z f137 v 2) x90 := by rw [ef137, q_setz (Or.inr (by decide))]; exact z127
  have z141 : q_is (q_z f137 p0 3) x95 := by rw [ef137, q_setz (Or.inr (by decide))]; exact z128
  have z142 : q_is (q_z f137 v 3) x95 := by rw [ef137, q_setz (Or.inr (by decide))]; exact z129
  have z143 : q_is (q_z f137 p0 4) x102 := by rw [ef137, q_setz (Or.inr (by decide))]; exact z130
  have z144 : q_is (q_z f137 v 4) x102 := by rw [ef137, q_setz (Or.inr (by decide))]; exact z131
  have z145 : q_is (q_z f137 p0 5) x111 := by rw [ef137, q_setz (Or.inr (by decide))]; exact z132
  have z146 : q_is (q_z f137 v 5) x111 := by rw [ef137, q_setz (Or.inr (by decide))]; exact z133
  have z147 : q_is (q_z f137 p0 6) x122 := by rw [ef137, q_setz (Or.inr (by decide))]; exact z134
  have z148 : q_is (q_z f137 v 6) x122 := by rw [ef137, q_setz (Or.inr (by decide))]; exact z125
  have z149 : q_is (q_z f137 p0 7) x135 := by rw [ef137, q_setz (Or.inl (fun q => by rw [q, kv] at kp0; exact absurd kp0 (by decide)))]; exact ex135
  refine q_ald_n cx dX5_copyFrom_64 rfl (lv_at hl 0 rfl) ?_
  refine q_ald_n cx dX5_copyFrom_65 rfl (lv_at hl 1 rfl) ?_
  obtain ⟨x150, ex150⟩ : ∃ zz, q_is (q_z f137 p0 8) zz := ⟨_, q_isr _⟩
  refine q_gX5_35_18 cx hB hp0 kp0 ex150 dX5_copyFrom_66 (fun lb151 ub151 => ?_)
  refine q_pX5_35 cx hB hv kv ⟨by omega, by omega⟩ (by omega) (by omega) rfl dX5_copyFrom_69 (fun H locs f152 ef152 z153 hB => ?_)
  have z154 : q_is (q_z f152 p0 2) x90 := by rw [ef152, q_setz (Or.inr (by decide))]; exact z139
  have z155 : q_is (q_z f152 v 2) x90 := by rw [ef152, q_setz (Or.inr (by decide))]; exact z140
  have z156 : q_is (q_z f152 p0 3) x95 := by rw [ef152, q_setz (Or.inr (by decide))]; exact z141
  have z157 : q_is (q_z f152 v 3) x95 := by rw [ef152, q_setz (Or.inr (by decide))]; exact z142
  have z158 : q_is (q_z f152 p0 4) x102 := by rw [ef152, q_setz (Or.inr (by decide))]; exact z143
  have z159 : q_is (q_z f152 v 4) x102 := by rw [ef152, q_setz (Or.inr (by decide))]; exact z144
  have z160 : q_is (q_z f152 p0 5) x111 := by rw [ef152, q_setz (Or.inr (by decide))]; exact z145
  have z161 : q_is (q_z f152 v 5) x111 := by rw [ef152, q_setz (Or.inr (by decide))]; exact z146
  have z162 : q_is (q_z f152 p0 6) x122 := by rw [ef152, q_setz (Or.inr (by decide))]; exact z147
  have z163 : q_is (q_z f152 v 6) x122 := by rw [ef152, q_setz (Or.inr (by decide))]; exact z148
  have z164 : q_is (q_z f152 p0 7) x135 := by rw [ef152, q_setz (Or.inr (by decide))]; exact z149
  have z165 : q_is (q_z f152 v 7) x135 := by rw [ef152, q_setz (Or.inr (by decide))]; exact z138
  have z166 : q_is (q_z f152 p0 8) x150 := by rw [ef152, q_setz (Or.inl (fun q => by rw [q, kv] at kp0; exact absurd kp0 (by decide)))]; exact ex150
  refine q_vret cx hr hlk hB dX5_copyFrom_72 ?_
  trivial
set_option maxHeartbeats 4000000 in
set_option maxRecDepth 100000 in
theorem g_X5_copyFrom_04 (l : Launch) (g : q_G) {K : Nat → Nat} {L : List Nat} (hN : L.Nodup) {f : Nat → va_E} (hT : q_Ty g K L f) (v : Nat) (hv : v ∈ L) (kv : K v = 5) (p0 : Nat) (hp0 : p0 ∈ L) (kp0 : K p0 = 20) : q_Ct l g K L yX5_copyFrom cX5_copyFrom 2 none 0 0 [.ref v, .ref p0] f [(5, 0, 8)] (q_Pv (fun (f1 : Nat → va_E) => True)) := by
  refine q_ofb (by decide +kernel) hN hT (Nat.le_of_ble_eq_true rfl) ?_
  intro p e s m below meth c ls cx hr hlk hB hl
  have hl : lv_has ls 2 [(0, .ref v), (1, .ref p0)] := hl
  obtain ⟨H, hH⟩ : ∃ H : Heap, H = s.heap := ⟨_, rfl⟩
  obtain ⟨locs, hlocs⟩ : ∃ z : List Loc, z = [] := ⟨_, rfl⟩
  rw [← hH, ← hlocs] at hB
  rw [← hH, ← hlocs]
  refine q_ald_n cx dX5_copyFrom_0 rfl (lv_at hl 0 rfl) ?_
  refine q_ald_n cx dX5_copyFrom_1 rfl (lv_at hl 1 rfl) ?_
  obtain ⟨j84, ej84⟩ : ∃ zz, q_j f p0 0 = zz := ⟨_, rfl⟩
  refine q_gX5_7_20 cx hB hp0 kp0 ej84 dX5_copyFrom_2 ?_
  refine q_pX5_7 cx hB hv kv rfl dX5_copyFrom_5 (fun H locs f85 ef85 z86 hB => ?_)
  refine q_ald_n cx dX5_copyFrom_8 rfl (lv_at hl 0 rfl) ?_
  refine q_ald_n cx dX5_copyFrom_9 rfl (lv_at hl 1 rfl) ?_
  obtain ⟨j87, ej87⟩ : ∃ zz, q_j f85 p0 1 = zz := ⟨_, rfl⟩
  refine q_gX5_13_20 cx hB hp0 kp0 ej87 dX5_copyFrom_10 ?_
  refine q_pX5_13 cx hB hv kv rfl dX5_copyFrom_13 (fun H locs f88 ef88 z89 hB => ?_)
  refine q_ald_n cx dX5_copyFrom_16 rfl (lv_at hl 0 rfl) ?_
  refine q_ald_n cx dX5_copyFrom_17 rfl (lv_at hl 1 rfl) ?_
  obtain ⟨x90, ex90⟩ : ∃ zz, q_is (q_z f88 p0 2) zz := ⟨_, q_isr _⟩
  refine q_gX5_16_20 cx hB hp0 kp0 ex90 dX5_copyFrom_18 (fun lb91 ub91 => ?_)
  refine q_pX5_16 cx hB hv kv ⟨by omega, by omega⟩ (by omega) (by omega) rfl dX5_copyFrom_21 (fun H locs f92 ef92 z93 hB => ?_)
  have z94 : q_is (q_z f92 p0 2) x90 := by rw [ef92, q_setz (Or.inl (fun q => by rw [q, kv] at kp0; exact absurd kp0 (by decide)))]; exact ex90
  refine q_ald_n cx dX5_copyFrom_24 rfl (lv_at hl 0 rfl) ?_
  refine q_ald_n cx dX5_copyFrom_25 rfl (lv_at hl 1 rfl) ?_
  obtain ⟨x95, ex95⟩ : ∃ zz, q_is (q_z f92 p0 3) zz := ⟨_, q_isr _⟩
  refine q_gX5_20_20 cx hB hp0 kp0 ex95 dX5_copyFrom_26 (fun lb96 ub96 => ?_)
  refine q_pX5_20 cx hB hv kv ⟨by omega, by omega⟩ (by omega) (by omega) rfl dX5_copyFrom_29 (fun H locs f97 ef97 z98 hB => ?_)
  have z99 : q_is (q_z f97 p0 2) x90 := by rw [ef97, q_setz (Or.inr (by decide))]; exact z94
  have z100 : q_is (q_z f97 v 2) x90 := by rw [ef97, q_setz (Or.inr (by decide))]; exact z93
  have z101 : q_is (q_z f97 p0 3) x95 := by rw [ef97, q_setz (Or.inl (fun q => by rw [q, kv] at kp0; exact absurd kp0 (by decide)))]; exact ex95
  refine q_ald_n cx dX5_copyFrom_32 rfl (lv_at hl 0 rfl) ?_
  refine q_ald_n cx dX5_copyFrom_33 rfl (lv_at hl 1 rfl) ?_
  obtain ⟨x102, ex102⟩ : ∃ zz, q_is (q_z f97 p0 4) zz := ⟨_, q_isr _⟩
  refine q_gX5_23_20 cx hB hp0 kp0 ex102 dX5_copyFrom_34 (fun lb103 ub103 => ?_)
  refine q_pX5_23 cx hB hv kv ⟨by omega, by omega⟩ (by omega) (by omega) rfl dX5_copyFrom_37 (fun H locs f104 ef104 z105 hB => ?_)
  have z106 : q_is (q_z f104 p0 2) x90 := by rw [ef104, q_setz (Or.inr (by decide))]; exact z99
  have z107 : q_is (q_z f104 v 2) x90 := by rw [ef104, q_setz (Or.inr (by decide))]; exact z100
  have z108 : q_is (q_z f104 p0 3) x95 := by rw [ef104, q_setz (Or.inr (by decide))]; exact z101
  have z109 : q_is (q_z f104 v 3) x95 := by rw [ef104, q_setz (Or.inr (by decide))]; exact z98
  have z110 : q_is (q_z f104 p0 4) x102 := by rw [ef104, q_setz (Or.inl (fun q => by rw [q, kv] at kp0; exact absurd kp0 (by decide)))]; exact ex102
  refine q_ald_n cx dX5_copyFrom_40 rfl (lv_at hl 0 rfl) ?_
  refine q_ald_n cx dX5_copyFrom_41 rfl (lv_at hl 1 rfl) ?_
  obtain ⟨x111, ex111⟩ : ∃ zz, q_is (q_z f104 p0 5) zz := ⟨_, q_isr _⟩
  refine q_gX5_26_20 cx hB hp0 kp0 ex111 dX5_copyFrom_42 (fun lb112 ub112 => ?_)
  refine q_pX5_26 cx hB hv kv ⟨by omega, by omega⟩ (by omega) (by omega) rfl dX5_copyFrom_45 (fun H locs f113 ef113 z114 hB => ?_)
  have z115 : q_is (q_z f113 p0 2) x90 := by rw [ef113, q_setz (Or.inr (by decide))]; exact z106
  have z116 : q_is (q_z f113 v 2) x90 := by rw [ef113, q_setz (Or.inr (by decide))]; exact z107
  have z117 : q_is (q_z f113 p0 3) x95 := by rw [ef113, q_setz (Or.inr (by decide))]; exact z108
  have z118 : q_is (q_z f113 v 3) x95 := by rw [ef113, q_setz (Or.inr (by decide))]; exact z109
  have z119 : q_is (q_z f113 p0 4) x102 := by rw [ef113, q_setz (Or.inr (by decide))]; exact z110
  have z120 : q_is (q_z f113 v 4) x102 := by rw [ef113, q_setz (Or.inr (by decide))]; exact z105
  have z121 : q_is (q_z f113 p0 5) x111 := by rw [ef113, q_setz (Or.inl (fun q => by rw [q, kv] at kp0; exact absurd kp0 (by decide)))]; exact ex111
  refine q_ald_n cx dX5_copyFrom_48 rfl (lv_at hl 0 rfl) ?_
  refine q_ald_n cx dX5_copyFrom_49 rfl (lv_at hl 1 rfl) ?_
  obtain ⟨x122, ex122⟩ : ∃ zz, q_is (q_z f113 p0 6) zz := ⟨_, q_isr _⟩
  refine q_gX5_29_20 cx hB hp0 kp0 ex122 dX5_copyFrom_50 (fun lb123 ub123 => ?_)
  refine q_pX5_29 cx hB hv kv ⟨by omega, by omega⟩ (by omega) (by omega) rfl dX5_copyFrom_53 (fun H locs f124 ef124 z125 hB => ?_)
  have z126 : q_is (q_z f124 p0 2) x90 := by rw [ef124, q_setz (Or.inr (by decide))]; exact z115
  have z127 : q_is (q_z f124 v 2) x90 := by rw [ef124, q_setz (Or.inr (by decide))]; exact z116
  have z128 : q_is (q_z f124 p0 3) x95 := by rw [ef124, q_setz (Or.inr (by decide))]; exact z117
  have z129 : q_is (q_z f124 v 3) x95 := by rw [ef124, q_setz (Or.inr (by decide))]; exact z118
  have z130 : q_is (q_z f124 p0 4) x102 := by rw [ef124, q_setz (Or.inr (by decide))]; exact z119
  have z131 : q_is (q_z f124 v 4) x102 := by rw [ef124, q_setz (Or.inr (by decide))]; exact z120
  have z132 : q_is (q_z f124 p0 5) x111 := by rw [ef124, q_setz (Or.inr (by decide))]; exact z121
  have z133 : q_is (q_z f124 v 5) x111 := by rw [ef124, q_setz (Or.inr (by decide))]; exact z114
  have z134 : q_is (q_z f124 p0 6) x122 := by rw [ef124, q_setz (Or.inl (fun q => by rw [q, kv] at kp0; exact absurd kp0 (by decide)))]; exact ex122
  refine q_ald_n cx dX5_copyFrom_56 rfl (lv_at hl 0 rfl) ?_
  refine q_ald_n cx dX5_copyFrom_57 rfl (lv_at hl 1 rfl) ?_
  obtain ⟨x135, ex135⟩ : ∃ zz, q_is (q_z f124 p0 7) zz := ⟨_, q_isr _⟩
  refine q_gX5_32_20 cx hB hp0 kp0 ex135 dX5_copyFrom_58 (fun lb136 ub136 => ?_)
  refine q_pX5_32 cx hB hv kv ⟨by omega, by omega⟩ (by omega) (by omega) rfl dX5_copyFrom_61 (fun H locs f137 ef137 z138 hB => ?_)
  have z139 : q_is (q_z f137 p0 2) x90 := by rw [ef137, q_setz (Or.inr (by decide))]; exact z126
  have z140 : q_is (q_z f137 v 2) x90 := by rw [ef137, q_setz (Or.inr (by decide))]; exact z127
  have z141 : q_is (q_z f137 p0 3) x95 := by rw [ef137, q_setz (Or.inr (by decide))]; exact z128
  have z142 : q_is (q_z f137 v 3) x95 := by rw [ef137, q_setz (Or.inr (by decide))]; exact z129
  have z143 : q_is (q_z f137 p0 4) x102 := by rw [ef137, q_setz (Or.inr (by decide))]; exact z130
  have z144 : q_is (q_z f137 v 4) x102 := by rw [ef137, q_setz (Or.inr (by decide))]; exact z131
  have z145 : q_is (q_z f137 p0 5) x111 := by rw [ef137, q_setz (Or.inr (by decide))]; exact z132
  have z146 : q_is (q_z f137 v 5) x111 := by rw [ef137, q_setz (Or.inr (by decide))]; exact z133
  have z147 : q_is (q_z f137 p0 6) x122 := by rw [ef137, q_setz (Or.inr (by decide))]; exact z134
  have z148 : q_is (q_z f137 v 6) x122 := by rw [ef137, q_setz (Or.inr (by decide))]; exact z125
  have z149 : q_is (q_z f137 p0 7) x135 := by rw [ef137, q_setz (Or.inl (fun q => by rw [q, kv] at kp0; exact absurd kp0 (by decide)))]; exact ex135
  refine q_ald_n cx dX5_copyFrom_64 rfl (lv_at hl 0 rfl) ?_
  refine q_ald_n cx dX5_copyFrom_65 rfl (lv_at hl 1 rfl) ?_
  obtain ⟨x150, ex150⟩ : ∃ zz, q_is (q_z f137 p0 8) zz := ⟨_, q_isr _⟩
  refine q_gX5_35_20 cx hB hp0 kp0 ex150 dX5_copyFrom_66 (fun lb151 ub151 => ?_)
  refine q_pX5_35 cx hB hv kv ⟨by omega, by omega⟩ (by omega) (by omega) rfl dX5_copyFrom_69 (fun H locs f152 ef152 z153 hB => ?_)
  have z154 : q_is (q_z f152 p0 2) x90 := by rw [ef152, q_setz (Or.inr (by decide))]; exact z139
  have z155 : q_is (q_z f152 v 2) x90 := by rw [ef152, q_setz (Or.inr (by decide))]; exact z140
  have z156 : q_is (q_z f152 p0 3) x95 := by rw [ef152, q_setz (Or.inr (by decide))]; exact z141
  have z157 : q_is (q_z f152 v 3) x95 := by rw [ef152, q_setz (Or.inr (by decide))]; exact z142
  have z158 : q_is (q_z f152 p0 4) x102 := by rw [ef152, q_setz (Or.inr (by decide))]; exact z143
  have z159 : q_is (q_z f152 v 4) x102 := by rw [ef152, q_setz (Or.inr (by decide))]; exact z144
  have z160 : q_is (q_z f152 p0 5) x111 := by rw [ef152, q_setz (Or.inr (by decide))]; exact z145
  have z161 : q_is (q_z f152 v 5) x111 := by rw [ef152, q_setz (Or.inr (by decide))]; exact z146
  have z162 : q_is (q_z f152 p0 6) x122 := by rw [ef152, q_setz (Or.inr (by decide))]; exact z147
  have z163 : q_is (q_z f152 v 6) x122 := by rw [ef152, q_setz (Or.inr (by decide))]; exact z148
  have z164 : q_is (q_z f152 p0 7) x135 := by rw [ef152, q_setz (Or.inr (by decide))]; exact z149
  have z165 : q_is (q_z f152 v 7) x135 := by rw [ef152, q_setz (Or.inr (by decide))]; exact z138
  have z166 : q_is (q_z f152 p0 8) x150 := by rw [ef152, q_setz (Or.inl (fun q => by rw [q, kv] at kp0; exact absurd kp0 (by decide)))]; exact ex150
  refine q_vret cx hr hlk hB dX5_copyFrom_72 ?_
  trivial
