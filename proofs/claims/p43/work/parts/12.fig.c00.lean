set_option maxHeartbeats 4000000 in
set_option maxRecDepth 100000 in
theorem f_ibits (l : Launch) (g : q_G) {K : Nat → Nat} {L : List Nat} (hN : L.Nodup) {f : Nat → va_E} (hT : q_Ty g K L f) (p0 : Int) (lp0 : (-2147483648) ≤ p0) (up0 : p0 ≤ 2147483647) : q_Ct l g K L yJ6_bitCount_0f7a4 cJ6_bitCount_0f7a4 1 (some .int) 0 0 [.int (q_i p0)] f [] (q_Pi (fun (z : Int) (f1 : Nat → va_E) => f = f1 ∧ 0 ≤ z ∧ z ≤ 63 ∧ (z = tw_bi p0))) := by
  refine q_ofb (by decide +kernel) hN hT (Nat.le_of_ble_eq_true rfl) ?_
  intro p e s m below meth c ls cx hr hlk hB hl
  have hl : lv_has ls 1 [(0, .int (q_i p0))] := hl
  obtain ⟨H, hH⟩ : ∃ H : Heap, H = s.heap := ⟨_, rfl⟩
  obtain ⟨locs, hlocs⟩ : ∃ z : List Loc, z = [] := ⟨_, rfl⟩
  rw [← hH, ← hlocs] at hB
  rw [← hH, ← hlocs]
  refine q_ild_n cx dJ6_bitCount_0f7a4_0 rfl (lv_at hl 0 rfl) ?_
  refine q_ild_n cx dJ6_bitCount_0f7a4_1 rfl (lv_at hl 0 rfl) ?_
  refine q_iconst cx dJ6_bitCount_0f7a4_2 ?_
  refine lv_iushr cx.1 cx.2.1 dJ6_bitCount_0f7a4_3 rfl ?_
  refine q_any (fun y16 ry16 ey16 => ?_)
  refine lv_ldcw (v := q_i 1431655765) cx.1 cx.2.1 cx.2.2.2.1 (cx.2.2.2.2 _ q_h2222) dJ6_bitCount_0f7a4_4 ?_
  refine q_iand cx dJ6_bitCount_0f7a4_7 (fun y17 ry17 ey17 => ?_)
  refine q_isub cx dJ6_bitCount_0f7a4_8 ?_
  refine q_any (fun y18 ry18 ey18 => ?_)
  refine lv_istore_n (lv' := [(0, .int (q_i y18))]) cx.1 cx.2.1 dJ6_bitCount_0f7a4_9 rfl hl (by decide) rfl (fun ls hl => ?_)
  refine q_ild_n cx dJ6_bitCount_0f7a4_10 rfl (lv_at hl 0 rfl) ?_
  refine lv_ldcw (v := q_i 858993459) cx.1 cx.2.1 cx.2.2.2.1 (cx.2.2.2.2 _ q_h2223) dJ6_bitCount_0f7a4_11 ?_
  refine q_iand cx dJ6_bitCount_0f7a4_14 (fun y19 ry19 ey19 => ?_)
  refine q_ild_n cx dJ6_bitCount_0f7a4_15 rfl (lv_at hl 0 rfl) ?_
  refine q_iconst cx dJ6_bitCount_0f7a4_16 ?_
  refine lv_iushr cx.1 cx.2.1 dJ6_bitCount_0f7a4_17 rfl ?_
  refine q_any (fun y20 ry20 ey20 => ?_)
  refine lv_ldcw (v := q_i 858993459) cx.1 cx.2.1 cx.2.2.2.1 (cx.2.2.2.2 _ q_h2223) dJ6_bitCount_0f7a4_18 ?_
  refine q_iand cx dJ6_bitCount_0f7a4_21 (fun y21 ry21 ey21 => ?_)
  refine q_iadd cx dJ6_bitCount_0f7a4_22 ?_
  refine q_any (fun y22 ry22 ey22 => ?_)
  refine lv_istore_n (lv' := [(0, .int (q_i y22))]) cx.1 cx.2.1 dJ6_bitCount_0f7a4_23 rfl hl (by decide) rfl (fun ls hl => ?_)
  refine q_ild_n cx dJ6_bitCount_0f7a4_24 rfl (lv_at hl 0 rfl) ?_
  refine q_ild_n cx dJ6_bitCount_0f7a4_25 rfl (lv_at hl 0 rfl) ?_
  refine q_iconst cx dJ6_bitCount_0f7a4_26 ?_
  refine lv_iushr cx.1 cx.2.1 dJ6_bitCount_0f7a4_27 rfl ?_
  refine q_any (fun y23 ry23 ey23 => ?_)
  refine q_iadd cx dJ6_bitCount_0f7a4_28 ?_
  refine q_any (fun y24 ry24 ey24 => ?_)
  refine lv_ldcw (v := q_i 252645135) cx.1 cx.2.1 cx.2.2.2.1 (cx.2.2.2.2 _ q_h2224) dJ6_bitCount_0f7a4_29 ?_
  refine q_iand cx dJ6_bitCount_0f7a4_32 (fun y25 ry25 ey25 => ?_)
  refine lv_istore_n (lv' := [(0, .int (q_i y25))]) cx.1 cx.2.1 dJ6_bitCount_0f7a4_33 rfl hl (by decide) rfl (fun ls hl => ?_)
  refine q_ild_n cx dJ6_bitCount_0f7a4_34 rfl (lv_at hl 0 rfl) ?_
  refine q_ild_n cx dJ6_bitCount_0f7a4_35 rfl (lv_at hl 0 rfl) ?_
  refine q_bipush cx dJ6_bitCount_0f7a4_36 rfl ?_
  refine lv_iushr cx.1 cx.2.1 dJ6_bitCount_0f7a4_38 rfl ?_
  refine q_any (fun y26 ry26 ey26 => ?_)
  refine q_iadd cx dJ6_bitCount_0f7a4_39 ?_
  refine q_any (fun y27 ry27 ey27 => ?_)
  refine lv_istore_n (lv' := [(0, .int (q_i y27))]) cx.1 cx.2.1 dJ6_bitCount_0f7a4_40 rfl hl (by decide) rfl (fun ls hl => ?_)
  refine q_ild_n cx dJ6_bitCount_0f7a4_41 rfl (lv_at hl 0 rfl) ?_
  refine q_ild_n cx dJ6_bitCount_0f7a4_42 rfl (lv_at hl 0 rfl) ?_
  refine q_bipush cx dJ6_bitCount_0f7a4_43 rfl ?_
  refine lv_iushr cx.1 cx.2.1 dJ6_bitCount_0f7a4_45 rfl ?_
  refine q_any (fun y28 ry28 ey28 => ?_)
  refine q_iadd cx dJ6_bitCount_0f7a4_46 ?_
  refine q_any (fun y29 ry29 ey29 => ?_)
  refine lv_istore_n (lv' := [(0, .int (q_i y29))]) cx.1 cx.2.1 dJ6_bitCount_0f7a4_47 rfl hl (by decide) rfl (fun ls hl => ?_)
  refine q_ild_n cx dJ6_bitCount_0f7a4_48 rfl (lv_at hl 0 rfl) ?_
  refine q_bipush cx dJ6_bitCount_0f7a4_49 rfl ?_
  refine q_iandm cx 6 (by decide) rfl dJ6_bitCount_0f7a4_51 (fun y30 ly30 uy30 ey30 => ?_)
  refine q_iret cx hr hlk hB dJ6_bitCount_0f7a4_52 ⟨by omega, by omega⟩ ?_
  exact ⟨rfl, (by omega), (by omega), (by have t0_ : y16 = tw_us p0 1 := (tw_us_of ry16 ey16); have t1_ : y17 = tw_an (tw_us p0 1) 1431655765 := Eq.trans (tw_an_of ry17 ey17) (by simp only [t0_]); have t2_ : y18 = tw_w (p0 - (tw_an (tw_us p0 1) 1431655765)) := Eq.trans (tw_w_of ry18 ey18) (by simp only [t1_]); have t3_ : y19 = tw_an (tw_w (p0 - (tw_an (tw_us p0 1) 1431655765))) 858993459 := Eq.trans (tw_an_of ry19 ey19) (by simp only [t2_]); have t4_ : y20 = tw_us (tw_w (p0 - (tw_an (tw_us p0 1) 1431655765))) 2 := Eq.trans (tw_us_of ry20 ey20) (by simp only [t2_]); have t5_ : y21 = tw_an (tw_us (tw_w (p0 - (tw_an (tw_us p0 1) 1431655765))) 2) 858993459 := Eq.trans (tw_an_of ry21 ey21) (by simp only [t4_]); have t6_ : y22 = tw_w ((tw_an (tw_w (p0 - (tw_an (tw_us p0 1) 1431655765))) 858993459) + (tw_an (tw_us (tw_w (p0 - (tw_an (tw_us p0 1) 1431655765))) 2) 858993459)) := Eq.trans (tw_w_of ry22 ey22) (by simp only [t3_, t5_]); have t7_ : y23 = tw_us (tw_w ((tw_an (tw_w (p0 - (tw_an (tw_us p0 1) 1431655765))) 858993459) + (tw_an (tw_us (tw_w (p0 - (tw_an (tw_us p0 1) 1431655765))) 2) 858993459))) 4 := Eq.trans (tw_us_of ry23 ey23) (by simp only [t6_]); have t8_ : y24 = tw_w ((tw_w ((tw_an (tw_w (p0 - (tw_an (tw_us p0 1) 1431655765))) 858993459) + (tw_an (tw_us (tw_w (p0 - (tw_an (tw_us p0 1) 1431655765))) 2) 858993459))) + (tw_us (tw_w ((tw_an (tw_w (p0 - (tw_an (tw_us p0 1) 1431655765))) 858993459) + (tw_an (tw_us (tw_w (p0 - (tw_an (tw_us p0 1) 1431655765))) 2) 858993459))) 4)) := Eq.trans (tw_w_of ry24 ey24) (by simp only [t6_, t7_]); have t9_ : y25 = tw_an (tw_w ((tw_w ((tw_an (tw_w (p0 - (tw_an (tw_us p0 1) 1431655765))) 858993459) + (tw_an (tw_us (tw_w (p0 - (tw_an (tw_us p0 1) 1431655765))) 2) 858993459))) + (tw_us (tw_w ((tw_an (tw_w (p0 - (tw_an (tw_us p0 1) 1431655765))) 858993459) + (tw_an (tw_us (tw_w (p0 - (tw_an (tw_us p0 1) 1431655765))) 2) 858993459))) 4))) 252645135 := Eq.trans (tw_an_of ry25 ey25) (by simp only [t8_]); have t10_ : y26 = tw_us (tw_an (tw_w ((tw_w ((tw_an (tw_w (p0 - (tw_an (tw_us p0 1) 1431655765))) 858993459) + (tw_an (tw_us (tw_w (p0 - (tw_an (tw_us p0 1) 1431655765))) 2) 858993459))) + (tw_us (tw_w ((tw_an (tw_w (p0 - (tw_an (tw_us p0 1) 1431655765))) 858993459) + (tw_an (tw_us (tw_w (p0 - (tw_an (tw_us p0 1) 1431655765))) 2) 858993459))) 4))) 252645135) 8 := Eq.trans (tw_us_of ry26 ey26) (by simp only [t9_]); have t11_ : y27 = tw_w ((tw_an (tw_w ((tw_w ((tw_an (tw_w (p0 - (tw_an (tw_us p0 1) 1431655765))) 858993459) + (tw_an (tw_us (tw_w (p0 - (tw_an (tw_us p0 1) 1431655765))) 2) 858993459))) + (tw_us (tw_w ((tw_an (tw_w (p0 - (tw_an (tw_us p0 1) 1431655765))) 858993459) + (tw_an (tw_us (tw_w (p0 - (tw_an (tw_us p0 1) 1431655765))) 2) 858993459))) 4))) 252645135) + (tw_us (tw_an (tw_w ((tw_w ((tw_an (tw_w (p0 - (tw_an (tw_us p0 1) 1431655765))) 858993459) + (tw_an (tw_us (tw_w (p0 - (tw_an (tw_us p0 1) 1431655765))) 2) 858993459))) + (tw_us (tw_w ((tw_an (tw_w (p0 - (tw_an (tw_us p0 1) 1431655765))) 858993459) + (tw_an (tw_us (tw_w (p0 - (tw_an (tw_us p0 1) 1431655765))) 2) 858993459))) 4))) 252645135) 8)) := Eq.trans (tw_w_of ry27 ey27) (by simp only [t9_, t10_]); have t12_ : y28 = tw_us (tw_w ((tw_an (tw_w ((tw_w ((tw_an (tw_w (p0 - (tw_an (tw_us p0 1) 1431655765))) 858993459) + (tw_an (tw_us (tw_w (p0 - (tw_an (tw_us p0 1) 1431655765))) 2) 858993459))) + (tw_us (tw_w ((tw_an (tw_w (p0 - (tw_an (tw_us p0 1) 1431655765))) 858993459) + (tw_an (tw_us (tw_w (p0 - (tw_an (tw_us p0 1) 1431655765))) 2) 858993459))) 4))) 252645135) + (tw_us (tw_an (tw_w ((tw_w ((tw_an (tw_w (p0 - (tw_an (tw_us p0 1) 1431655765))) 858993459) + (tw_an (tw_us (tw_w (p0 - (tw_an (tw_us p0 1) 1431655765))) 2) 858993459))) + (tw_us (tw_w ((tw_an (tw_w (p0 - (tw_an (tw_us p0 1) 1431655765))) 858993459) + (tw_an (tw_us (tw_w (p0 - (tw_an (tw_us p0 1) 1431655765))) 2) 858993459))) 4))) 252645135) 8))) 16 := Eq.trans (tw_us_of ry28 ey28) (by simp only [t11_]); have t13_ : y29 = tw_w ((tw_w ((tw_an (tw_w ((tw_w ((tw_an (tw_w (p0 - (tw_an (tw_us p0 1) 1431655765))) 858993459) + (tw_an (tw_us (tw_w (p0 - (tw_an (tw_us p0 1) 1431655765))) 2) 858993459))) + (tw_us (tw_w ((tw_an (tw_w (p0 - (tw_an (tw_us p0 1) 1431655765))) 858993459) + (tw_an (tw_us (tw_w (p0 - (tw_an (tw_us p0 1) 1431655765))) 2) 858993459))) 4))) 252645135) + (tw_us (tw_an (tw_w ((tw_w ((tw_an (tw_w (p0 - (tw_an (tw_us p0 1) 1431655765))) 858993459) + (tw_an (tw_us (tw_w (p0 - (tw_an (tw_us p0 1) 1431655765))) 2) 858993459))) + (tw_us (tw_w ((tw_an (tw_w (p0 - (tw_an (tw_us p0 1) 1431655765))) 858993459) + (tw_an (tw_us (tw_w (p0 - (tw_an (tw_us p0 1) 1431655765))) 2) 858993459))) 4))) 252645135) 8))) + (tw_us (tw_w ((tw_an (tw_w ((tw_w ((tw_an (tw_w (p0 - (tw_an (tw_us p0 1) 1431655765))) 858993459) + (tw_an (tw_us (tw_w (p0 - (tw_an (tw_us p0 1) 1431655765))) 2) 858993459))) + (tw_us (tw_w ((tw_an (tw_w (p0 - (tw_an (tw_us p0 1) 1431655765))) 858993459) + (tw_an (tw_us (tw_w (p0 - (tw_an (tw_us p0 1) 1431655765))) 2) 858993459))) 4))) 252645135) + (tw_us (tw_an (tw_w ((tw_w ((tw_an (tw_w (p0 - (tw_an (tw_us p0 1) 1431655765))) 858993459) + (tw_an (tw_us (tw_w (p0 - (tw_an (tw_us p0 1) 1431655765))) 2) 858993459))) + (tw_us (tw_w ((tw_an (tw_w (p0 - (tw_an (tw_us p0 1) 1431655765))) 858993459) + (tw_an (tw_us (tw_w (p0 - (tw_an (tw_us p0 1) 1431655765))) 2) 858993459))) 4))) 252645135) 8))) 16)) := Eq.trans (tw_w_of ry29 ey29) (by simp only [t11_, t12_]); have t14_ : y30 = tw_an (tw_w ((tw_w ((tw_an (tw_w ((tw_w ((tw_an (tw_w (p0 - (tw_an (tw_us p0 1) 1431655765))) 858993459) + (tw_an (tw_us (tw_w (p0 - (tw_an (tw_us p0 1) 1431655765))) 2) 858993459))) + (tw_us (tw_w ((tw_an (tw_w (p0 - (tw_an (tw_us p0 1) 1431655765))) 858993459) + (tw_an (tw_us (tw_w (p0 - (tw_an (tw_us p0 1) 1431655765))) 2) 858993459))) 4))) 252645135) + (tw_us (tw_an (tw_w ((tw_w ((tw_an (tw_w (p0 - (tw_an (tw_us p0 1) 1431655765))) 858993459) + (tw_an (tw_us (tw_w (p0 - (tw_an (tw_us p0 1) 1431655765))) 2) 858993459))) + (tw_us (tw_w ((tw_an (tw_w (p0 - (tw_an (tw_us p0 1) 1431655765))) 858993459) + (tw_an (tw_us (tw_w (p0 - (tw_an (tw_us p0 1) 1431655765))) 2) 858993459))) 4))) 252645135) 8))) + (tw_us (tw_w ((tw_an (tw_w ((tw_w ((tw_an (tw_w (p0 - (tw_an (tw_us p0 1) 1431655765))) 858993459) + (tw_an (tw_us (tw_w (p0 - (tw_an (tw_us p0 1) 1431655765))) 2) 858993459))) + (tw_us (tw_w ((tw_an (tw_w (p0 - (tw_an (tw_us p0 1) 1431655765))) 858993459) + (tw_an (tw_us (tw_w (p0 - (tw_an (tw_us p0 1) 1431655765))) 2) 858993459))) 4))) 252645135) + (tw_us (tw_an (tw_w ((tw_w ((tw_an (tw_w (p0 - (tw_an (tw_us p0 1) 1431655765))) 858993459) + (tw_an (tw_us (tw_w (p0 - (tw_an (tw_us p0 1) 1431655765))) 2) 858993459))) + (tw_us (tw_w ((tw_an (tw_w (p0 - (tw_an (tw_us p0 1) 1431655765))) 858993459) + (tw_an (tw_us (tw_w (p0 - (tw_an (tw_us p0 1) 1431655765))) 2) 858993459))) 4))) 252645135) 8))) 16))) 63 := Eq.trans (tw_an_of ⟨by omega, by omega⟩ ey30) (by simp only [t13_]); (try simp only [t0_, t1_, t2_, t3_, t4_, t5_, t6_, t7_, t8_, t9_, t10_, t11_, t12_, t13_, t14_]); unfold tw_bi; (repeat' split) <;> first | rfl | (exfalso; omega))⟩
set_option maxHeartbeats 4000000 in
set_option maxRecDepth 100000 in
theorem f_lbits (l : Launch) (g : q_G) {K : Nat → Nat} {L : List Nat} (hN : L.Nodup) {f : Nat → va_E} (hT : q_Ty g K L f) (p0 : Int64) : q_Ct l g K L yJ13_bitCount_95d88 cJ13_bitCount_95d88 2 (some .int) 0 0 [.long p0] f [] (q_Pi (fun (z : Int) (f1 : Nat → va_E) => f = f1 ∧ 0 ≤ z ∧ z ≤ 127 ∧ (z = tw_bl p0))) := by
  refine q_ofb (by decide +kernel) hN hT (Nat.le_of_ble_eq_true rfl) ?_
  intro p e s m below meth c ls cx hr hlk hB hl
  have hl : lv_has ls 2 [(0, .long p0)] := hl
  obtain ⟨H, hH⟩ : ∃ H : Heap, H = s.heap := ⟨_, rfl⟩
  obtain ⟨locs, hlocs⟩ : ∃ z : List Loc, z = [] := ⟨_, rfl⟩
  rw [← hH, ← hlocs] at hB
  rw [← hH, ← hlocs]
  refine q_lld_n cx dJ13_bitCount_95d88_0 rfl (lv_at hl 0 rfl) ?_
  refine q_lld_n cx dJ13_bitCount_95d88_1 rfl (lv_at hl 0 rfl) ?_
  refine q_iconst cx dJ13_bitCount_95d88_2 ?_
  refine lv_lushr cx.1 cx.2.1 dJ13_bitCount_95d88_3 rfl ?_
  refine lv_topl (fun j19 ej19 => ?_)
  refine lv_ldc2 cx.1 cx.2.1 cx.2.2.2.1 (cx.2.2.2.2 _ q_h2267) dJ13_bitCount_95d88_4 ?_
  refine lv_land cx.1 cx.2.1 dJ13_bitCount_95d88_7 ?_
  refine lv_topl (fun j20 ej20 => ?_)
  refine lv_lsub cx.1 cx.2.1 dJ13_bitCount_95d88_8 ?_
  refine lv_topl (fun j21 ej21 => ?_)
  refine lv_lstore_n (lv' := [(0, .long j21)]) cx.1 cx.2.1 dJ13_bitCount_95d88_9 rfl hl (by decide) rfl (fun ls hl => ?_)
  refine q_lld_n cx dJ13_bitCount_95d88_10 rfl (lv_at hl 0 rfl) ?_
  refine lv_ldc2 cx.1 cx.2.1 cx.2.2.2.1 (cx.2.2.2.2 _ q_h2268) dJ13_bitCount_95d88_11 ?_
  refine lv_land cx.1 cx.2.1 dJ13_bitCount_95d88_14 ?_
  refine lv_topl (fun j22 ej22 => ?_)
  refine q_lld_n cx dJ13_bitCount_95d88_15 rfl (lv_at hl 0 rfl) ?_
  refine q_iconst cx dJ13_bitCount_95d88_16 ?_
  refine lv_lushr cx.1 cx.2.1 dJ13_bitCount_95d88_17 rfl ?_
  refine lv_topl (fun j23 ej23 => ?_)
  refine lv_ldc2 cx.1 cx.2.1 cx.2.2.2.1 (cx.2.2.2.2 _ q_h2268) dJ13_bitCount_95d88_18 ?_
  refine lv_land cx.1 cx.2.1 dJ13_bitCount_95d88_21 ?_
  refine lv_topl (fun j24 ej24 => ?_)
  refine lv_ladd cx.1 cx.2.1 dJ13_bitCount_95d88_22 ?_
  refine lv_topl (fun j25 ej25 => ?_)
  refine lv_lstore_n (lv' := [(0, .long j25)]) cx.1 cx.2.1 dJ13_bitCount_95d88_23 rfl hl (by decide) rfl (fun ls hl => ?_)
  refine q_lld_n cx dJ13_bitCount_95d88_24 rfl (lv_at hl 0 rfl) ?_
  refine q_lld_n cx dJ13_bitCount_95d88_25 rfl (lv_at hl 0 rfl) ?_
  refine q_iconst cx dJ13_bitCount_95d88_26 ?_
  refine lv_lushr cx.1 cx.2.1 dJ13_bitCount_95d88_27 rfl ?_
  refine lv_topl (fun j26 ej26 => ?_)
  refine lv_ladd cx.1 cx.2.1 dJ13_bitCount_95d88_28 ?_
  refine lv_topl (fun j27 ej27 => ?_)
  refine lv_ldc2 cx.1 cx.2.1 cx.2.2.2.1 (cx.2.2.2.2 _ q_h2269) dJ13_bitCount_95d88_29 ?_
  refine lv_land cx.1 cx.2.1 dJ13_bitCount_95d88_32 ?_
  refine lv_topl (fun j28 ej28 => ?_)
  refine lv_lstore_n (lv' := [(0, .long j28)]) cx.1 cx.2.1 dJ13_bitCount_95d88_33 rfl hl (by decide) rfl (fun ls hl => ?_)
  refine q_lld_n cx dJ13_bitCount_95d88_34 rfl (lv_at hl 0 rfl) ?_
  refine q_lld_n cx dJ13_bitCount_95d88_35 rfl (lv_at hl 0 rfl) ?_
  refine q_bipush cx dJ13_bitCount_95d88_36 rfl ?_
  refine lv_lushr cx.1 cx.2.1 dJ13_bitCount_95d88_38 rfl ?_
  refine lv_topl (fun j29 ej29 => ?_)
  refine lv_ladd cx.1 cx.2.1 dJ13_bitCount_95d88_39 ?_
  refine lv_topl (fun j30 ej30 => ?_)
  refine lv_lstore_n (lv' := [(0, .long j30)]) cx.1 cx.2.1 dJ13_bitCount_95d88_40 rfl hl (by decide) rfl (fun ls hl => ?_)
  refine q_lld_n cx dJ13_bitCount_95d88_41 rfl (lv_at hl 0 rfl) ?_
  refine q_lld_n cx dJ13_bitCount_95d88_42 rfl (lv_at hl 0 rfl) ?_
  refine q_bipush cx dJ13_bitCount_95d88_43 rfl ?_
  refine lv_lushr cx.1 cx.2.1 dJ13_bitCount_95d88_45 rfl ?_
  refine lv_topl (fun j31 ej31 => ?_)
  refine lv_ladd cx.1 cx.2.1 dJ13_bitCount_95d88_46 ?_
  refine lv_topl (fun j32 ej32 => ?_)
  refine lv_lstore_n (lv' := [(0, .long j32)]) cx.1 cx.2.1 dJ13_bitCount_95d88_47 rfl hl (by decide) rfl (fun ls hl => ?_)
  refine q_lld_n cx dJ13_bitCount_95d88_48 rfl (lv_at hl 0 rfl) ?_
  refine q_lld_n cx dJ13_bitCount_95d88_49 rfl (lv_at hl 0 rfl) ?_
  refine q_bipush cx dJ13_bitCount_95d88_50 rfl ?_
  refine lv_lushr cx.1 cx.2.1 dJ13_bitCount_95d88_52 rfl ?_
  refine lv_topl (fun j33 ej33 => ?_)
  refine lv_ladd cx.1 cx.2.1 dJ13_bitCount_95d88_53 ?_
  refine lv_topl (fun j34 ej34 => ?_)
  refine lv_lstore_n (lv' := [(0, .long j34)]) cx.1 cx.2.1 dJ13_bitCount_95d88_54 rfl hl (by decide) rfl (fun ls hl => ?_)
  refine q_lld_n cx dJ13_bitCount_95d88_55 rfl (lv_at hl 0 rfl) ?_
  refine q_l2i cx dJ13_bitCount_95d88_56 (fun y35 ry35 ey35 => ?_)
  refine q_bipush cx dJ13_bitCount_95d88_57 rfl ?_
  refine q_iandm cx 7 (by decide) rfl dJ13_bitCount_95d88_59 (fun y36 ly36 uy36 ey36 => ?_)
  refine q_iret cx hr hlk hB dJ13_bitCount_95d88_60 ⟨by omega, by omega⟩ ?_
  exact ⟨rfl, (by omega), (by omega), (by have t0_ : j19 = tw_ul p0 1 := ej19.symm; have t1_ : j20 = (tw_ul p0 1) &&& (6148914691236517205) := Eq.trans ej20.symm (by simp only [t0_]); have t2_ : j21 = p0 - ((tw_ul p0 1) &&& (6148914691236517205)) := Eq.trans ej21.symm (by simp only [t1_]); have t3_ : j22 = (p0 - ((tw_ul p0 1) &&& (6148914691236517205))) &&& (3689348814741910323) := Eq.trans ej22.symm (by simp only [t2_]); have t4_ : j23 = tw_ul (p0 - ((tw_ul p0 1) &&& (6148914691236517205))) 2 := Eq.trans ej23.symm (by simp only [t2_]); have t5_ : j24 = (tw_ul (p0 - ((tw_ul p0 1) &&& (6148914691236517205))) 2) &&& (3689348814741910323) := Eq.trans ej24.symm (by simp only [t4_]); have t6_ : j25 = ((p0 - ((tw_ul p0 1) &&& (6148914691236517205))) &&& (3689348814741910323)) + ((tw_ul (p0 - ((tw_ul p0 1) &&& (6148914691236517205))) 2) &&& (3689348814741910323)) := Eq.trans ej25.symm (by simp only [t3_, t5_]); have t7_ : j26 = tw_ul (((p0 - ((tw_ul p0 1) &&& (6148914691236517205))) &&& (3689348814741910323)) + ((tw_ul (p0 - ((tw_ul p0 1) &&& (6148914691236517205))) 2) &&& (3689348814741910323))) 4 := Eq.trans ej26.symm (by simp only [t6_]); have t8_ : j27 = (((p0 - ((tw_ul p0 1) &&& (6148914691236517205))) &&& (3689348814741910323)) + ((tw_ul (p0 - ((tw_ul p0 1) &&& (6148914691236517205))) 2) &&& (3689348814741910323))) + (tw_ul (((p0 - ((tw_ul p0 1) &&& (6148914691236517205))) &&& (3689348814741910323)) + ((tw_ul (p0 - ((tw_ul p0 1) &&& (6148914691236517205))) 2) &&& (3689348814741910323))) 4) := Eq.trans ej27.symm (by simp only [t6_, t7_]); have t9_ : j28 = ((((p0 - ((tw_ul p0 1) &&& (6148914691236517205))) &&& (3689348814741910323)) + ((tw_ul (p0 - ((tw_ul p0 1) &&& (6148914691236517205))) 2) &&& (3689348814741910323))) + (tw_ul (((p0 - ((tw_ul p0 1) &&& (6148914691236517205))) &&& (3689348814741910323)) + ((tw_ul (p0 - ((tw_ul p0 1) &&& (6148914691236517205))) 2) &&& (3689348814741910323))) 4)) &&& (1085102592571150095) := Eq.trans ej28.symm (by simp only [t8_]); have t10_ : j29 = tw_ul (((((p0 - ((tw_ul p0 1) &&& (6148914691236517205))) &&& (3689348814741910323)) + ((tw_ul (p0 - ((tw_ul p0 1) &&& (6148914691236517205))) 2) &&& (3689348814741910323))) + (tw_ul (((p0 - ((tw_ul p0 1) &&& (6148914691236517205))) &&& (3689348814741910323)) + ((tw_ul (p0 - ((tw_ul p0 1) &&& (6148914691236517205))) 2) &&& (3689348814741910323))) 4)) &&& (1085102592571150095)) 8 := Eq.trans ej29.symm (by simp only [t9_]); have t11_ : j30 = (((((p0 - ((tw_ul p0 1) &&& (6148914691236517205))) &&& (3689348814741910323)) + ((tw_ul (p0 - ((tw_ul p0 1) &&& (6148914691236517205))) 2) &&& (3689348814741910323))) + (tw_ul (((p0 - ((tw_ul p0 1) &&& (6148914691236517205))) &&& (3689348814741910323)) + ((tw_ul (p0 - ((tw_ul p0 1) &&& (6148914691236517205))) 2) &&& (3689348814741910323))) 4)) &&& (1085102592571150095)) + (tw_ul (((((p0 - ((tw_ul p0 1) &&& (6148914691236517205))) &&& (3689348814741910323)) + ((tw_ul (p0 - ((tw_ul p0 1) &&& (6148914691236517205))) 2) &&& (3689348814741910323))) + (tw_ul (((p0 - ((tw_ul p0 1) &&& (6148914691236517205))) &&& (3689348814741910323)) + ((tw_ul (p0 - ((tw_ul p0 1) &&& (6148914691236517205))) 2) &&& (3689348814741910323))) 4)) &&& (1085102592571150095)) 8) := Eq.trans ej30.symm (by simp only [t9_, t10_]); have t12_ : j31 = tw_ul ((((((p0 - ((tw_ul p0 1) &&& (6148914691236517205))) &&& (3689348814741910323)) + ((tw_ul (p0 - ((tw_ul p0 1) &&& (6148914691236517205))) 2) &&& (3689348814741910323))) + (tw_ul (((p0 - ((tw_ul p0 1) &&& (6148914691236517205))) &&& (3689348814741910323)) + ((tw_ul (p0 - ((tw_ul p0 1) &&& (6148914691236517205))) 2) &&& (3689348814741910323))) 4)) &&& (1085102592571150095)) + (tw_ul (((((p0 - ((tw_ul p0 1) &&& (6148914691236517205))) &&& (3689348814741910323)) + ((tw_ul (p0 - ((tw_ul p0 1) &&& (6148914691236517205))) 2) &&& (3689348814741910323))) + (tw_ul (((p0 - ((tw_ul p0 1) &&& (6148914691236517205))) &&& (3689348814741910323)) + ((tw_ul (p0 - ((tw_ul p0 1) &&& (6148914691236517205))) 2) &&& (3689348814741910323))) 4)) &&& (1085102592571150095)) 8)) 16 := Eq.trans ej31.symm (by simp only [t11_]); have t13_ : j32 = ((((((p0 - ((tw_ul p0 1) &&& (6148914691236517205))) &&& (3689348814741910323)) + ((tw_ul (p0 - ((tw_ul p0 1) &&& (6148914691236517205))) 2) &&& (3689348814741910323))) + (tw_ul (((p0 - ((tw_ul p0 1) &&& (6148914691236517205))) &&& (3689348814741910323)) + ((tw_ul (p0 - ((tw_ul p0 1) &&& (6148914691236517205))) 2) &&& (3689348814741910323))) 4)) &&& (1085102592571150095)) + (tw_ul (((((p0 - ((tw_ul p0 1) &&& (6148914691236517205))) &&& (3689348814741910323)) + ((tw_ul (p0 - ((tw_ul p0 1) &&& (6148914691236517205))) 2) &&& (3689348814741910323))) + (tw_ul (((p0 - ((tw_ul p0 1) &&& (6148914691236517205))) &&& (3689348814741910323)) + ((tw_ul (p0 - ((tw_ul p0 1) &&& (6148914691236517205))) 2) &&& (3689348814741910323))) 4)) &&& (1085102592571150095)) 8)) + (tw_ul ((((((p0 - ((tw_ul p0 1) &&& (6148914691236517205))) &&& (3689348814741910323)) + ((tw_ul (p0 - ((tw_ul p0 1) &&& (6148914691236517205))) 2) &&& (3689348814741910323))) + (tw_ul (((p0 - ((tw_ul p0 1) &&& (6148914691236517205))) &&& (3689348814741910323)) + ((tw_ul (p0 - ((tw_ul p0 1) &&& (6148914691236517205))) 2) &&& (3689348814741910323))) 4)) &&& (1085102592571150095)) + (tw_ul (((((p0 - ((tw_ul p0 1) &&& (6148914691236517205))) &&& (3689348814741910323)) + ((tw_ul (p0 - ((tw_ul p0 1) &&& (6148914691236517205))) 2) &&& (3689348814741910323))) + (tw_ul (((p0 - ((tw_ul p0 1) &&& (6148914691236517205))) &&& (3689348814741910323)) + ((tw_ul (p0 - ((tw_ul p0 1) &&& (6148914691236517205))) 2) &&& (3689348814741910323))) 4)) &&& (1085102592571150095)) 8)) 16) := Eq.trans ej32.symm (by simp only [t11_, t12_]); have t14_ : j33 = tw_ul (((((((p0 - ((tw_ul p0 1) &&& (6148914691236517205))) &&& (3689348814741910323)) + ((tw_ul (p0 - ((tw_ul p0 1) &&& (6148914691236517205))) 2) &&& (3689348814741910323))) + (tw_ul (((p0 - ((tw_ul p0 1) &&& (6148914691236517205))) &&& (3689348814741910323)) + ((tw_ul (p0 - ((tw_ul p0 1) &&& (6148914691236517205))) 2) &&& (3689348814741910323))) 4)) &&& (1085102592571150095)) + (tw_ul (((((p0 - ((tw_ul p0 1) &&& (6148914691236517205))) &&& (3689348814741910323)) + ((tw_ul (p0 - ((tw_ul p0 1) &&& (6148914691236517205))) 2) &&& (3689348814741910323))) + (tw_ul (((p0 - ((tw_ul p0 1) &&& (6148914691236517205))) &&& (3689348814741910323)) + ((tw_ul (p0 - ((tw_ul p0 1) &&& (6148914691236517205))) 2) &&& (3689348814741910323))) 4)) &&& (1085102592571150095)) 8)) + (tw_ul ((((((p0 - ((tw_ul p0 1) &&& (6148914691236517205))) &&& (3689348814741910323)) + ((tw_ul (p0 - ((tw_ul p0 1) &&& (6148914691236517205))) 2) &&& (3689348814741910323))) + (tw_ul (((p0 - ((tw_ul p0 1) &&& (6148914691236517205))) &&& (3689348814741910323)) + ((tw_ul (p0 - ((tw_ul p0 1) &&& (6148914691236517205))) 2) &&& (3689348814741910323))) 4)) &&& (1085102592571150095)) + (tw_ul (((((p0 - ((tw_ul p0 1) &&& (6148914691236517205))) &&& (3689348814741910323)) + ((tw_ul (p0 - ((tw_ul p0 1) &&& (6148914691236517205))) 2) &&& (3689348814741910323))) + (tw_ul (((p0 - ((tw_ul p0 1) &&& (6148914691236517205))) &&& (3689348814741910323)) + ((tw_ul (p0 - ((tw_ul p0 1) &&& (6148914691236517205))) 2) &&& (3689348814741910323))) 4)) &&& (1085102592571150095)) 8)) 16)) 32 := Eq.trans ej33.symm (by simp only [t13_]); have t15_ : j34 = (((((((p0 - ((tw_ul p0 1) &&& (6148914691236517205))) &&& (3689348814741910323)) + ((tw_ul (p0 - ((tw_ul p0 1) &&& (6148914691236517205))) 2) &&& (3689348814741910323))) + (tw_ul (((p0 - ((tw_ul p0 1) &&& (6148914691236517205))) &&& (3689348814741910323)) + ((tw_ul (p0 - ((tw_ul p0 1) &&& (6148914691236517205))) 2) &&& (3689348814741910323))) 4)) &&& (1085102592571150095)) + (tw_ul (((((p0 - ((tw_ul p0 1) &&& (6148914691236517205))) &&& (3689348814741910323)) + ((tw_ul (p0 - ((tw_ul p0 1) &&& (6148914691236517205))) 2) &&& (3689348814741910323))) + (tw_ul (((p0 - ((tw_ul p0 1) &&& (6148914691236517205))) &&& (3689348814741910323)) + ((tw_ul (p0 - ((tw_ul p0 1) &&& (6148914691236517205))) 2) &&& (3689348814741910323))) 4)) &&& (1085102592571150095)) 8)) + (tw_ul ((((((p0 - ((tw_ul p0 1) &&& (6148914691236517205))) &&& (3689348814741910323)) + ((tw_ul (p0 - ((tw_ul p0 1) &&& (6148914691236517205))) 2) &&& (3689348814741910323))) + (tw_ul (((p0 - ((tw_ul p0 1) &&& (6148914691236517205))) &&& (3689348814741910323)) + ((tw_ul (p0 - ((tw_ul p0 1) &&& (6148914691236517205))) 2) &&& (3689348814741910323))) 4)) &&& (1085102592571150095)) + (tw_ul (((((p0 - ((tw_ul p0 1) &&& (6148914691236517205))) &&& (3689348814741910323)) + ((tw_ul (p0 - ((tw_ul p0 1) &&& (6148914691236517205))) 2) &&& (3689348814741910323))) + (tw_ul (((p0 - ((tw_ul p0 1) &&& (6148914691236517205))) &&& (3689348814741910323)) + ((tw_ul (p0 - ((tw_ul p0 1) &&& (6148914691236517205))) 2) &&& (3689348814741910323))) 4)) &&& (1085102592571150095)) 8)) 16)) + (tw_ul (((((((p0 - ((tw_ul p0 1) &&& (6148914691236517205))) &&& (3689348814741910323)) + ((tw_ul (p0 - ((tw_ul p0 1) &&& (6148914691236517205))) 2) &&& (3689348814741910323))) + (tw_ul (((p0 - ((tw_ul p0 1) &&& (6148914691236517205))) &&& (3689348814741910323)) + ((tw_ul (p0 - ((tw_ul p0 1) &&& (6148914691236517205))) 2) &&& (3689348814741910323))) 4)) &&& (1085102592571150095)) + (tw_ul (((((p0 - ((tw_ul p0 1) &&& (6148914691236517205))) &&& (3689348814741910323)) + ((tw_ul (p0 - ((tw_ul p0 1) &&& (6148914691236517205))) 2) &&& (3689348814741910323))) + (tw_ul (((p0 - ((tw_ul p0 1) &&& (6148914691236517205))) &&& (3689348814741910323)) + ((tw_ul (p0 - ((tw_ul p0 1) &&& (6148914691236517205))) 2) &&& (3689348814741910323))) 4)) &&& (1085102592571150095)) 8)) + (tw_ul ((((((p0 - ((tw_ul p0 1) &&& (6148914691236517205))) &&& (3689348814741910323)) + ((tw_ul (p0 - ((tw_ul p0 1) &&& (6148914691236517205))) 2) &&& (3689348814741910323))) + (tw_ul (((p0 - ((tw_ul p0 1) &&& (6148914691236517205))) &&& (3689348814741910323)) + ((tw_ul (p0 - ((tw_ul p0 1) &&& (6148914691236517205))) 2) &&& (3689348814741910323))) 4)) &&& (1085102592571150095)) + (tw_ul (((((p0 - ((tw_ul p0 1) &&& (6148914691236517205))) &&& (3689348814741910323)) + ((tw_ul (p0 - ((tw_ul p0 1) &&& (6148914691236517205))) 2) &&& (3689348814741910323))) + (tw_ul (((p0 - ((tw_ul p0 1) &&& (6148914691236517205))) &&& (3689348814741910323)) + ((tw_ul (p0 - ((tw_ul p0 1) &&& (6148914691236517205))) 2) &&& (3689348814741910323))) 4)) &&& (1085102592571150095)) 8)) 16)) 32) := Eq.trans ej34.symm (by simp only [t13_, t14_]); have t16_ : y35 = (((((((((p0 - ((tw_ul p0 1) &&& (6148914691236517205))) &&& (3689348814741910323)) + ((tw_ul (p0 - ((tw_ul p0 1) &&& (6148914691236517205))) 2) &&& (3689348814741910323))) + (tw_ul (((p0 - ((tw_ul p0 1) &&& (6148914691236517205))) &&& (3689348814741910323)) + ((tw_ul (p0 - ((tw_ul p0 1) &&& (6148914691236517205))) 2) &&& (3689348814741910323))) 4)) &&& (1085102592571150095)) + (tw_ul (((((p0 - ((tw_ul p0 1) &&& (6148914691236517205))) &&& (3689348814741910323)) + ((tw_ul (p0 - ((tw_ul p0 1) &&& (6148914691236517205))) 2) &&& (3689348814741910323))) + (tw_ul (((p0 - ((tw_ul p0 1) &&& (6148914691236517205))) &&& (3689348814741910323)) + ((tw_ul (p0 - ((tw_ul p0 1) &&& (6148914691236517205))) 2) &&& (3689348814741910323))) 4)) &&& (1085102592571150095)) 8)) + (tw_ul ((((((p0 - ((tw_ul p0 1) &&& (6148914691236517205))) &&& (3689348814741910323)) + ((tw_ul (p0 - ((tw_ul p0 1) &&& (6148914691236517205))) 2) &&& (3689348814741910323))) + (tw_ul (((p0 - ((tw_ul p0 1) &&& (6148914691236517205))) &&& (3689348814741910323)) + ((tw_ul (p0 - ((tw_ul p0 1) &&& (6148914691236517205))) 2) &&& (3689348814741910323))) 4)) &&& (1085102592571150095)) + (tw_ul (((((p0 - ((tw_ul p0 1) &&& (6148914691236517205))) &&& (3689348814741910323)) + ((tw_ul (p0 - ((tw_ul p0 1) &&& (6148914691236517205))) 2) &&& (3689348814741910323))) + (tw_ul (((p0 - ((tw_ul p0 1) &&& (6148914691236517205))) &&& (3689348814741910323)) + ((tw_ul (p0 - ((tw_ul p0 1) &&& (6148914691236517205))) 2) &&& (3689348814741910323))) 4)) &&& (1085102592571150095)) 8)) 16)) + (tw_ul (((((((p0 - ((tw_ul p0 1) &&& (6148914691236517205))) &&& (3689348814741910323)) + ((tw_ul (p0 - ((tw_ul p0 1) &&& (6148914691236517205))) 2) &&& (3689348814741910323))) + (tw_ul (((p0 - ((tw_ul p0 1) &&& (6148914691236517205))) &&& (3689348814741910323)) + ((tw_ul (p0 - ((tw_ul p0 1) &&& (6148914691236517205))) 2) &&& (3689348814741910323))) 4)) &&& (1085102592571150095)) + (tw_ul (((((p0 - ((tw_ul p0 1) &&& (6148914691236517205))) &&& (3689348814741910323)) + ((tw_ul (p0 - ((tw_ul p0 1) &&& (6148914691236517205))) 2) &&& (3689348814741910323))) + (tw_ul (((p0 - ((tw_ul p0 1) &&& (6148914691236517205))) &&& (3689348814741910323)) + ((tw_ul (p0 - ((tw_ul p0 1) &&& (6148914691236517205))) 2) &&& (3689348814741910323))) 4)) &&& (1085102592571150095)) 8)) + (tw_ul ((((((p0 - ((tw_ul p0 1) &&& (6148914691236517205))) &&& (3689348814741910323)) + ((tw_ul (p0 - ((tw_ul p0 1) &&& (6148914691236517205))) 2) &&& (3689348814741910323))) + (tw_ul (((p0 - ((tw_ul p0 1) &&& (6148914691236517205))) &&& (3689348814741910323)) + ((tw_ul (p0 - ((tw_ul p0 1) &&& (6148914691236517205))) 2) &&& (3689348814741910323))) 4)) &&& (1085102592571150095)) + (tw_ul (((((p0 - ((tw_ul p0 1) &&& (6148914691236517205))) &&& (3689348814741910323)) + ((tw_ul (p0 - ((tw_ul p0 1) &&& (6148914691236517205))) 2) &&& (3689348814741910323))) + (tw_ul (((p0 - ((tw_ul p0 1) &&& (6148914691236517205))) &&& (3689348814741910323)) + ((tw_ul (p0 - ((tw_ul p0 1) &&& (6148914691236517205))) 2) &&& (3689348814741910323))) 4)) &&& (1085102592571150095)) 8)) 16)) 32))).toInt32.toInt := Eq.trans (tw_l2_of ry35 ey35) (by simp only [t15_]); have t17_ : y36 = tw_an ((((((((((p0 - ((tw_ul p0 1) &&& (6148914691236517205))) &&& (3689348814741910323)) + ((tw_ul (p0 - ((tw_ul p0 1) &&& (6148914691236517205))) 2) &&& (3689348814741910323))) + (tw_ul (((p0 - ((tw_ul p0 1) &&& (6148914691236517205))) &&& (3689348814741910323)) + ((tw_ul (p0 - ((tw_ul p0 1) &&& (6148914691236517205))) 2) &&& (3689348814741910323))) 4)) &&& (1085102592571150095)) + (tw_ul (((((p0 - ((tw_ul p0 1) &&& (6148914691236517205))) &&& (3689348814741910323)) + ((tw_ul (p0 - ((tw_ul p0 1) &&& (6148914691236517205))) 2) &&& (3689348814741910323))) + (tw_ul (((p0 - ((tw_ul p0 1) &&& (6148914691236517205))) &&& (3689348814741910323)) + ((tw_ul (p0 - ((tw_ul p0 1) &&& (6148914691236517205))) 2) &&& (3689348814741910323))) 4)) &&& (1085102592571150095)) 8)) + (tw_ul ((((((p0 - ((tw_ul p0 1) &&& (6148914691236517205))) &&& (3689348814741910323)) + ((tw_ul (p0 - ((tw_ul p0 1) &&& (6148914691236517205))) 2) &&& (3689348814741910323))) + (tw_ul (((p0 - ((tw_ul p0 1) &&& (6148914691236517205))) &&& (3689348814741910323)) + ((tw_ul (p0 - ((tw_ul p0 1) &&& (6148914691236517205))) 2) &&& (3689348814741910323))) 4)) &&& (1085102592571150095)) + (tw_ul (((((p0 - ((tw_ul p0 1) &&& (6148914691236517205))) &&& (3689348814741910323)) + ((tw_ul (p0 - ((tw_ul p0 1) &&& (6148914691236517205))) 2) &&& (3689348814741910323))) + (tw_ul (((p0 - ((tw_ul p0 1) &&& (6148914691236517205))) &&& (3689348814741910323)) + ((tw_ul (p0 - ((tw_ul p0 1) &&& (6148914691236517205))) 2) &&& (3689348814741910323))) 4)) &&& (1085102592571150095)) 8)) 16)) + (tw_ul (((((((p0 - ((tw_ul p0 1) &&& (6148914691236517205))) &&& (3689348814741910323)) + ((tw_ul (p0 - ((tw_ul p0 1) &&& (6148914691236517205))) 2) &&& (3689348814741910323))) + (tw_ul (((p0 - ((tw_ul p0 1) &&& (6148914691236517205))) &&& (3689348814741910323)) + ((tw_ul (p0 - ((tw_ul p0 1) &&& (6148914691236517205))) 2) &&& (3689348814741910323))) 4)) &&& (1085102592571150095)) + (tw_ul (((((p0 - ((tw_ul p0 1) &&& (6148914691236517205))) &&& (3689348814741910323)) + ((tw_ul (p0 - ((tw_ul p0 1) &&& (6148914691236517205))) 2) &&& (3689348814741910323))) + (tw_ul (((p0 - ((tw_ul p0 1) &&& (6148914691236517205))) &&& (3689348814741910323)) + ((tw_ul (p0 - ((tw_ul p0 1) &&& (6148914691236517205))) 2) &&& (3689348814741910323))) 4)) &&& (1085102592571150095)) 8)) + (tw_ul ((((((p0 - ((tw_ul p0 1) &&& (6148914691236517205))) &&& (3689348814741910323)) + ((tw_ul (p0 - ((tw_ul p0 1) &&& (6148914691236517205))) 2) &&& (3689348814741910323))) + (tw_ul (((p0 - ((tw_ul p0 1) &&& (6148914691236517205))) &&& (3689348814741910323)) + ((tw_ul (p0 - ((tw_ul p0 1) &&& (6148914691236517205))) 2) &&& (3689348814741910323))) 4)) &&& (1085102592571150095)) + (tw_ul (((((p0 - ((tw_ul p0 1) &&& (6148914691236517205))) &&& (3689348814741910323)) + ((tw_ul (p0 - ((tw_ul p0 1) &&& (6148914691236517205))) 2) &&& (3689348814741910323))) + (tw_ul (((p0 - ((tw_ul p0 1) &&& (6148914691236517205))) &&& (3689348814741910323)) + ((tw_ul (p0 - ((tw_ul p0 1) &&& (6148914691236517205))) 2) &&& (3689348814741910323))) 4)) &&& (1085102592571150095)) 8)) 16)) 32))).toInt32.toInt) 127 := Eq.trans (tw_an_of ⟨by omega, by omega⟩ ey36) (by simp only [t16_]); (try simp only [t0_, t1_, t2_, t3_, t4_, t5_, t6_, t7_, t8_, t9_, t10_, t11_, t12_, t13_, t14_, t15_, t16_, t17_]); unfold tw_bl; (repeat' split) <;> first | rfl | (exfalso; omega))⟩
set_option maxHeartbeats 4000000 in
set_option maxRecDepth 100000 in
theorem f_figure11 (l : Launch) (g : q_G) {K : Nat → Nat} {L : List Nat} (hN : L.Nodup) {f : Nat → va_E} (hT : q_Ty g K L f) (d0 : Nat → Nat) (s0 : tw_S) (v : Nat) (hv : v ∈ L) (kv : K v = 3) (p0 : Int) (lp0 : 0 ≤ p0) (up0 : p0 ≤ 4) (v0 : Nat) (hv0 : v0 ∈ L) (kv0 : K v0 = 10) (n0 : Nat) (hn0 : n0 ∈ L) (kn0 : K n0 = 110) (l0 : Nat) (hl0 : l0 ∈ L) (kl0 : K l0 = 120) (m0 : Nat) (hm0 : m0 ∈ L) (km0 : K m0 = 130) (li : Int) (lli : 0 ≤ li) (uli : li ≤ 15) (hp0 : v = d0 (11 + Int.toNat li)) (hw0 : tw_vw K L 10 5 3 4 f v0 n0 l0 m0 d0 s0) : q_Ct l g K L yX3_figure cX3_figure 2 (some .int) 0 0 [.ref v, .int (q_i p0)] f [] (q_Pi (fun (z : Int) (f1 : Nat → va_E) => f = f1 ∧ (z = tw_lf s0 li p0))) := by
  refine q_ofb (by decide +kernel) hN hT (Nat.le_of_ble_eq_true rfl) ?_
  intro p e s m below meth c ls cx hr hlk hB hl
  have hl : lv_has ls 2 [(0, .ref v), (1, .int (q_i p0))] := hl
  obtain ⟨H, hH⟩ : ∃ H : Heap, H = s.heap := ⟨_, rfl⟩
  obtain ⟨locs, hlocs⟩ : ∃ z : List Loc, z = [] := ⟨_, rfl⟩
  rw [← hH, ← hlocs] at hB
  rw [← hH, ← hlocs]
  refine q_ild_n cx dX3_figure_0 rfl (lv_at hl 1 rfl) ?_
  by_cases c22 : p0 = 0
  · refine lv_tableIn (tgt := 32) cx.1 cx.2.1 dX3_figure_1 (by rw [q_toInt ⟨by omega, by omega⟩]; omega) (by rw [q_toInt ⟨by omega, by omega⟩]; omega) (off := 31) (by rw [q_toInt ⟨by omega, by omega⟩, c22]; rfl) (by decide) ?_
    refine q_ald_n cx dX3_figure_32 rfl (lv_at hl 0 rfl) ?_
    obtain ⟨x23, ex23⟩ : ∃ zz, q_is (q_z f v 0) zz := ⟨_, q_isr _⟩
    obtain ⟨lx23, ux23⟩ := q_isb ex23 (q_fib hB.2.1 hv kv (by decide) rfl)
    obtain ⟨x24, ex24, nx24⟩ : ∃ zz, q_is (q_z f v 0) zz ∧ zz = x23 := ⟨_, ex23, rfl⟩
    have sx24 : q_is x24 (s0 (11 + Int.toNat li) 0) := tw_g hw0 hp0 (by omega) (by omega) ex24
    refine q_gX3_7 cx hB hv kv ex24 dX3_figure_33 (fun lb25 ub25 => ?_)
    refine q_iret cx hr hlk hB dX3_figure_36 ⟨by omega, by omega⟩ ?_
    exact ⟨rfl, (by have t0_ : x24 = s0 (11 + Int.toNat li) 0 := sx24; (try simp only [t0_]); unfold tw_lf; (repeat' split) <;> first | rfl | (exfalso; omega))⟩
  by_cases c26 : p0 = 1
  · refine lv_tableIn (tgt := 37) cx.1 cx.2.1 dX3_figure_1 (by rw [q_toInt ⟨by omega, by omega⟩]; omega) (by rw [q_toInt ⟨by omega, by omega⟩]; omega) (off := 36) (by rw [q_toInt ⟨by omega, by omega⟩, c26]; rfl) (by decide) ?_
    refine q_ald_n cx dX3_figure_37 rfl (lv_at hl 0 rfl) ?_
    obtain ⟨x27, ex27⟩ : ∃ zz, q_is (q_z f v 1) zz := ⟨_, q_isr _⟩
    obtain ⟨lx27, ux27⟩ := q_isb ex27 (q_fib hB.2.1 hv kv (by decide) rfl)
    obtain ⟨x28, ex28, nx28⟩ : ∃ zz, q_is (q_z f v 1) zz ∧ zz = x27 := ⟨_, ex27, rfl⟩
    have sx28 : q_is x28 (s0 (11 + Int.toNat li) 1) := tw_g hw0 hp0 (by omega) (by omega) ex28
    refine q_gX3_13 cx hB hv kv ex28 dX3_figure_38 (fun lb29 ub29 => ?_)
    refine q_iret cx hr hlk hB dX3_figure_41 ⟨by omega, by omega⟩ ?_
    exact ⟨rfl, (by have t0_ : x28 = s0 (11 + Int.toNat li) 1 := sx28; (try simp only [t0_]); unfold tw_lf; (repeat' split) <;> first | rfl | (exfalso; omega))⟩
  by_cases c30 : p0 = 2
  · refine lv_tableIn (tgt := 42) cx.1 cx.2.1 dX3_figure_1 (by rw [q_toInt ⟨by omega, by omega⟩]; omega) (by rw [q_toInt ⟨by omega, by omega⟩]; omega) (off := 41) (by rw [q_toInt ⟨by omega, by omega⟩, c30]; rfl) (by decide) ?_
    refine q_ald_n cx dX3_figure_42 rfl (lv_at hl 0 rfl) ?_
    obtain ⟨x31, ex31⟩ : ∃ zz, q_is (q_z f v 2) zz := ⟨_, q_isr _⟩
    obtain ⟨lx31, ux31⟩ := q_isb ex31 (q_fib hB.2.1 hv kv (by decide) rfl)
    obtain ⟨x32, ex32, nx32⟩ : ∃ zz, q_is (q_z f v 2) zz ∧ zz = x31 := ⟨_, ex31, rfl⟩
    have sx32 : q_is x32 (s0 (11 + Int.toNat li) 2) := tw_g hw0 hp0 (by omega) (by omega) ex32
    refine q_gX3_16 cx hB hv kv ex32 dX3_figure_43 (fun lb33 ub33 => ?_)
    refine q_iret cx hr hlk hB dX3_figure_46 ⟨by omega, by omega⟩ ?_
    exact ⟨rfl, (by have t0_ : x32 = s0 (11 + Int.toNat li) 2 := sx32; (try simp only [t0_]); unfold tw_lf; (repeat' split) <;> first | rfl | (exfalso; omega))⟩
  by_cases c34 : p0 = 3
  · refine lv_tableIn (tgt := 47) cx.1 cx.2.1 dX3_figure_1 (by rw [q_toInt ⟨by omega, by omega⟩]; omega) (by rw [q_toInt ⟨by omega, by omega⟩]; omega) (off := 46) (by rw [q_toInt ⟨by omega, by omega⟩, c34]; rfl) (by decide) ?_
    refine q_ald_n cx dX3_figure_47 rfl (lv_at hl 0 rfl) ?_
    obtain ⟨x35, ex35⟩ : ∃ zz, q_is (q_z f v 3) zz := ⟨_, q_isr _⟩
    obtain ⟨lx35, ux35⟩ := q_isb ex35 (q_fib hB.2.1 hv kv (by decide) rfl)
    obtain ⟨x36, ex36, nx36⟩ : ∃ zz, q_is (q_z f v 3) zz ∧ zz = x35 := ⟨_, ex35, rfl⟩
    have sx36 : q_is x36 (s0 (11 + Int.toNat li) 3) := tw_g hw0 hp0 (by omega) (by omega) ex36
    refine q_gX3_19 cx hB hv kv ex36 dX3_figure_48 (fun lb37 ub37 => ?_)
    refine q_iret cx hr hlk hB dX3_figure_51 ⟨by omega, by omega⟩ ?_
    exact ⟨rfl, (by have t0_ : x36 = s0 (11 + Int.toNat li) 3 := sx36; (try simp only [t0_]); unfold tw_lf; (repeat' split) <;> first | rfl | (exfalso; omega))⟩
  refine lv_tableOut (tgt := 52) cx.1 cx.2.1 dX3_figure_1 (by rw [q_toInt ⟨by omega, by omega⟩]; omega) (by decide) ?_
  refine q_ald_n cx dX3_figure_52 rfl (lv_at hl 0 rfl) ?_
  obtain ⟨x38, ex38⟩ : ∃ zz, q_is (q_z f v 4) zz := ⟨_, q_isr _⟩
  obtain ⟨lx38, ux38⟩ := q_isb ex38 (q_fib hB.2.1 hv kv (by decide) rfl)
  obtain ⟨x39, ex39, nx39⟩ : ∃ zz, q_is (q_z f v 4) zz ∧ zz = x38 := ⟨_, ex38, rfl⟩
  have sx39 : q_is x39 (s0 (11 + Int.toNat li) 4) := tw_g hw0 hp0 (by omega) (by omega) ex39
  refine q_gX3_22 cx hB hv kv ex39 dX3_figure_53 (fun lb40 ub40 => ?_)
  refine q_iret cx hr hlk hB dX3_figure_56 ⟨by omega, by omega⟩ ?_
  exact ⟨rfl, (by have t0_ : x39 = s0 (11 + Int.toNat li) 4 := sx39; (try simp only [t0_]); unfold tw_lf; (repeat' split) <;> first | rfl | (exfalso; omega))⟩
set_option maxHeartbeats 4000000 in
set_option maxRecDepth 100000 in
theorem f_figure27 (l : Launch) (g : q_G) {K : Nat → Nat} {L : List Nat} (hN : L.Nodup) {f : Nat → va_E} (hT : q_Ty g K L f) (d0 : Nat → Nat) (s0 : tw_S) (v : Nat) (hv : v ∈ L) (kv : K v = 4) (p0 : Int) (lp0 : 0 ≤ p0) (up0 : p0 ≤ 7) (v0 : Nat) (hv0 : v0 ∈ L) (kv0 : K v0 = 10) (n0 : Nat) (hn0 : n0 ∈ L) (kn0 : K n0 = 110) (l0 : Nat) (hl0 : l0 ∈ L) (kl0 : K l0 = 120) (m0 : Nat) (hm0 : m0 ∈ L) (km0 : K m0 = 130) (li : Int) (lli : 0 ≤ li) (uli : li ≤ 60) (hp0 : v = d0 (27 + Int.toNat li)) (hw0 : tw_vw K L 10 5 3 4 f v0 n0 l0 m0 d0 s0) : q_Ct l g K L yX4_figure cX4_figure 2 (some .int) 0 0 [.ref v, .int (q_i p0)] f [] (q_Pi (fun (z : Int) (f1 : Nat → va_E) => f = f1 ∧ (z = tw_mf s0 li p0))) := by
  refine q_ofb (by decide +kernel) hN hT (Nat.le_of_ble_eq_true rfl) ?_
  intro p e s m below meth c ls cx hr hlk hB hl
  have hl : lv_has ls 2 [(0, .ref v), (1, .int (q_i p0))] := hl
  obtain ⟨H, hH⟩ : ∃ H : Heap, H = s.heap := ⟨_, rfl⟩
  obtain ⟨locs, hlocs⟩ : ∃ z : List Loc, z = [] := ⟨_, rfl⟩
  rw [← hH, ← hlocs] at hB
  rw [← hH, ← hlocs]
  refine q_ild_n cx dX4_figure_0 rfl (lv_at hl 1 rfl) ?_
  by_cases c35 : p0 = 0
  · refine lv_tableIn (tgt := 44) cx.1 cx.2.1 dX4_figure_1 (by rw [q_toInt ⟨by omega, by omega⟩]; omega) (by rw [q_toInt ⟨by omega, by omega⟩]; omega) (off := 43) (by rw [q_toInt ⟨by omega, by omega⟩, c35]; rfl) (by decide) ?_
    refine q_ald_n cx dX4_figure_44 rfl (lv_at hl 0 rfl) ?_
    obtain ⟨x36, ex36⟩ : ∃ zz, q_is (q_z f v 0) zz := ⟨_, q_isr _⟩
    obtain ⟨lx36, ux36⟩ := q_isb ex36 (q_fib hB.2.1 hv kv (by decide) rfl)
    obtain ⟨x37, ex37, nx37⟩ : ∃ zz, q_is (q_z f v 0) zz ∧ zz = x36 := ⟨_, ex36, rfl⟩
    have sx37 : q_is x37 (s0 (27 + Int.toNat li) 0) := tw_g hw0 hp0 (by omega) (by omega) ex37
    refine q_gX4_7 cx hB hv kv ex37 dX4_figure_45 (fun lb38 ub38 => ?_)
    refine q_iret cx hr hlk hB dX4_figure_48 ⟨by omega, by omega⟩ ?_
    exact ⟨rfl, (by have t0_ : x37 = s0 (27 + Int.toNat li) 0 := sx37; (try simp only [t0_]); unfold tw_mf; (repeat' split) <;> first | rfl | (exfalso; omega))⟩
  by_cases c39 : p0 = 1
  · refine lv_tableIn (tgt := 49) cx.1 cx.2.1 dX4_figure_1 (by rw [q_toInt ⟨by omega, by omega⟩]; omega) (by rw [q_toInt ⟨by omega, by omega⟩]; omega) (off := 48) (by rw [q_toInt ⟨by omega, by omega⟩, c39]; rfl) (by decide) ?_
    refine q_ald_n cx dX4_figure_49 rfl (lv_at hl 0 rfl) ?_
    obtain ⟨x40, ex40⟩ : ∃ zz, q_is (q_z f v 1) zz := ⟨_, q_isr _⟩
    obtain ⟨lx40, ux40⟩ := q_isb ex40 (q_fib hB.2.1 hv kv (by decide) rfl)
    obtain ⟨x41, ex41, nx41⟩ : ∃ zz, q_is (q_z f v 1) zz ∧ zz = x40 := ⟨_, ex40, rfl⟩
    have sx41 : q_is x41 (s0 (27 + Int.toNat li) 1) := tw_g hw0 hp0 (by omega) (by omega) ex41
    refine q_gX4_13 cx hB hv kv ex41 dX4_figure_50 (fun lb42 ub42 => ?_)
    refine q_iret cx hr hlk hB dX4_figure_53 ⟨by omega, by omega⟩ ?_
    exact ⟨rfl, (by have t0_ : x41 = s0 (27 + Int.toNat li) 1 := sx41; (try simp only [t0_]); unfold tw_mf; (repeat' split) <;> first | rfl | (exfalso; omega))⟩
  by_cases c43 : p0 = 2
  · refine lv_tableIn (tgt := 54) cx.1 cx.2.1 dX4_figure_1 (by rw [q_toInt ⟨by omega, by omega⟩]; omega) (by rw [q_toInt ⟨by omega, by omega⟩]; omega) (off := 53) (by rw [q_toInt ⟨by omega, by omega⟩, c43]; rfl) (by decide) ?_
    refine q_ald_n cx dX4_figure_54 rfl (lv_at hl 0 rfl) ?_
    obtain ⟨x44, ex44⟩ : ∃ zz, q_is (q_z f v 2) zz := ⟨_, q_isr _⟩
    obtain ⟨lx44, ux44⟩ := q_isb ex44 (q_fib hB.2.1 hv kv (by decide) rfl)
    obtain ⟨x45, ex45, nx45⟩ : ∃ zz, q_is (q_z f v 2) zz ∧ zz = x44 := ⟨_, ex44, rfl⟩
    have sx45 : q_is x45 (s0 (27 + Int.toNat li) 2) := tw_g hw0 hp0 (by omega) (by omega) ex45
    refine q_gX4_16 cx hB hv kv ex45 dX4_figure_55 (fun lb46 ub46 => ?_)
    refine q_iret cx hr hlk hB dX4_figure_58 ⟨by omega, by omega⟩ ?_
    exact ⟨rfl, (by have t0_ : x45 = s0 (27 + Int.toNat li) 2 := sx45; (try simp only [t0_]); unfold tw_mf; (repeat' split) <;> first | rfl | (exfalso; omega))⟩
  by_cases c47 : p0 = 3
  · refine lv_tableIn (tgt := 59) cx.1 cx.2.1 dX4_figure_1 (by rw [q_toInt ⟨by omega, by omega⟩]; omega) (by rw [q_toInt ⟨by omega, by omega⟩]; omega) (off := 58) (by rw [q_toInt ⟨by omega, by omega⟩, c47]; rfl) (by decide) ?_
    refine q_ald_n cx dX4_figure_59 rfl (lv_at hl 0 rfl) ?_
    obtain ⟨x48, ex48⟩ : ∃ zz, q_is (q_z f v 3) zz := ⟨_, q_isr _⟩
    obtain ⟨lx48, ux48⟩ := q_isb ex48 (q_fib hB.2.1 hv kv (by decide) rfl)
    obtain ⟨x49, ex49, nx49⟩ : ∃ zz, q_is (q_z f v 3) zz ∧ zz = x48 := ⟨_, ex48, rfl⟩
    have sx49 : q_is x49 (s0 (27 + Int.toNat li) 3) := tw_g hw0 hp0 (by omega) (by omega) ex49
    refine q_gX4_19 cx hB hv kv ex49 dX4_figure_60 (fun lb50 ub50 => ?_)
    refine q_iret cx hr hlk hB dX4_figure_63 ⟨by omega, by omega⟩ ?_
    exact ⟨rfl, (by have t0_ : x49 = s0 (27 + Int.toNat li) 3 := sx49; (try simp only [t0_]); unfold tw_mf; (repeat' split) <;> first | rfl | (exfalso; omega))⟩
  by_cases c51 : p0 = 4
  · refine lv_tableIn (tgt := 64) cx.1 cx.2.1 dX4_figure_1 (by rw [q_toInt ⟨by omega, by omega⟩]; omega) (by rw [q_toInt ⟨by omega, by omega⟩]; omega) (off := 63) (by rw [q_toInt ⟨by omega, by omega⟩, c51]; rfl) (by decide) ?_
    refine q_ald_n cx dX4_figure_64 rfl (lv_at hl 0 rfl) ?_
    obtain ⟨x52, ex52⟩ : ∃ zz, q_is (q_z f v 4) zz := ⟨_, q_isr _⟩
    obtain ⟨lx52, ux52⟩ := q_isb ex52 (q_fib hB.2.1 hv kv (by decide) rfl)
    obtain ⟨x53, ex53, nx53⟩ : ∃ zz, q_is (q_z f v 4) zz ∧ zz = x52 := ⟨_, ex52, rfl⟩
    have sx53 : q_is x53 (s0 (27 + Int.toNat li) 4) := tw_g hw0 hp0 (by omega) (by omega) ex53
    refine q_gX4_22 cx hB hv kv ex53 dX4_figure_65 (fun lb54 ub54 => ?_)
    refine q_iret cx hr hlk hB dX4_figure_68 ⟨by omega, by omega⟩ ?_
    exact ⟨rfl, (by have t0_ : x53 = s0 (27 + Int.toNat li) 4 := sx53; (try simp only [t0_]); unfold tw_mf; (repeat' split) <;> first | rfl | (exfalso; omega))⟩
  by_cases c55 : p0 = 5
  · refine lv_tableIn (tgt := 69) cx.1 cx.2.1 dX4_figure_1 (by rw [q_toInt ⟨by omega, by omega⟩]; omega) (by rw [q_toInt ⟨by omega, by omega⟩]; omega) (off := 68) (by rw [q_toInt ⟨by omega, by omega⟩, c55]; rfl) (by decide) ?_
    refine q_ald_n cx dX4_figure_69 rfl (lv_at hl 0 rfl) ?_
    obtain ⟨x56, ex56⟩ : ∃ zz, q_is (q_z f v 7) zz := ⟨_, q_isr _⟩
    obtain ⟨lx56, ux56⟩ := q_isb ex56 (q_fib hB.2.1 hv kv (by decide) rfl)
    obtain ⟨x57, ex57, nx57⟩ : ∃ zz, q_is (q_z f v 7) zz ∧ zz = x56 := ⟨_, ex56, rfl⟩
    have sx57 : q_is x57 (s0 (27 + Int.toNat li) 7) := tw_g hw0 hp0 (by omega) (by omega) ex57
    refine q_gX4_31 cx hB hv kv ex57 dX4_figure_70 (fun lb58 ub58 => ?_)
    refine q_ifeq (tgt := 80) cx ⟨by omega, by omega⟩ dX4_figure_73 (by decide) (fun c59 => ?_) (fun c59 => ?_)
    · refine q_iconst cx dX4_figure_80 ?_
      refine q_iret cx hr hlk hB dX4_figure_81 ⟨by decide, by decide⟩ ?_
      exact ⟨rfl, (by have t0_ : x57 = s0 (27 + Int.toNat li) 7 := sx57; (try simp only [t0_]); unfold tw_mf; (repeat' split) <;> first | rfl | (exfalso; omega))⟩
    · refine q_iconst cx dX4_figure_76 ?_
      refine lv_goto (tgt := 81) cx.1 cx.2.1 dX4_figure_77 (by decide) ?_
      refine q_iret cx hr hlk hB dX4_figure_81 ⟨by decide, by decide⟩ ?_
      exact ⟨rfl, (by have t0_ : x57 = s0 (27 + Int.toNat li) 7 := sx57; (try simp only [t0_]); unfold tw_mf; (repeat' split) <;> first | rfl | (exfalso; omega))⟩
  by_cases c60 : p0 = 6
  · refine lv_tableIn (tgt := 82) cx.1 cx.2.1 dX4_figure_1 (by rw [q_toInt ⟨by omega, by omega⟩]; omega) (by rw [q_toInt ⟨by omega, by omega⟩]; omega) (off := 81) (by rw [q_toInt ⟨by omega, by omega⟩, c60]; rfl) (by decide) ?_
    refine q_ald_n cx dX4_figure_82 rfl (lv_at hl 0 rfl) ?_
    obtain ⟨x61, ex61⟩ : ∃ zz, q_is (q_z f v 5) zz := ⟨_, q_isr _⟩
    obtain ⟨lx61, ux61⟩ := q_isb ex61 (q_fib hB.2.1 hv kv (by decide) rfl)
    obtain ⟨x62, ex62, nx62⟩ : ∃ zz, q_is (q_z f v 5) zz ∧ zz = x61 := ⟨_, ex61, rfl⟩
    have sx62 : q_is x62 (s0 (27 + Int.toNat li) 5) := tw_g hw0 hp0 (by omega) (by omega) ex62
    refine q_gX4_25 cx hB hv kv ex62 dX4_figure_83 (fun lb63 ub63 => ?_)
    refine q_iret cx hr hlk hB dX4_figure_86 ⟨by omega, by omega⟩ ?_
    exact ⟨rfl, (by have t0_ : x62 = s0 (27 + Int.toNat li) 5 := sx62; (try simp only [t0_]); unfold tw_mf; (repeat' split) <;> first | rfl | (exfalso; omega))⟩
  refine lv_tableOut (tgt := 87) cx.1 cx.2.1 dX4_figure_1 (by rw [q_toInt ⟨by omega, by omega⟩]; omega) (by decide) ?_
  refine q_ald_n cx dX4_figure_87 rfl (lv_at hl 0 rfl) ?_
  obtain ⟨x64, ex64⟩ : ∃ zz, q_is (q_z f v 6) zz := ⟨_, q_isr _⟩
  obtain ⟨lx64, ux64⟩ := q_isb ex64 (q_fib hB.2.1 hv kv (by decide) rfl)
  obtain ⟨x65, ex65, nx65⟩ : ∃ zz, q_is (q_z f v 6) zz ∧ zz = x64 := ⟨_, ex64, rfl⟩
  have sx65 : q_is x65 (s0 (27 + Int.toNat li) 6) := tw_g hw0 hp0 (by omega) (by omega) ex65
  refine q_gX4_28 cx hB hv kv ex65 dX4_figure_88 (fun lb66 ub66 => ?_)
  refine q_iret cx hr hlk hB dX4_figure_91 ⟨by omega, by omega⟩ ?_
  exact ⟨rfl, (by have t0_ : x65 = s0 (27 + Int.toNat li) 6 := sx65; (try simp only [t0_]); unfold tw_mf; (repeat' split) <;> first | rfl | (exfalso; omega))⟩
set_option maxHeartbeats 4000000 in
set_option maxRecDepth 100000 in
theorem f_vfigure (l : Launch) (g : q_G) {K : Nat → Nat} {L : List Nat} (hN : L.Nodup) {f : Nat → va_E} (hT : q_Ty g K L f) (d0 : Nat → Nat) (s0 : tw_S) (v0 : Nat) (hv0 : v0 ∈ L) (kv0 : K v0 = 10) (p0 : Int) (lp0 : 0 ≤ p0) (up0 : p0 ≤ 9) (n0 : Nat) (hn0 : n0 ∈ L) (kn0 : K n0 = 110) (l0 : Nat) (hl0 : l0 ∈ L) (kl0 : K l0 = 120) (m0 : Nat) (hm0 : m0 ∈ L) (km0 : K m0 = 130) (tm : Int) (ltm : 0 ≤ tm) (utm : tm ≤ 20000) (nn : Int) (lnn : 0 ≤ nn) (unn : nn ≤ 10) (mn : Int) (lmn : 0 ≤ mn) (umn : mn ≤ 61) (hf0 : q_is (q_z f v0 11) tm) (hf1 : q_is (q_z f v0 3) nn) (hf2 : q_is (q_z f v0 5) mn) (hr0 : q_ir (q_r f v0 0) n0) (hr1 : q_ir (q_r f v0 1) l0) (hr2 : q_ir (q_r f v0 2) m0) (hw0 : tw_vw K L 10 5 3 4 f v0 n0 l0 m0 d0 s0) (hz0 : tw_nw K L 5 f) : q_Ct l g K L yX10_figure cX10_figure 2 (some .int) 2 44 [.ref v0, .int (q_i p0)] f [] (q_Pi (fun (z : Int) (f1 : Nat → va_E) => f = f1 ∧ (z = tw_vf s0 p0))) := by
  refine q_ofb (by decide +kernel) hN hT (Nat.le_of_ble_eq_true rfl) ?_
  intro p e s m below meth c ls cx hr hlk hB hl
  have hl : lv_has ls 2 [(0, .ref v0), (1, .int (q_i p0))] := hl
  obtain ⟨H, hH⟩ : ∃ H : Heap, H = s.heap := ⟨_, rfl⟩
  obtain ⟨locs, hlocs⟩ : ∃ z : List Loc, z = [] := ⟨_, rfl⟩
  rw [← hH, ← hlocs] at hB
  rw [← hH, ← hlocs]
  refine q_ild_n cx dX10_figure_0 rfl (lv_at hl 1 rfl) ?_
  by_cases c47 : p0 = 0
  · refine lv_tableIn (tgt := 52) cx.1 cx.2.1 dX10_figure_1 (by rw [q_toInt ⟨by omega, by omega⟩]; omega) (by rw [q_toInt ⟨by omega, by omega⟩]; omega) (off := 51) (by rw [q_toInt ⟨by omega, by omega⟩, c47]; rfl) (by decide) ?_
    refine q_ald_n cx dX10_figure_52 rfl (lv_at hl 0 rfl) ?_
    obtain ⟨x48, ex48, nx48⟩ : ∃ zz, q_is (q_z f v0 3) zz ∧ zz = nn := ⟨_, hf1, rfl⟩
    have sx48 : q_is x48 (s0 0 3) := tw_g hw0 (tw_v0 hw0) (by omega) (by omega) ex48
    refine q_gX10_35 cx hB hv0 kv0 ex48 dX10_figure_53 (fun lb49 ub49 => ?_)
    refine q_iret cx hr hlk hB dX10_figure_56 ⟨by omega, by omega⟩ ?_
    exact ⟨rfl, (by have t0_ : x48 = s0 0 3 := sx48; (try simp only [t0_]); unfold tw_vf; (repeat' split) <;> first | rfl | (exfalso; omega))⟩
  by_cases c50 : p0 = 1
  · refine lv_tableIn (tgt := 57) cx.1 cx.2.1 dX10_figure_1 (by rw [q_toInt ⟨by omega, by omega⟩]; omega) (by rw [q_toInt ⟨by omega, by omega⟩]; omega) (off := 56) (by rw [q_toInt ⟨by omega, by omega⟩, c50]; rfl) (by decide) ?_
    refine q_ald_n cx dX10_figure_57 rfl (lv_at hl 0 rfl) ?_
    obtain ⟨x51, ex51⟩ : ∃ zz, q_is (q_z f v0 4) zz := ⟨_, q_isr _⟩
    obtain ⟨lx51, ux51⟩ := q_isb ex51 (q_fib hB.2.1 hv0 kv0 (by decide) rfl)
    obtain ⟨x52, ex52, nx52⟩ : ∃ zz, q_is (q_z f v0 4) zz ∧ zz = x51 := ⟨_, ex51, rfl⟩
    have sx52 : q_is x52 (s0 0 4) := tw_g hw0 (tw_v0 hw0) (by omega) (by omega) ex52
    refine q_gX10_39 cx hB hv0 kv0 ex52 dX10_figure_58 (fun lb53 ub53 => ?_)
    refine q_iret cx hr hlk hB dX10_figure_61 ⟨by omega, by omega⟩ ?_
    exact ⟨rfl, (by have t0_ : x52 = s0 0 4 := sx52; (try simp only [t0_]); unfold tw_vf; (repeat' split) <;> first | rfl | (exfalso; omega))⟩
  by_cases c54 : p0 = 2
  · refine lv_tableIn (tgt := 62) cx.1 cx.2.1 dX10_figure_1 (by rw [q_toInt ⟨by omega, by omega⟩]; omega) (by rw [q_toInt ⟨by omega, by omega⟩]; omega) (off := 61) (by rw [q_toInt ⟨by omega, by omega⟩, c54]; rfl) (by decide) ?_
    refine q_ald_n cx dX10_figure_62 rfl (lv_at hl 0 rfl) ?_
    obtain ⟨x55, ex55⟩ : ∃ zz, q_is (q_z f v0 6) zz := ⟨_, q_isr _⟩
    obtain ⟨lx55, ux55⟩ := q_isb ex55 (q_fib hB.2.1 hv0 kv0 (by decide) rfl)
    obtain ⟨x56, ex56, nx56⟩ : ∃ zz, q_is (q_z f v0 6) zz ∧ zz = x55 := ⟨_, ex55, rfl⟩
    have sx56 : q_is x56 (s0 0 6) := tw_g hw0 (tw_v0 hw0) (by omega) (by omega) ex56
    refine q_gX10_45 cx hB hv0 kv0 ex56 dX10_figure_63 (fun lb57 ub57 => ?_)
    refine q_iret cx hr hlk hB dX10_figure_66 ⟨by omega, by omega⟩ ?_
    exact ⟨rfl, (by have t0_ : x56 = s0 0 6 := sx56; (try simp only [t0_]); unfold tw_vf; (repeat' split) <;> first | rfl | (exfalso; omega))⟩
  by_cases c58 : p0 = 3
  · refine lv_tableIn (tgt := 67) cx.1 cx.2.1 dX10_figure_1 (by rw [q_toInt ⟨by omega, by omega⟩]; omega) (by rw [q_toInt ⟨by omega, by omega⟩]; omega) (off := 66) (by rw [q_toInt ⟨by omega, by omega⟩, c58]; rfl) (by decide) ?_
    refine q_ald_n cx dX10_figure_67 rfl (lv_at hl 0 rfl) ?_
    obtain ⟨x59, ex59, nx59⟩ : ∃ zz, q_is (q_z f v0 11) zz ∧ zz = tm := ⟨_, hf0, rfl⟩
    have sx59 : q_is x59 (s0 0 11) := tw_g hw0 (tw_v0 hw0) (by omega) (by omega) ex59
    refine q_gX10_60 cx hB hv0 kv0 ex59 dX10_figure_68 (fun lb60 ub60 => ?_)
    refine q_iret cx hr hlk hB dX10_figure_71 ⟨by omega, by omega⟩ ?_
    exact ⟨rfl, (by have t0_ : x59 = s0 0 11 := sx59; (try simp only [t0_]); unfold tw_vf; (repeat' split) <;> first | rfl | (exfalso; omega))⟩
  by_cases c61 : p0 = 4
  · refine lv_tableIn (tgt := 72) cx.1 cx.2.1 dX10_figure_1 (by rw [q_toInt ⟨by omega, by omega⟩]; omega) (by rw [q_toInt ⟨by omega, by omega⟩]; omega) (off := 71) (by rw [q_toInt ⟨by omega, by omega⟩, c61]; rfl) (by decide) ?_
    refine q_ald_n cx dX10_figure_72 rfl (lv_at hl 0 rfl) ?_
    obtain ⟨x62, ex62, nx62⟩ : ∃ zz, q_is (q_z f v0 5) zz ∧ zz = mn := ⟨_, hf2, rfl⟩
    have sx62 : q_is x62 (s0 0 5) := tw_g hw0 (tw_v0 hw0) (by omega) (by omega) ex62
    refine q_gX10_42 cx hB hv0 kv0 ex62 dX10_figure_73 (fun lb63 ub63 => ?_)
    refine q_iret cx hr hlk hB dX10_figure_76 ⟨by omega, by omega⟩ ?_
    exact ⟨rfl, (by have t0_ : x62 = s0 0 5 := sx62; (try simp only [t0_]); unfold tw_vf; (repeat' split) <;> first | rfl | (exfalso; omega))⟩
  by_cases c64 : p0 = 5
  · refine lv_tableIn (tgt := 77) cx.1 cx.2.1 dX10_figure_1 (by rw [q_toInt ⟨by omega, by omega⟩]; omega) (by rw [q_toInt ⟨by omega, by omega⟩]; omega) (off := 76) (by rw [q_toInt ⟨by omega, by omega⟩, c64]; rfl) (by decide) ?_
    refine q_ald_n cx dX10_figure_77 rfl (lv_at hl 0 rfl) ?_
    refine q_iconst cx dX10_figure_78 ?_
    refine q_cVi (As := [.int (q_i 1)]) (rest := []) cx hB (fun _ h => h) hN hv0 kv0 (by decide) rfl (f_messagesInState0 l g hN hB.2.1 d0 s0 v0 hv0 kv0 1 (by decide) (by decide) n0 hn0 kn0 l0 hl0 kl0 m0 hm0 km0 mn (by omega) (by omega) hf2 hr0 hr1 hr2 hw0) q_cX10_188 q_dX10_messagesInState (by decide) rfl rfl hl.1 rfl (Nat.le_of_ble_eq_true rfl) dX10_figure_79 (fun y66 H locs f65 ry66 h67 hF hB => ?_)
    obtain ⟨rfl, ly66, uy66, t68⟩ := h67
    refine q_iret cx hr hlk hB dX10_figure_82 ⟨by omega, by omega⟩ ?_
    exact ⟨rfl, (by have t0_ : y66 = tw_isl s0 1 (Int.toNat (s0 0 5)) := t68; (try simp only [t0_]); unfold tw_vf; (repeat' split) <;> first | rfl | (exfalso; omega))⟩
  by_cases c69 : p0 = 6
  · refine lv_tableIn (tgt := 83) cx.1 cx.2.1 dX10_figure_1 (by rw [q_toInt ⟨by omega, by omega⟩]; omega) (by rw [q_toInt ⟨by omega, by omega⟩]; omega) (off := 82) (by rw [q_toInt ⟨by omega, by omega⟩, c69]; rfl) (by decide) ?_
    refine q_ald_n cx dX10_figure_83 rfl (lv_at hl 0 rfl) ?_
    refine q_cVi (As := []) (rest := []) cx hB (fun _ h => h) hN hv0 kv0 (by decide) rfl (f_messagesInTime0 l g hN hB.2.1 d0 s0 v0 hv0 kv0 n0 hn0 kn0 l0 hl0 kl0 m0 hm0 km0 mn (by omega) (by omega) hf2 hr0 hr1 hr2 hw0) q_cX10_191 q_dX10_messagesInTime (by decide) rfl rfl hl.1 rfl (Nat.le_of_ble_eq_true rfl) dX10_figure_84 (fun y71 H locs f70 ry71 h72 hF hB => ?_)
    obtain ⟨rfl, ly71, uy71, t73⟩ := h72
    refine q_iret cx hr hlk hB dX10_figure_87 ⟨by omega, by omega⟩ ?_
    exact ⟨rfl, (by have t0_ : y71 = tw_itl s0 (Int.toNat (s0 0 5)) := t73; (try simp only [t0_]); unfold tw_vf; (repeat' split) <;> first | rfl | (exfalso; omega))⟩
  by_cases c74 : p0 = 7
  · refine lv_tableIn (tgt := 88) cx.1 cx.2.1 dX10_figure_1 (by rw [q_toInt ⟨by omega, by omega⟩]; omega) (by rw [q_toInt ⟨by omega, by omega⟩]; omega) (off := 87) (by rw [q_toInt ⟨by omega, by omega⟩, c74]; rfl) (by decide) ?_
    refine q_ald_n cx dX10_figure_88 rfl (lv_at hl 0 rfl) ?_
    refine q_iconst cx dX10_figure_89 ?_
    refine q_cVi (As := [.int (q_i 2)]) (rest := []) cx hB (fun _ h => h) hN hv0 kv0 (by decide) rfl (f_messagesInState0 l g hN hB.2.1 d0 s0 v0 hv0 kv0 2 (by decide) (by decide) n0 hn0 kn0 l0 hl0 kl0 m0 hm0 km0 mn (by omega) (by omega) hf2 hr0 hr1 hr2 hw0) q_cX10_188 q_dX10_messagesInState (by decide) rfl rfl hl.1 rfl (Nat.le_of_ble_eq_true rfl) dX10_figure_90 (fun y76 H locs f75 ry76 h77 hF hB => ?_)
    obtain ⟨rfl, ly76, uy76, t78⟩ := h77
    refine q_iret cx hr hlk hB dX10_figure_93 ⟨by omega, by omega⟩ ?_
    exact ⟨rfl, (by have t0_ : y76 = tw_isl s0 2 (Int.toNat (s0 0 5)) := t78; (try simp only [t0_]); unfold tw_vf; (repeat' split) <;> first | rfl | (exfalso; omega))⟩
  by_cases c79 : p0 = 8
  · refine lv_tableIn (tgt := 94) cx.1 cx.2.1 dX10_figure_1 (by rw [q_toInt ⟨by omega, by omega⟩]; omega) (by rw [q_toInt ⟨by omega, by omega⟩]; omega) (off := 93) (by rw [q_toInt ⟨by omega, by omega⟩, c79]; rfl) (by decide) ?_
    refine q_ald_n cx dX10_figure_94 rfl (lv_at hl 0 rfl) ?_
    refine q_cVi (As := []) (rest := []) cx hB (fun _ h => h) hN hv0 kv0 (by decide) rfl (f_notOut0 l g hN hB.2.1 d0 s0 v0 hv0 kv0 n0 hn0 kn0 l0 hl0 kl0 m0 hm0 km0 nn (by omega) (by omega) hf1 hr0 hr1 hr2 hw0) q_cX10_195 q_dX10_notOut (by decide) rfl rfl hl.1 rfl (Nat.le_of_ble_eq_true rfl) dX10_figure_95 (fun y81 H locs f80 ry81 h82 hF hB => ?_)
    obtain ⟨rfl, t83⟩ := h82
    refine q_cSi (As := [.int (q_i y81)]) (rest := []) cx hB (fun _ h => h) hN (f_ibits l g hN hB.2.1 y81 (by omega) (by omega)) q_cX10_198 q_dJ6_bitCount_0f7a4 (by decide) rfl rfl hl.1 rfl (Nat.le_of_ble_eq_true rfl) dX10_figure_98 (fun y85 H locs f84 ry85 h86 hF hB => ?_)
    obtain ⟨rfl, ly85, uy85, t87⟩ := h86
    refine q_iret cx hr hlk hB dX10_figure_101 ⟨by omega, by omega⟩ ?_
    exact ⟨rfl, (by have t0_ : y81 = tw_no s0 := t83; have t1_ : y85 = tw_bi (tw_no s0) := Eq.trans t87 (by simp only [t0_]); (try simp only [t0_, t1_]); unfold tw_vf; (repeat' split) <;> first | rfl | (exfalso; omega))⟩
  refine lv_tableOut (tgt := 102) cx.1 cx.2.1 dX10_figure_1 (by rw [q_toInt ⟨by omega, by omega⟩]; omega) (by decide) ?_
  refine q_ald_n cx dX10_figure_102 rfl (lv_at hl 0 rfl) ?_
  obtain ⟨x88, ex88⟩ : ∃ zz, q_is (q_z f v0 12) zz := ⟨_, q_isr _⟩
  obtain ⟨lx88, ux88⟩ := q_isb ex88 (q_fib hB.2.1 hv0 kv0 (by decide) rfl)
  obtain ⟨x89, ex89, nx89⟩ : ∃ zz, q_is (q_z f v0 12) zz ∧ zz = x88 := ⟨_, ex88, rfl⟩
  have sx89 : q_is x89 (s0 0 12) := tw_g hw0 (tw_v0 hw0) (by omega) (by omega) ex89
  refine q_gX10_63 cx hB hv0 kv0 ex89 dX10_figure_103 (fun lb90 ub90 => ?_)
  refine q_iret cx hr hlk hB dX10_figure_106 ⟨by omega, by omega⟩ ?_
  exact ⟨rfl, (by have t0_ : x89 = s0 0 12 := sx89; (try simp only [t0_]); unfold tw_vf; (repeat' split) <;> first | rfl | (exfalso; omega))⟩
set_option maxHeartbeats 4000000 in
set_option maxRecDepth 100000 in
theorem f_nodeFigure (l : Launch) (g : q_G) {K : Nat → Nat} {L : List Nat} (hN : L.Nodup) {f : Nat → va_E} (hT : q_Ty g K L f) (d0 : Nat → Nat) (s0 : tw_S) (v0 : Nat) (hv0 : v0 ∈ L) (kv0 : K v0 = 10) (p0 : Int) (lp0 : 0 ≤ p0) (up0 : p0 ≤ 9) (p1 : Int) (lp1 : 0 ≤ p1) (up1 : p1 ≤ 10) (n0 : Nat) (hn0 : n0 ∈ L) (kn0 : K n0 = 110) (l0 : Nat) (hl0 : l0 ∈ L) (kl0 : K l0 = 120) (m0 : Nat) (hm0 : m0 ∈ L) (km0 : K m0 = 130) (tm : Int) (ltm : 0 ≤ tm) (utm : tm ≤ 20000) (nn : Int) (lnn : 0 ≤ nn) (unn : nn ≤ 10) (mn : Int) (lmn : 0 ≤ mn) (umn : mn ≤ 61) (hf0 : q_is (q_z f v0 11) tm) (hf1 : q_is (q_z f v0 3) nn) (hf2 : q_is (q_z f v0 5) mn) (hr0 : q_ir (q_r f v0 0) n0) (hr1 : q_ir (q_r f v0 1) l0) (hr2 : q_ir (q_r f v0 2) m0) (hw0 : tw_vw K L 10 5 3 4 f v0 n0 l0 m0 d0 s0) (hz0 : tw_nw K L 5 f) : q_Ct l g K L yX10_nodeFigure cX10_nodeFigure 4 (some .int) 3 67 [.ref v0, .int (q_i p0), .int (q_i p1)] f [] (q_Pi (fun (z : Int) (f1 : Nat → va_E) => f = f1 ∧ (z = tw_nf s0 p0 p1))) := by
  refine q_ofb (by decide +kernel) hN hT (Nat.le_of_ble_eq_true rfl) ?_
  intro p e s m below meth c ls cx hr hlk hB hl
  have hl : lv_has ls 4 [(0, .ref v0), (1, .int (q_i p0)), (2, .int (q_i p1))] := hl
  obtain ⟨H, hH⟩ : ∃ H : Heap, H = s.heap := ⟨_, rfl⟩
  obtain ⟨locs, hlocs⟩ : ∃ z : List Loc, z = [] := ⟨_, rfl⟩
  rw [← hH, ← hlocs] at hB
  rw [← hH, ← hlocs]
  refine q_ald_n cx dX10_nodeFigure_0 rfl (lv_at hl 0 rfl) ?_
  refine q_ild_n cx dX10_nodeFigure_1 rfl (lv_at hl 1 rfl) ?_
  refine q_cVr (As := [.int (q_i p0)]) (rest := []) cx hB (fun _ h => h) hN hv0 kv0 (by decide) rfl (f_nodeAt0 l g hN hB.2.1 d0 s0 v0 hv0 kv0 p0 (by omega) (by omega) n0 hn0 kn0 l0 hl0 kl0 m0 hm0 km0 hr0 hr1 hr2 hw0) q_cX10_66 q_dX10_nodeAt (by decide) rfl rfl hl.1 rfl (Nat.le_of_ble_eq_true rfl) dX10_nodeFigure_2 (fun y63 H locs f62 h64 hF hB => ?_)
  obtain ⟨rfl, hy63, ky63, t65⟩ := h64
  refine lv_astore_n (lv' := [(3, .ref y63), (0, .ref v0), (1, .int (q_i p0)), (2, .int (q_i p1))]) cx.1 cx.2.1 dX10_nodeFigure_5 rfl hl (by decide) rfl (fun ls hl => ?_)
  refine q_ild_n cx dX10_nodeFigure_6 rfl (lv_at hl 3 rfl) ?_
  by_cases c67 : p1 = 0
  · refine lv_tableIn (tgt := 60) cx.1 cx.2.1 dX10_nodeFigure_7 (by rw [q_toInt ⟨by omega, by omega⟩]; omega) (by rw [q_toInt ⟨by omega, by omega⟩]; omega) (off := 53) (by rw [q_toInt ⟨by omega, by omega⟩, c67]; rfl) (by decide) ?_
    refine q_ald_n cx dX10_nodeFigure_60 rfl (lv_at hl 0 rfl) ?_
    obtain ⟨x68, ex68⟩ : ∃ zz, q_is (q_z f y63 2) zz := ⟨_, q_isr _⟩
    obtain ⟨lx68, ux68⟩ := q_isb ex68 (q_fib hB.2.1 hy63 ky63 (by decide) rfl)
    obtain ⟨x69, ex69, nx69⟩ : ∃ zz, q_is (q_z f y63 2) zz ∧ zz = x68 := ⟨_, ex68, rfl⟩
    have sx69 : q_is x69 (s0 (1 + Int.toNat p0) 2) := tw_g hw0 t65 (by omega) (by omega) ex69
    refine q_gX10_95 cx hB hy63 ky63 ex69 dX10_nodeFigure_61 (fun lb70 ub70 => ?_)
    refine q_iret cx hr hlk hB dX10_nodeFigure_64 ⟨by omega, by omega⟩ ?_
    exact ⟨rfl, (by have t0_ : x69 = s0 (1 + Int.toNat p0) 2 := sx69; (try simp only [t0_]); unfold tw_nf; (repeat' split) <;> first | rfl | (exfalso; omega))⟩
  by_cases c71 : p1 = 1
  · refine lv_tableIn (tgt := 65) cx.1 cx.2.1 dX10_nodeFigure_7 (by rw [q_toInt ⟨by omega, by omega⟩]; omega) (by rw [q_toInt ⟨by omega, by omega⟩]; omega) (off := 58) (by rw [q_toInt ⟨by omega, by omega⟩, c71]; rfl) (by decide) ?_
    refine q_ald_n cx dX10_nodeFigure_65 rfl (lv_at hl 0 rfl) ?_
    obtain ⟨x72, ex72⟩ : ∃ zz, q_is (q_z f y63 3) zz := ⟨_, q_isr _⟩
    obtain ⟨lx72, ux72⟩ := q_isb ex72 (q_fib hB.2.1 hy63 ky63 (by decide) rfl)
    obtain ⟨x73, ex73, nx73⟩ : ∃ zz, q_is (q_z f y63 3) zz ∧ zz = x72 := ⟨_, ex72, rfl⟩
    have sx73 : q_is x73 (s0 (1 + Int.toNat p0) 3) := tw_g hw0 t65 (by omega) (by omega) ex73
    refine q_gX10_98 cx hB hy63 ky63 ex73 dX10_nodeFigure_66 (fun lb74 ub74 => ?_)
    refine q_iret cx hr hlk hB dX10_nodeFigure_69 ⟨by omega, by omega⟩ ?_
    exact ⟨rfl, (by have t0_ : x73 = s0 (1 + Int.toNat p0) 3 := sx73; (try simp only [t0_]); unfold tw_nf; (repeat' split) <;> first | rfl | (exfalso; omega))⟩
  by_cases c75 : p1 = 2
  · refine lv_tableIn (tgt := 70) cx.1 cx.2.1 dX10_nodeFigure_7 (by rw [q_toInt ⟨by omega, by omega⟩]; omega) (by rw [q_toInt ⟨by omega, by omega⟩]; omega) (off := 63) (by rw [q_toInt ⟨by omega, by omega⟩, c75]; rfl) (by decide) ?_
    refine q_ald_n cx dX10_nodeFigure_70 rfl (lv_at hl 0 rfl) ?_
    obtain ⟨x76, ex76⟩ : ∃ zz, q_is (q_z f y63 4) zz := ⟨_, q_isr _⟩
    obtain ⟨lx76, ux76⟩ := q_isb ex76 (q_fib hB.2.1 hy63 ky63 (by decide) rfl)
    obtain ⟨x77, ex77, nx77⟩ : ∃ zz, q_is (q_z f y63 4) zz ∧ zz = x76 := ⟨_, ex76, rfl⟩
    have sx77 : q_is x77 (s0 (1 + Int.toNat p0) 4) := tw_g hw0 t65 (by omega) (by omega) ex77
    refine q_gX10_101 cx hB hy63 ky63 ex77 dX10_nodeFigure_71 (fun lb78 ub78 => ?_)
    refine q_iret cx hr hlk hB dX10_nodeFigure_74 ⟨by omega, by omega⟩ ?_
    exact ⟨rfl, (by have t0_ : x77 = s0 (1 + Int.toNat p0) 4 := sx77; (try simp only [t0_]); unfold tw_nf; (repeat' split) <;> first | rfl | (exfalso; omega))⟩
  by_cases c79 : p1 = 3
  · refine lv_tableIn (tgt := 75) cx.1 cx.2.1 dX10_nodeFigure_7 (by rw [q_toInt ⟨by omega, by omega⟩]; omega) (by rw [q_toInt ⟨by omega, by omega⟩]; omega) (off := 68) (by rw [q_toInt ⟨by omega, by omega⟩, c79]; rfl) (by decide) ?_
    refine q_ald_n cx dX10_nodeFigure_75 rfl (lv_at hl 1 rfl) ?_
    refine q_ild_n cx dX10_nodeFigure_76 rfl (lv_at hl 2 rfl) ?_
    refine q_cVi (As := [.int (q_i p0)]) (rest := []) cx hB (fun _ h => h) hN hv0 kv0 (by decide) rfl (f_dayOf0 l g hN hB.2.1 d0 s0 v0 hv0 kv0 p0 (by omega) (by omega) n0 hn0 kn0 l0 hl0 kl0 m0 hm0 km0 tm (by omega) (by omega) hf0 hr0 hr1 hr2 hw0) q_cX10_178 q_dX10_dayOf (by decide) rfl rfl hl.1 rfl (Nat.le_of_ble_eq_true rfl) dX10_nodeFigure_77 (fun y81 H locs f80 ry81 h82 hF hB => ?_)
    obtain ⟨rfl, ly81, uy81, t83⟩ := h82
    refine q_iret cx hr hlk hB dX10_nodeFigure_80 ⟨by omega, by omega⟩ ?_
    exact ⟨rfl, (by have t0_ : y81 = tw_do s0 p0 := t83; (try simp only [t0_]); unfold tw_nf; (repeat' split) <;> first | rfl | (exfalso; omega))⟩
  by_cases c84 : p1 = 4
  · refine lv_tableIn (tgt := 81) cx.1 cx.2.1 dX10_nodeFigure_7 (by rw [q_toInt ⟨by omega, by omega⟩]; omega) (by rw [q_toInt ⟨by omega, by omega⟩]; omega) (off := 74) (by rw [q_toInt ⟨by omega, by omega⟩, c84]; rfl) (by decide) ?_
    refine q_ald_n cx dX10_nodeFigure_81 rfl (lv_at hl 1 rfl) ?_
    refine q_ild_n cx dX10_nodeFigure_82 rfl (lv_at hl 2 rfl) ?_
    refine q_cVi (As := [.int (q_i p0)]) (rest := []) cx hB (fun _ h => h) hN hv0 kv0 (by decide) rfl (f_isAwake0 l g hN hB.2.1 d0 s0 v0 hv0 kv0 p0 (by omega) (by omega) n0 hn0 kn0 l0 hl0 kl0 m0 hm0 km0 tm (by omega) (by omega) nn (by omega) (by omega) hf0 hf1 hr0 hr1 hr2 hw0 hz0) q_cX10_203 q_dX10_isAwake (by decide) rfl rfl hl.1 rfl (Nat.le_of_ble_eq_true rfl) dX10_nodeFigure_83 (fun y86 H locs f85 ry86 h87 hF hB => ?_)
    rcases h87 with h88 | h89
    · obtain ⟨rfl, qy86, t90⟩ := h88
      subst qy86
      refine q_ifeq (tgt := 93) cx ⟨by decide, by decide⟩ dX10_nodeFigure_86 (by decide) (fun c91 => ?_) (fun c91 => ?_)
      · exact absurd c91 (by omega)
      · refine q_iconst cx dX10_nodeFigure_89 ?_
        refine lv_goto (tgt := 94) cx.1 cx.2.1 dX10_nodeFigure_90 (by decide) ?_
        refine q_iret cx hr hlk hB dX10_nodeFigure_94 ⟨by decide, by decide⟩ ?_
        exact ⟨rfl, (by have u0_ : tw_aw s0 p0 = 1 := t90; unfold tw_nf; (repeat' split) <;> first | rfl | (exfalso; omega))⟩
    · obtain ⟨rfl, qy86, t92⟩ := h89
      subst qy86
      refine q_ifeq (tgt := 93) cx ⟨by decide, by decide⟩ dX10_nodeFigure_86 (by decide) (fun c93 => ?_) (fun c93 => ?_)
      · refine q_iconst cx dX10_nodeFigure_93 ?_
        refine q_iret cx hr hlk hB dX10_nodeFigure_94 ⟨by decide, by decide⟩ ?_
        exact ⟨rfl, (by have u0_ : tw_aw s0 p0 = 0 := t92; unfold tw_nf; (repeat' split) <;> first | rfl | (exfalso; omega))⟩
      · exact absurd c93 (by omega)
  by_cases c94 : p1 = 5
  · refine lv_tableIn (tgt := 95) cx.1 cx.2.1 dX10_nodeFigure_7 (by rw [q_toInt ⟨by omega, by omega⟩]; omega) (by rw [q_toInt ⟨by omega, by omega⟩]; omega) (off := 88) (by rw [q_toInt ⟨by omega, by omega⟩, c94]; rfl) (by decide) ?_
    refine q_ald_n cx dX10_nodeFigure_95 rfl (lv_at hl 0 rfl) ?_
    obtain ⟨x95, ex95⟩ : ∃ zz, q_is (q_z f y63 5) zz := ⟨_, q_isr _⟩
    obtain ⟨lx95, ux95⟩ := q_isb ex95 (q_fib hB.2.1 hy63 ky63 (by decide) rfl)
    obtain ⟨x96, ex96, nx96⟩ : ∃ zz, q_is (q_z f y63 5) zz ∧ zz = x95 := ⟨_, ex95, rfl⟩
    have sx96 : q_is x96 (s0 (1 + Int.toNat p0) 5) := tw_g hw0 t65 (by omega) (by omega) ex96
    refine q_gX10_104 cx hB hy63 ky63 ex96 dX10_nodeFigure_96 (fun lb97 ub97 => ?_)
    refine q_iret cx hr hlk hB dX10_nodeFigure_99 ⟨by omega, by omega⟩ ?_
    exact ⟨rfl, (by have t0_ : x96 = s0 (1 + Int.toNat p0) 5 := sx96; (try simp only [t0_]); unfold tw_nf; (repeat' split) <;> first | rfl | (exfalso; omega))⟩
  by_cases c98 : p1 = 6
  · refine lv_tableIn (tgt := 100) cx.1 cx.2.1 dX10_nodeFigure_7 (by rw [q_toInt ⟨by omega, by omega⟩]; omega) (by rw [q_toInt ⟨by omega, by omega⟩]; omega) (off := 93) (by rw [q_toInt ⟨by omega, by omega⟩, c98]; rfl) (by decide) ?_
    refine q_ald_n cx dX10_nodeFigure_100 rfl (lv_at hl 0 rfl) ?_
    obtain ⟨x99, ex99⟩ : ∃ zz, q_is (q_z f y63 6) zz := ⟨_, q_isr _⟩
    obtain ⟨lx99, ux99⟩ := q_isb ex99 (q_fib hB.2.1 hy63 ky63 (by decide) rfl)
    obtain ⟨x100, ex100, nx100⟩ : ∃ zz, q_is (q_z f y63 6) zz ∧ zz = x99 := ⟨_, ex99, rfl⟩
    have sx100 : q_is x100 (s0 (1 + Int.toNat p0) 6) := tw_g hw0 t65 (by omega) (by omega) ex100
    refine q_gX10_107 cx hB hy63 ky63 ex100 dX10_nodeFigure_101 (fun lb101 ub101 => ?_)
    refine q_iret cx hr hlk hB dX10_nodeFigure_104 ⟨by omega, by omega⟩ ?_
    exact ⟨rfl, (by have t0_ : x100 = s0 (1 + Int.toNat p0) 6 := sx100; (try simp only [t0_]); unfold tw_nf; (repeat' split) <;> first | rfl | (exfalso; omega))⟩
  by_cases c102 : p1 = 7
  · refine lv_tableIn (tgt := 105) cx.1 cx.2.1 dX10_nodeFigure_7 (by rw [q_toInt ⟨by omega, by omega⟩]; omega) (by rw [q_toInt ⟨by omega, by omega⟩]; omega) (off := 98) (by rw [q_toInt ⟨by omega, by omega⟩, c102]; rfl) (by decide) ?_
    refine q_ald_n cx dX10_nodeFigure_105 rfl (lv_at hl 0 rfl) ?_
    obtain ⟨x103, ex103⟩ : ∃ zz, q_is (q_z f y63 7) zz := ⟨_, q_isr _⟩
    obtain ⟨lx103, ux103⟩ := q_isb ex103 (q_fib hB.2.1 hy63 ky63 (by decide) rfl)
    obtain ⟨x104, ex104, nx104⟩ : ∃ zz, q_is (q_z f y63 7) zz ∧ zz = x103 := ⟨_, ex103, rfl⟩
    have sx104 : q_is x104 (s0 (1 + Int.toNat p0) 7) := tw_g hw0 t65 (by omega) (by omega) ex104
    refine q_gX10_110 cx hB hy63 ky63 ex104 dX10_nodeFigure_106 (fun lb105 ub105 => ?_)
    refine q_iret cx hr hlk hB dX10_nodeFigure_109 ⟨by omega, by omega⟩ ?_
    exact ⟨rfl, (by have t0_ : x104 = s0 (1 + Int.toNat p0) 7 := sx104; (try simp only [t0_]); unfold tw_nf; (repeat' split) <;> first | rfl | (exfalso; omega))⟩
  by_cases c106 : p1 = 8
  · refine lv_tableIn (tgt := 110) cx.1 cx.2.1 dX10_nodeFigure_7 (by rw [q_toInt ⟨by omega, by omega⟩]; omega) (by rw [q_toInt ⟨by omega, by omega⟩]; omega) (off := 103) (by rw [q_toInt ⟨by omega, by omega⟩, c106]; rfl) (by decide) ?_
    refine q_ald_n cx dX10_nodeFigure_110 rfl (lv_at hl 0 rfl) ?_
    obtain ⟨x107, ex107⟩ : ∃ zz, q_is (q_z f y63 8) zz := ⟨_, q_isr _⟩
    obtain ⟨lx107, ux107⟩ := q_isb ex107 (q_fib hB.2.1 hy63 ky63 (by decide) rfl)
    obtain ⟨x108, ex108, nx108⟩ : ∃ zz, q_is (q_z f y63 8) zz ∧ zz = x107 := ⟨_, ex107, rfl⟩
    have sx108 : q_is x108 (s0 (1 + Int.toNat p0) 8) := tw_g hw0 t65 (by omega) (by omega) ex108
    refine q_gX10_113 cx hB hy63 ky63 ex108 dX10_nodeFigure_111 (fun lb109 ub109 => ?_)
    refine q_iret cx hr hlk hB dX10_nodeFigure_114 ⟨by omega, by omega⟩ ?_
    exact ⟨rfl, (by have t0_ : x108 = s0 (1 + Int.toNat p0) 8 := sx108; (try simp only [t0_]); unfold tw_nf; (repeat' split) <;> first | rfl | (exfalso; omega))⟩
  by_cases c110 : p1 = 9
  · refine lv_tableIn (tgt := 115) cx.1 cx.2.1 dX10_nodeFigure_7 (by rw [q_toInt ⟨by omega, by omega⟩]; omega) (by rw [q_toInt ⟨by omega, by omega⟩]; omega) (off := 108) (by rw [q_toInt ⟨by omega, by omega⟩, c110]; rfl) (by decide) ?_
    refine q_ald_n cx dX10_nodeFigure_115 rfl (lv_at hl 1 rfl) ?_
    refine q_ild_n cx dX10_nodeFigure_116 rfl (lv_at hl 2 rfl) ?_
    refine q_cVl (As := [.int (q_i p0)]) (rest := []) cx hB (fun _ h => h) hN hv0 kv0 (by decide) rfl (f_tableOf0 l g hN hB.2.1 d0 s0 v0 hv0 kv0 p0 (by omega) (by omega) n0 hn0 kn0 l0 hl0 kl0 m0 hm0 km0 nn (by omega) (by omega) hf1 hr0 hr1 hr2 hw0 hz0) q_cX10_174 q_dX10_tableOf (by decide) rfl rfl hl.1 rfl (Nat.le_of_ble_eq_true rfl) dX10_nodeFigure_117 (fun y112 H locs f111 h113 hF hB => ?_)
    obtain ⟨rfl, t114⟩ := h113
    refine q_cSi (As := [.long y112]) (rest := []) cx hB (fun _ h => h) hN (f_lbits l g hN hB.2.1 y112) q_cX10_206 q_dJ13_bitCount_95d88 (by decide) rfl rfl hl.1 rfl (Nat.le_of_ble_eq_true rfl) dX10_nodeFigure_120 (fun y116 H locs f115 ry116 h117 hF hB => ?_)
    obtain ⟨rfl, ly116, uy116, t118⟩ := h117
    refine q_iret cx hr hlk hB dX10_nodeFigure_123 ⟨by omega, by omega⟩ ?_
    exact ⟨rfl, (by have t0_ : y112 = tw_tb s0 p0 := t114; have t1_ : y116 = tw_bl (tw_tb s0 p0) := Eq.trans t118 (by simp only [t0_]); (try simp only [t0_, t1_]); unfold tw_nf; (repeat' split) <;> first | rfl | (exfalso; omega))⟩
  refine lv_tableOut (tgt := 124) cx.1 cx.2.1 dX10_nodeFigure_7 (by rw [q_toInt ⟨by omega, by omega⟩]; omega) (by decide) ?_
  refine q_ald_n cx dX10_nodeFigure_124 rfl (lv_at hl 1 rfl) ?_
  refine q_ild_n cx dX10_nodeFigure_125 rfl (lv_at hl 2 rfl) ?_
  refine q_cVi (As := [.int (q_i p0)]) (rest := []) cx hB (fun _ h => h) hN hv0 kv0 (by decide) rfl (f_messagesWaitingAt0 l g hN hB.2.1 d0 s0 v0 hv0 kv0 p0 (by omega) (by omega) n0 hn0 kn0 l0 hl0 kl0 m0 hm0 km0 mn (by omega) (by omega) hf2 hr0 hr1 hr2 hw0) q_cX10_211 q_dX10_messagesWaitingAt (by decide) rfl rfl hl.1 rfl (Nat.le_of_ble_eq_true rfl) dX10_nodeFigure_126 (fun y120 H locs f119 ry120 h121 hF hB => ?_)
  obtain ⟨rfl, ly120, uy120, t122⟩ := h121
  refine q_iret cx hr hlk hB dX10_nodeFigure_129 ⟨by omega, by omega⟩ ?_
  exact ⟨rfl, (by have t0_ : y120 = tw_mwl s0 p0 (Int.toNat (s0 0 5)) := t122; (try simp only [t0_]); unfold tw_nf; (repeat' split) <;> first | rfl | (exfalso; omega))⟩
