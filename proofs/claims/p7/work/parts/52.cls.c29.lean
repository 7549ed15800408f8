set_option maxHeartbeats 4000000 in
set_option maxRecDepth 100000 in
theorem g_X10_latestMeetingLink_2 (l : Launch) (g : q_G) {K : Nat → Nat} {L : List Nat} (hN : L.Nodup) {f : Nat → va_E} (hT : q_Ty g K L f) (v : Nat) (hv : v ∈ L) (kv : K v = 14) : q_Ct l g K L yX10_latestMeetingLink cX10_latestMeetingLink 6 (some .int) 5 117 [.ref v] f [] (q_Pi (fun (z : Int) (f1 : Nat → va_E) => f = f1 ∧ (-1) ≤ z ∧ z ≤ 15)) := by
  refine q_ofb (by decide +kernel) hN hT (Nat.le_of_ble_eq_true rfl) ?_
  intro p e s m below meth c ls cx hr hlk hB hl
  have hl : lv_has ls 6 [(0, .ref v)] := hl
  have J6 : ∀ (n : Nat) (v6_1 : Int) (lv6_1 : (-1) ≤ v6_1) (uv6_1 : v6_1 ≤ 15) (v6_2 : Int) (lv6_2 : 0 ≤ v6_2) (uv6_2 : v6_2 ≤ 61) (v6_3 : Int) (lv6_3 : 0 ≤ v6_3) (uv6_3 : v6_3 ≤ 16) (hmu : (Int.toNat (2147483647 - v6_3)) < n) (H : Heap) (locs : List Loc) (hB : q_B g K L (fun q => q ∈ L) [] f f s H locs) (ls : Array Slot) (hl : lv_has ls 6 [(0, .ref v), (1, .int (q_i v6_1)), (2, .int (q_i v6_2)), (3, .int (q_i v6_3))]), W p l e { frames := 5, cells := 0, slots := 0, locals := 117 } s m ([.ref v] : List Value).toArray below meth c H locs 0 0 (MQ below (q_Q g K L [] f (q_Pi (fun (z : Int) (f1 : Nat → va_E) => f = f1 ∧ (-1) ≤ z ∧ z ≤ 15))) ([.ref v] : List Value).toArray s 0 0 (fun q => q ∈ L)) (F0 m 6 ls []) := by
    intro n
    induction n with
    | zero =>
      intro v6_1 lv6_1 uv6_1 v6_2 lv6_2 uv6_2 v6_3 lv6_3 uv6_3 hmu
      exact absurd hmu (Nat.not_lt_zero _)
    | succ n ih6 =>
      intro v6_1 lv6_1 uv6_1 v6_2 lv6_2 uv6_2 v6_3 lv6_3 uv6_3 hmu H locs hB ls hl
      have J60 : ∀ (v60_1 : Int) (lv60_1 : (-1) ≤ v60_1) (uv60_1 : v60_1 ≤ 15) (v60_2 : Int) (lv60_2 : 0 ≤ v60_2) (uv60_2 : v60_2 ≤ 61) (buv6_3 : v6_3 ≤ 15) (H : Heap) (locs : List Loc) (hB : q_B g K L (fun q => q ∈ L) [] f f s H locs) (ls : Array Slot) (hl : lv_has ls 6 [(0, .ref v), (1, .int (q_i v60_1)), (2, .int (q_i v60_2)), (3, .int (q_i v6_3))]), W p l e { frames := 5, cells := 0, slots := 0, locals := 117 } s m ([.ref v] : List Value).toArray below meth c H locs 0 0 (MQ below (q_Q g K L [] f (q_Pi (fun (z : Int) (f1 : Nat → va_E) => f = f1 ∧ (-1) ≤ z ∧ z ≤ 15))) ([.ref v] : List Value).toArray s 0 0 (fun q => q ∈ L)) (F0 m 60 ls []) := by
        intro v60_1 lv60_1 uv60_1 v60_2 lv60_2 uv60_2 buv6_3 H locs hB ls hl
        refine q_iinc (lv' := [(3, .int (q_i (v6_3 + 1))), (0, .ref v), (1, .int (q_i v60_1)), (2, .int (q_i v60_2))]) cx dX10_latestMeetingLink_60 hl (k := 3) rfl (by decide) rfl (fun ls hl => ?_)
        refine lv_goto (tgt := 6) cx.1 cx.2.1 dX10_latestMeetingLink_63 (by decide) ?_
        exact ih6 v60_1 (by omega) (by omega) v60_2 (by omega) (by omega) (v6_3 + 1) (by omega) (by omega) (by omega) H locs hB ls (lv_sub hl [1, 2, 3, 0] rfl)
      refine q_ild_n cx dX10_latestMeetingLink_6 rfl (lv_at hl 3 rfl) ?_
      refine q_ald_n cx dX10_latestMeetingLink_7 rfl (lv_at hl 0 rfl) ?_
      obtain ⟨x309, ex309⟩ : ∃ zz, q_is (q_z f v 4) zz := ⟨_, q_isr _⟩
      refine q_gX10_39_14 cx hB hv kv ex309 dX10_latestMeetingLink_8 (fun lb310 ub310 => ?_)
      refine q_icge (tgt := 66) cx ⟨by omega, by omega⟩ ⟨by omega, by omega⟩ dX10_latestMeetingLink_11 (by decide) (fun c311 => ?_) (fun c311 => ?_)
      · refine q_ild_n cx dX10_latestMeetingLink_66 rfl (lv_at hl 1 rfl) ?_
        refine q_iret cx hr hlk hB dX10_latestMeetingLink_67 ⟨by omega, by omega⟩ ?_
        exact ⟨rfl, (by omega), (by omega)⟩
      · refine q_ald_n cx dX10_latestMeetingLink_14 rfl (lv_at hl 0 rfl) ?_
        refine q_ild_n cx dX10_latestMeetingLink_15 rfl (lv_at hl 3 rfl) ?_
        refine q_cVr (As := [.int (q_i v6_3)]) (rest := []) cx hB (fun _ h => h) hN hv kv (by decide) rfl (g_X10_linkAt_2 l g hN hB.2.1 v hv kv v6_3 (by omega) (by omega)) q_cX10_74 q_dX10_linkAt (by decide) rfl rfl hl.1 rfl (Nat.le_of_ble_eq_true rfl) dX10_latestMeetingLink_16 (fun y313 H locs f312 h314 hF hB => ?_)
        obtain ⟨rfl, hy313, ky313⟩ := h314
        obtain ⟨x315, ex315⟩ : ∃ zz, q_is (q_z f y313 0) zz := ⟨_, q_isr _⟩
        refine q_gX10_116_22 cx hB hy313 ky313 ex315 dX10_latestMeetingLink_19 (fun lb316 ub316 => ?_)
        refine lv_istore (lv' := [(4, .int (q_i x315)), (0, .ref v), (1, .int (q_i v6_1)), (2, .int (q_i v6_2)), (3, .int (q_i v6_3))]) cx.1 cx.2.1 dX10_latestMeetingLink_22 hl (by decide) rfl (fun ls hl => ?_)
        refine q_ald_n cx dX10_latestMeetingLink_24 rfl (lv_at hl 1 rfl) ?_
        refine lv_iload cx.1 cx.2.1 dX10_latestMeetingLink_25 (lv_at hl 0 rfl) ?_
        refine q_ald_n cx dX10_latestMeetingLink_27 rfl (lv_at hl 1 rfl) ?_
        refine lv_iload cx.1 cx.2.1 dX10_latestMeetingLink_28 (lv_at hl 0 rfl) ?_
        refine q_cVr (As := [.int (q_i x315)]) (rest := [.int (q_i x315), .ref v]) cx hB (fun _ h => h) hN hv kv (by decide) rfl (g_X10_nodeAt_2 l g hN hB.2.1 v hv kv x315 (by omega) (by omega)) q_cX10_66 q_dX10_nodeAt (by decide) rfl rfl hl.1 rfl (Nat.le_of_ble_eq_true rfl) dX10_latestMeetingLink_30 (fun y318 H locs f317 h319 hF hB => ?_)
        obtain ⟨rfl, hy318, ky318⟩ := h319
        obtain ⟨x320, ex320⟩ : ∃ zz, q_is (q_z f y318 3) zz := ⟨_, q_isr _⟩
        refine q_gX10_98_18 cx hB hy318 ky318 ex320 dX10_latestMeetingLink_33 (fun lb321 ub321 => ?_)
        refine q_ald_n cx dX10_latestMeetingLink_36 rfl (lv_at hl 1 rfl) ?_
        refine q_ild_n cx dX10_latestMeetingLink_37 rfl (lv_at hl 4 rfl) ?_
        refine q_cVr (As := [.int (q_i v6_3)]) (rest := [.int (q_i x320), .int (q_i x315), .ref v]) cx hB (fun _ h => h) hN hv kv (by decide) rfl (g_X10_linkAt_2 l g hN hB.2.1 v hv kv v6_3 (by omega) (by omega)) q_cX10_74 q_dX10_linkAt (by decide) rfl rfl hl.1 rfl (Nat.le_of_ble_eq_true rfl) dX10_latestMeetingLink_38 (fun y323 H locs f322 h324 hF hB => ?_)
        obtain ⟨rfl, hy323, ky323⟩ := h324
        obtain ⟨x325, ex325⟩ : ∃ zz, q_is (q_z f y323 1) zz := ⟨_, q_isr _⟩
        refine q_gX10_119_22 cx hB hy323 ky323 ex325 dX10_latestMeetingLink_41 (fun lb326 ub326 => ?_)
        refine q_cVi (As := [.int (q_i x315), .int (q_i x320), .int (q_i x325)]) (rest := []) cx hB (fun _ h => h) hN hv kv (by decide) rfl (g_X10_lateness_2 l g hN hB.2.1 v hv kv x315 (by omega) (by omega) x320 (by omega) (by omega) x325 (by omega) (by omega)) q_cX10_222 q_dX10_lateness (by decide) rfl rfl hl.1 rfl (Nat.le_of_ble_eq_true rfl) dX10_latestMeetingLink_44 (fun y328 H locs f327 ry328 h329 hF hB => ?_)
        obtain ⟨rfl, ly328, uy328⟩ := h329
        refine lv_istore (lv' := [(5, .int (q_i y328)), (4, .int (q_i x315)), (0, .ref v), (1, .int (q_i v6_1)), (2, .int (q_i v6_2)), (3, .int (q_i v6_3))]) cx.1 cx.2.1 dX10_latestMeetingLink_47 hl (by decide) rfl (fun ls hl => ?_)
        refine lv_iload cx.1 cx.2.1 dX10_latestMeetingLink_49 (lv_at hl 0 rfl) ?_
        refine q_ild_n cx dX10_latestMeetingLink_51 rfl (lv_at hl 4 rfl) ?_
        refine q_icle (tgt := 60) cx ⟨by omega, by omega⟩ ⟨by omega, by omega⟩ dX10_latestMeetingLink_52 (by decide) (fun c330 => ?_) (fun c330 => ?_)
        · exact J60 v6_1 (by omega) (by omega) v6_2 (by omega) (by omega) (by omega) H locs hB ls (lv_sub hl [2, 3, 4, 5] rfl)
        · refine q_ild_n cx dX10_latestMeetingLink_55 rfl (lv_at hl 5 rfl) ?_
          refine lv_istore_n (lv' := [(1, .int (q_i v6_3)), (5, .int (q_i y328)), (4, .int (q_i x315)), (0, .ref v), (2, .int (q_i v6_2)), (3, .int (q_i v6_3))]) cx.1 cx.2.1 dX10_latestMeetingLink_56 rfl hl (by decide) rfl (fun ls hl => ?_)
          refine lv_iload cx.1 cx.2.1 dX10_latestMeetingLink_57 (lv_at hl 1 rfl) ?_
          refine lv_istore_n (lv' := [(2, .int (q_i y328)), (1, .int (q_i v6_3)), (5, .int (q_i y328)), (4, .int (q_i x315)), (0, .ref v), (3, .int (q_i v6_3))]) cx.1 cx.2.1 dX10_latestMeetingLink_59 rfl hl (by decide) rfl (fun ls hl => ?_)
          exact J60 v6_3 (by omega) (by omega) y328 (by omega) (by omega) (by omega) H locs hB ls (lv_sub hl [4, 1, 0, 5] rfl)
  obtain ⟨H, hH⟩ : ∃ H : Heap, H = s.heap := ⟨_, rfl⟩
  obtain ⟨locs, hlocs⟩ : ∃ z : List Loc, z = [] := ⟨_, rfl⟩
  rw [← hH, ← hlocs] at hB
  rw [← hH, ← hlocs]
  refine q_iconst cx dX10_latestMeetingLink_0 ?_
  refine lv_istore_n (lv' := [(1, .int (q_i (-1))), (0, .ref v)]) cx.1 cx.2.1 dX10_latestMeetingLink_1 rfl hl (by decide) rfl (fun ls hl => ?_)
  refine q_iconst cx dX10_latestMeetingLink_2 ?_
  refine lv_istore_n (lv' := [(2, .int (q_i 0)), (1, .int (q_i (-1))), (0, .ref v)]) cx.1 cx.2.1 dX10_latestMeetingLink_3 rfl hl (by decide) rfl (fun ls hl => ?_)
  refine q_iconst cx dX10_latestMeetingLink_4 ?_
  refine lv_istore_n (lv' := [(3, .int (q_i 0)), (2, .int (q_i 0)), (1, .int (q_i (-1))), (0, .ref v)]) cx.1 cx.2.1 dX10_latestMeetingLink_5 rfl hl (by decide) rfl (fun ls hl => ?_)
  exact J6 ((Int.toNat (2147483647 - 0)) + 1) (-1) (by decide) (by decide) 0 (by decide) (by decide) 0 (by decide) (by decide) (Nat.lt_succ_self _) H locs hB ls (lv_sub hl [3, 2, 1, 0] rfl)
set_option maxHeartbeats 4000000 in
set_option maxRecDepth 100000 in
theorem g_X10_latestMeetingLink_3 (l : Launch) (g : q_G) {K : Nat → Nat} {L : List Nat} (hN : L.Nodup) {f : Nat → va_E} (hT : q_Ty g K L f) (v : Nat) (hv : v ∈ L) (kv : K v = 15) : q_Ct l g K L yX10_latestMeetingLink cX10_latestMeetingLink 6 (some .int) 5 117 [.ref v] f [] (q_Pi (fun (z : Int) (f1 : Nat → va_E) => f = f1 ∧ (-1) ≤ z ∧ z ≤ 15)) := by
  refine q_ofb (by decide +kernel) hN hT (Nat.le_of_ble_eq_true rfl) ?_
  intro p e s m below meth c ls cx hr hlk hB hl
  have hl : lv_has ls 6 [(0, .ref v)] := hl
  have J6 : ∀ (n : Nat) (v6_1 : Int) (lv6_1 : (-1) ≤ v6_1) (uv6_1 : v6_1 ≤ 15) (v6_2 : Int) (lv6_2 : 0 ≤ v6_2) (uv6_2 : v6_2 ≤ 61) (v6_3 : Int) (lv6_3 : 0 ≤ v6_3) (uv6_3 : v6_3 ≤ 16) (hmu : (Int.toNat (2147483647 - v6_3)) < n) (H : Heap) (locs : List Loc) (hB : q_B g K L (fun q => q ∈ L) [] f f s H locs) (ls : Array Slot) (hl : lv_has ls 6 [(0, .ref v), (1, .int (q_i v6_1)), (2, .int (q_i v6_2)), (3, .int (q_i v6_3))]), W p l e { frames := 5, cells := 0, slots := 0, locals := 117 } s m ([.ref v] : List Value).toArray below meth c H locs 0 0 (MQ below (q_Q g K L [] f (q_Pi (fun (z : Int) (f1 : Nat → va_E) => f = f1 ∧ (-1) ≤ z ∧ z ≤ 15))) ([.ref v] : List Value).toArray s 0 0 (fun q => q ∈ L)) (F0 m 6 ls []) := by
    intro n
    induction n with
    | zero =>
      intro v6_1 lv6_1 uv6_1 v6_2 lv6_2 uv6_2 v6_3 lv6_3 uv6_3 hmu
      exact absurd hmu (Nat.not_lt_zero _)
    | succ n ih6 =>
      intro v6_1 lv6_1 uv6_1 v6_2 lv6_2 uv6_2 v6_3 lv6_3 uv6_3 hmu H locs hB ls hl
      have J60 : ∀ (v60_1 : Int) (lv60_1 : (-1) ≤ v60_1) (uv60_1 : v60_1 ≤ 15) (v60_2 : Int) (lv60_2 : 0 ≤ v60_2) (uv60_2 : v60_2 ≤ 61) (buv6_3 : v6_3 ≤ 15) (H : Heap) (locs : List Loc) (hB : q_B g K L (fun q => q ∈ L) [] f f s H locs) (ls : Array Slot) (hl : lv_has ls 6 [(0, .ref v), (1, .int (q_i v60_1)), (2, .int (q_i v60_2)), (3, .int (q_i v6_3))]), W p l e { frames := 5, cells := 0, slots := 0, locals := 117 } s m ([.ref v] : List Value).toArray below meth c H locs 0 0 (MQ below (q_Q g K L [] f (q_Pi (fun (z : Int) (f1 : Nat → va_E) => f = f1 ∧ (-1) ≤ z ∧ z ≤ 15))) ([.ref v] : List Value).toArray s 0 0 (fun q => q ∈ L)) (F0 m 60 ls []) := by
        intro v60_1 lv60_1 uv60_1 v60_2 lv60_2 uv60_2 buv6_3 H locs hB ls hl
        refine q_iinc (lv' := [(3, .int (q_i (v6_3 + 1))), (0, .ref v), (1, .int (q_i v60_1)), (2, .int (q_i v60_2))]) cx dX10_latestMeetingLink_60 hl (k := 3) rfl (by decide) rfl (fun ls hl => ?_)
        refine lv_goto (tgt := 6) cx.1 cx.2.1 dX10_latestMeetingLink_63 (by decide) ?_
        exact ih6 v60_1 (by omega) (by omega) v60_2 (by omega) (by omega) (v6_3 + 1) (by omega) (by omega) (by omega) H locs hB ls (lv_sub hl [1, 2, 3, 0] rfl)
      refine q_ild_n cx dX10_latestMeetingLink_6 rfl (lv_at hl 3 rfl) ?_
      refine q_ald_n cx dX10_latestMeetingLink_7 rfl (lv_at hl 0 rfl) ?_
      obtain ⟨x309, ex309⟩ : ∃ zz, q_is (q_z f v 4) zz := ⟨_, q_isr _⟩
      refine q_gX10_39_15 cx hB hv kv ex309 dX10_latestMeetingLink_8 (fun lb310 ub310 => ?_)
      refine q_icge (tgt := 66) cx ⟨by omega, by omega⟩ ⟨by omega, by omega⟩ dX10_latestMeetingLink_11 (by decide) (fun c311 => ?_) (fun c311 => ?_)
      · refine q_ild_n cx dX10_latestMeetingLink_66 rfl (lv_at hl 1 rfl) ?_
        refine q_iret cx hr hlk hB dX10_latestMeetingLink_67 ⟨by omega, by omega⟩ ?_
        exact ⟨rfl, (by omega), (by omega)⟩
      · refine q_ald_n cx dX10_latestMeetingLink_14 rfl (lv_at hl 0 rfl) ?_
        refine q_ild_n cx dX10_latestMeetingLink_15 rfl (lv_at hl 3 rfl) ?_
        refine q_cVr (As := [.int (q_i v6_3)]) (rest := []) cx hB (fun _ h => h) hN hv kv (by decide) rfl (g_X10_linkAt_3 l g hN hB.2.1 v hv kv v6_3 (by omega) (by omega)) q_cX10_74 q_dX10_linkAt (by decide) rfl rfl hl.1 rfl (Nat.le_of_ble_eq_true rfl) dX10_latestMeetingLink_16 (fun y313 H locs f312 h314 hF hB => ?_)
        obtain ⟨rfl, hy313, ky313⟩ := h314
        obtain ⟨x315, ex315⟩ : ∃ zz, q_is (q_z f y313 0) zz := ⟨_, q_isr _⟩
        refine q_gX10_116_23 cx hB hy313 ky313 ex315 dX10_latestMeetingLink_19 (fun lb316 ub316 => ?_)
        refine lv_istore (lv' := [(4, .int (q_i x315)), (0, .ref v), (1, .int (q_i v6_1)), (2, .int (q_i v6_2)), (3, .int (q_i v6_3))]) cx.1 cx.2.1 dX10_latestMeetingLink_22 hl (by decide) rfl (fun ls hl => ?_)
        refine q_ald_n cx dX10_latestMeetingLink_24 rfl (lv_at hl 1 rfl) ?_
        refine lv_iload cx.1 cx.2.1 dX10_latestMeetingLink_25 (lv_at hl 0 rfl) ?_
        refine q_ald_n cx dX10_latestMeetingLink_27 rfl (lv_at hl 1 rfl) ?_
        refine lv_iload cx.1 cx.2.1 dX10_latestMeetingLink_28 (lv_at hl 0 rfl) ?_
        refine q_cVr (As := [.int (q_i x315)]) (rest := [.int (q_i x315), .ref v]) cx hB (fun _ h => h) hN hv kv (by decide) rfl (g_X10_nodeAt_3 l g hN hB.2.1 v hv kv x315 (by omega) (by omega)) q_cX10_66 q_dX10_nodeAt (by decide) rfl rfl hl.1 rfl (Nat.le_of_ble_eq_true rfl) dX10_latestMeetingLink_30 (fun y318 H locs f317 h319 hF hB => ?_)
        obtain ⟨rfl, hy318, ky318⟩ := h319
        obtain ⟨x320, ex320⟩ : ∃ zz, q_is (q_z f y318 3) zz := ⟨_, q_isr _⟩
        refine q_gX10_98_19 cx hB hy318 ky318 ex320 dX10_latestMeetingLink_33 (fun lb321 ub321 => ?_)
        refine q_ald_n cx dX10_latestMeetingLink_36 rfl (lv_at hl 1 rfl) ?_
        refine q_ild_n cx dX10_latestMeetingLink_37 rfl (lv_at hl 4 rfl) ?_
        refine q_cVr (As := [.int (q_i v6_3)]) (rest := [.int (q_i x320), .int (q_i x315), .ref v]) cx hB (fun _ h => h) hN hv kv (by decide) rfl (g_X10_linkAt_3 l g hN hB.2.1 v hv kv v6_3 (by omega) (by omega)) q_cX10_74 q_dX10_linkAt (by decide) rfl rfl hl.1 rfl (Nat.le_of_ble_eq_true rfl) dX10_latestMeetingLink_38 (fun y323 H locs f322 h324 hF hB => ?_)
        obtain ⟨rfl, hy323, ky323⟩ := h324
        obtain ⟨x325, ex325⟩ : ∃ zz, q_is (q_z f y323 1) zz := ⟨_, q_isr _⟩
        refine q_gX10_119_23 cx hB hy323 ky323 ex325 dX10_latestMeetingLink_41 (fun lb326 ub326 => ?_)
        refine q_cVi (As := [.int (q_i x315), .int (q_i x320), .int (q_i x325)]) (rest := []) cx hB (fun _ h => h) hN hv kv (by decide) rfl (g_X10_lateness_3 l g hN hB.2.1 v hv kv x315 (by omega) (by omega) x320 (by omega) (by omega) x325 (by omega) (by omega)) q_cX10_222 q_dX10_lateness (by decide) rfl rfl hl.1 rfl (Nat.le_of_ble_eq_true rfl) dX10_latestMeetingLink_44 (fun y328 H locs f327 ry328 h329 hF hB => ?_)
        obtain ⟨rfl, ly328, uy328⟩ := h329
        refine lv_istore (lv' := [(5, .int (q_i y328)), (4, .int (q_i x315)), (0, .ref v), (1, .int (q_i v6_1)), (2, .int (q_i v6_2)), (3, .int (q_i v6_3))]) cx.1 cx.2.1 dX10_latestMeetingLink_47 hl (by decide) rfl (fun ls hl => ?_)
        refine lv_iload cx.1 cx.2.1 dX10_latestMeetingLink_49 (lv_at hl 0 rfl) ?_
        refine q_ild_n cx dX10_latestMeetingLink_51 rfl (lv_at hl 4 rfl) ?_
        refine q_icle (tgt := 60) cx ⟨by omega, by omega⟩ ⟨by omega, by omega⟩ dX10_latestMeetingLink_52 (by decide) (fun c330 => ?_) (fun c330 => ?_)
        · exact J60 v6_1 (by omega) (by omega) v6_2 (by omega) (by omega) (by omega) H locs hB ls (lv_sub hl [2, 3, 4, 5] rfl)
        · refine q_ild_n cx dX10_latestMeetingLink_55 rfl (lv_at hl 5 rfl) ?_
          refine lv_istore_n (lv' := [(1, .int (q_i v6_3)), (5, .int (q_i y328)), (4, .int (q_i x315)), (0, .ref v), (2, .int (q_i v6_2)), (3, .int (q_i v6_3))]) cx.1 cx.2.1 dX10_latestMeetingLink_56 rfl hl (by decide) rfl (fun ls hl => ?_)
          refine lv_iload cx.1 cx.2.1 dX10_latestMeetingLink_57 (lv_at hl 1 rfl) ?_
          refine lv_istore_n (lv' := [(2, .int (q_i y328)), (1, .int (q_i v6_3)), (5, .int (q_i y328)), (4, .int (q_i x315)), (0, .ref v), (3, .int (q_i v6_3))]) cx.1 cx.2.1 dX10_latestMeetingLink_59 rfl hl (by decide) rfl (fun ls hl => ?_)
          exact J60 v6_3 (by omega) (by omega) y328 (by omega) (by omega) (by omega) H locs hB ls (lv_sub hl [4, 1, 0, 5] rfl)
  obtain ⟨H, hH⟩ : ∃ H : Heap, H = s.heap := ⟨_, rfl⟩
  obtain ⟨locs, hlocs⟩ : ∃ z : List Loc, z = [] := ⟨_, rfl⟩
  rw [← hH, ← hlocs] at hB
  rw [← hH, ← hlocs]
  refine q_iconst cx dX10_latestMeetingLink_0 ?_
  refine lv_istore_n (lv' := [(1, .int (q_i (-1))), (0, .ref v)]) cx.1 cx.2.1 dX10_latestMeetingLink_1 rfl hl (by decide) rfl (fun ls hl => ?_)
  refine q_iconst cx dX10_latestMeetingLink_2 ?_
  refine lv_istore_n (lv' := [(2, .int (q_i 0)), (1, .int (q_i (-1))), (0, .ref v)]) cx.1 cx.2.1 dX10_latestMeetingLink_3 rfl hl (by decide) rfl (fun ls hl => ?_)
  refine q_iconst cx dX10_latestMeetingLink_4 ?_
  refine lv_istore_n (lv' := [(3, .int (q_i 0)), (2, .int (q_i 0)), (1, .int (q_i (-1))), (0, .ref v)]) cx.1 cx.2.1 dX10_latestMeetingLink_5 rfl hl (by decide) rfl (fun ls hl => ?_)
  exact J6 ((Int.toNat (2147483647 - 0)) + 1) (-1) (by decide) (by decide) 0 (by decide) (by decide) 0 (by decide) (by decide) (Nat.lt_succ_self _) H locs hB ls (lv_sub hl [3, 2, 1, 0] rfl)
set_option maxHeartbeats 4000000 in
set_option maxRecDepth 100000 in
theorem g_X10_latestMeetingLink_4 (l : Launch) (g : q_G) {K : Nat → Nat} {L : List Nat} (hN : L.Nodup) {f : Nat → va_E} (hT : q_Ty g K L f) (v : Nat) (hv : v ∈ L) (kv : K v = 16) : q_Ct l g K L yX10_latestMeetingLink cX10_latestMeetingLink 6 (some .int) 5 117 [.ref v] f [] (q_Pi (fun (z : Int) (f1 : Nat → va_E) => f = f1 ∧ (-1) ≤ z ∧ z ≤ 15)) := by
  refine q_ofb (by decide +kernel) hN hT (Nat.le_of_ble_eq_true rfl) ?_
  intro p e s m below meth c ls cx hr hlk hB hl
  have hl : lv_has ls 6 [(0, .ref v)] := hl
  have J6 : ∀ (n : Nat) (v6_1 : Int) (lv6_1 : (-1) ≤ v6_1) (uv6_1 : v6_1 ≤ 15) (v6_2 : Int) (lv6_2 : 0 ≤ v6_2) (uv6_2 : v6_2 ≤ 61) (v6_3 : Int) (lv6_3 : 0 ≤ v6_3) (uv6_3 : v6_3 ≤ 16) (hmu : (Int.toNat (2147483647 - v6_3)) < n) (H : Heap) (locs : List Loc) (hB : q_B g K L (fun q => q ∈ L) [] f f s H locs) (ls : Array Slot) (hl : lv_has ls 6 [(0, .ref v), (1, .int (q_i v6_1)), (2, .int (q_i v6_2)), (3, .int (q_i v6_3))]), W p l e { frames := 5, cells := 0, slots := 0, locals := 117 } s m ([.ref v] : List Value).toArray below meth c H locs 0 0 (MQ below (q_Q g K L [] f (q_Pi (fun (z : Int) (f1 : Nat → va_E) => f = f1 ∧ (-1) ≤ z ∧ z ≤ 15))) ([.ref v] : List Value).toArray s 0 0 (fun q => q ∈ L)) (F0 m 6 ls []) := by
    intro n
    induction n with
    | zero =>
      intro v6_1 lv6_1 uv6_1 v6_2 lv6_2 uv6_2 v6_3 lv6_3 uv6_3 hmu
      exact absurd hmu (Nat.not_lt_zero _)
    | succ n ih6 =>
      intro v6_1 lv6_1 uv6_1 v6_2 lv6_2 uv6_2 v6_3 lv6_3 uv6_3 hmu H locs hB ls hl
      have J60 : ∀ (v60_1 : Int) (lv60_1 : (-1) ≤ v60_1) (uv60_1 : v60_1 ≤ 15) (v60_2 : Int) (lv60_2 : 0 ≤ v60_2) (uv60_2 : v60_2 ≤ 61) (buv6_3 : v6_3 ≤ 15) (H : Heap) (locs : List Loc) (hB : q_B g K L (fun q => q ∈ L) [] f f s H locs) (ls : Array Slot) (hl : lv_has ls 6 [(0, .ref v), (1, .int (q_i v60_1)), (2, .int (q_i v60_2)), (3, .int (q_i v6_3))]), W p l e { frames := 5, cells := 0, slots := 0, locals := 117 } s m ([.ref v] : List Value).toArray below meth c H locs 0 0 (MQ below (q_Q g K L [] f (q_Pi (fun (z : Int) (f1 : Nat → va_E) => f = f1 ∧ (-1) ≤ z ∧ z ≤ 15))) ([.ref v] : List Value).toArray s 0 0 (fun q => q ∈ L)) (F0 m 60 ls []) := by
        intro v60_1 lv60_1 uv60_1 v60_2 lv60_2 uv60_2 buv6_3 H locs hB ls hl
        refine q_iinc (lv' := [(3, .int (q_i (v6_3 + 1))), (0, .ref v), (1, .int (q_i v60_1)), (2, .int (q_i v60_2))]) cx dX10_latestMeetingLink_60 hl (k := 3) rfl (by decide) rfl (fun ls hl => ?_)
        refine lv_goto (tgt := 6) cx.1 cx.2.1 dX10_latestMeetingLink_63 (by decide) ?_
        exact ih6 v60_1 (by omega) (by omega) v60_2 (by omega) (by omega) (v6_3 + 1) (by omega) (by omega) (by omega) H locs hB ls (lv_sub hl [1, 2, 3, 0] rfl)
      refine q_ild_n cx dX10_latestMeetingLink_6 rfl (lv_at hl 3 rfl) ?_
      refine q_ald_n cx dX10_latestMeetingLink_7 rfl (lv_at hl 0 rfl) ?_
      obtain ⟨x309, ex309⟩ : ∃ zz, q_is (q_z f v 4) zz := ⟨_, q_isr _⟩
      refine q_gX10_39_16 cx hB hv kv ex309 dX10_latestMeetingLink_8 (fun lb310 ub310 => ?_)
      refine q_icge (tgt := 66) cx ⟨by omega, by omega⟩ ⟨by omega, by omega⟩ dX10_latestMeetingLink_11 (by decide) (fun c311 => ?_) (fun c311 => ?_)
      · refine q_ild_n cx dX10_latestMeetingLink_66 rfl (lv_at hl 1 rfl) ?_
        refine q_iret cx hr hlk hB dX10_latestMeetingLink_67 ⟨by omega, by omega⟩ ?_
        exact ⟨rfl, (by omega), (by omega)⟩
      · refine q_ald_n cx dX10_latestMeetingLink_14 rfl (lv_at hl 0 rfl) ?_
        refine q_ild_n cx dX10_latestMeetingLink_15 rfl (lv_at hl 3 rfl) ?_
        refine q_cVr (As := [.int (q_i v6_3)]) (rest := []) cx hB (fun _ h => h) hN hv kv (by decide) rfl (g_X10_linkAt_4 l g hN hB.2.1 v hv kv v6_3 (by omega) (by omega)) q_cX10_74 q_dX10_linkAt (by decide) rfl rfl hl.1 rfl (Nat.le_of_ble_eq_true rfl) dX10_latestMeetingLink_16 (fun y313 H locs f312 h314 hF hB => ?_)
        obtain ⟨rfl, hy313, ky313⟩ := h314
        obtain ⟨x315, ex315⟩ : ∃ zz, q_is (q_z f y313 0) zz := ⟨_, q_isr _⟩
        refine q_gX10_116_24 cx hB hy313 ky313 ex315 dX10_latestMeetingLink_19 (fun lb316 ub316 => ?_)
        refine lv_istore (lv' := [(4, .int (q_i x315)), (0, .ref v), (1, .int (q_i v6_1)), (2, .int (q_i v6_2)), (3, .int (q_i v6_3))]) cx.1 cx.2.1 dX10_latestMeetingLink_22 hl (by decide) rfl (fun ls hl => ?_)
        refine q_ald_n cx dX10_latestMeetingLink_24 rfl (lv_at hl 1 rfl) ?_
        refine lv_iload cx.1 cx.2.1 dX10_latestMeetingLink_25 (lv_at hl 0 rfl) ?_
        refine q_ald_n cx dX10_latestMeetingLink_27 rfl (lv_at hl 1 rfl) ?_
        refine lv_iload cx.1 cx.2.1 dX10_latestMeetingLink_28 (lv_at hl 0 rfl) ?_
        refine q_cVr (As := [.int (q_i x315)]) (rest := [.int (q_i x315), .ref v]) cx hB (fun _ h => h) hN hv kv (by decide) rfl (g_X10_nodeAt_4 l g hN hB.2.1 v hv kv x315 (by omega) (by omega)) q_cX10_66 q_dX10_nodeAt (by decide) rfl rfl hl.1 rfl (Nat.le_of_ble_eq_true rfl) dX10_latestMeetingLink_30 (fun y318 H locs f317 h319 hF hB => ?_)
        obtain ⟨rfl, hy318, ky318⟩ := h319
        obtain ⟨x320, ex320⟩ : ∃ zz, q_is (q_z f y318 3) zz := ⟨_, q_isr _⟩
        refine q_gX10_98_20 cx hB hy318 ky318 ex320 dX10_latestMeetingLink_33 (fun lb321 ub321 => ?_)
        refine q_ald_n cx dX10_latestMeetingLink_36 rfl (lv_at hl 1 rfl) ?_
        refine q_ild_n cx dX10_latestMeetingLink_37 rfl (lv_at hl 4 rfl) ?_
        refine q_cVr (As := [.int (q_i v6_3)]) (rest := [.int (q_i x320), .int (q_i x315), .ref v]) cx hB (fun _ h => h) hN hv kv (by decide) rfl (g_X10_linkAt_4 l g hN hB.2.1 v hv kv v6_3 (by omega) (by omega)) q_cX10_74 q_dX10_linkAt (by decide) rfl rfl hl.1 rfl (Nat.le_of_ble_eq_true rfl) dX10_latestMeetingLink_38 (fun y323 H locs f322 h324 hF hB => ?_)
        obtain ⟨rfl, hy323, ky323⟩ := h324
        obtain ⟨x325, ex325⟩ : ∃ zz, q_is (q_z f y323 1) zz := ⟨_, q_isr _⟩
        refine q_gX10_119_24 cx hB hy323 ky323 ex325 dX10_latestMeetingLink_41 (fun lb326 ub326 => ?_)
        refine q_cVi (As := [.int (q_i x315), .int (q_i x320), .int (q_i x325)]) (rest := []) cx hB (fun _ h => h) hN hv kv (by decide) rfl (g_X10_lateness_4 l g hN hB.2.1 v hv kv x315 (by omega) (by omega) x320 (by omega) (by omega) x325 (by omega) (by omega)) q_cX10_222 q_dX10_lateness (by decide) rfl rfl hl.1 rfl (Nat.le_of_ble_eq_true rfl) dX10_latestMeetingLink_44 (fun y328 H locs f327 ry328 h329 hF hB => ?_)
        obtain ⟨rfl, ly328, uy328⟩ := h329
        refine lv_istore (lv' := [(5, .int (q_i y328)), (4, .int (q_i x315)), (0, .ref v), (1, .int (q_i v6_1)), (2, .int (q_i v6_2)), (3, .int (q_i v6_3))]) cx.1 cx.2.1 dX10_latestMeetingLink_47 hl (by decide) rfl (fun ls hl => ?_)
        refine lv_iload cx.1 cx.2.1 dX10_latestMeetingLink_49 (lv_at hl 0 rfl) ?_
        refine q_ild_n cx dX10_latestMeetingLink_51 rfl (lv_at hl 4 rfl) ?_
        refine q_icle (tgt := 60) cx ⟨by omega, by omega⟩ ⟨by omega, by omega⟩ dX10_latestMeetingLink_52 (by decide) (fun c330 => ?_) (fun c330 => ?_)
        · exact J60 v6_1 (by omega) (by omega) v6_2 (by omega) (by omega) (by omega) H locs hB ls (lv_sub hl [2, 3, 4, 5] rfl)
        · refine q_ild_n cx dX10_latestMeetingLink_55 rfl (lv_at hl 5 rfl) ?_
          refine lv_istore_n (lv' := [(1, .int (q_i v6_3)), (5, .int (q_i y328)), (4, .int (q_i x315)), (0, .ref v), (2, .int (q_i v6_2)), (3, .int (q_i v6_3))]) cx.1 cx.2.1 dX10_latestMeetingLink_56 rfl hl (by decide) rfl (fun ls hl => ?_)
          refine lv_iload cx.1 cx.2.1 dX10_latestMeetingLink_57 (lv_at hl 1 rfl) ?_
          refine lv_istore_n (lv' := [(2, .int (q_i y328)), (1, .int (q_i v6_3)), (5, .int (q_i y328)), (4, .int (q_i x315)), (0, .ref v), (3, .int (q_i v6_3))]) cx.1 cx.2.1 dX10_latestMeetingLink_59 rfl hl (by decide) rfl (fun ls hl => ?_)
          exact J60 v6_3 (by omega) (by omega) y328 (by omega) (by omega) (by omega) H locs hB ls (lv_sub hl [4, 1, 0, 5] rfl)
  obtain ⟨H, hH⟩ : ∃ H : Heap, H = s.heap := ⟨_, rfl⟩
  obtain ⟨locs, hlocs⟩ : ∃ z : List Loc, z = [] := ⟨_, rfl⟩
  rw [← hH, ← hlocs] at hB
  rw [← hH, ← hlocs]
  refine q_iconst cx dX10_latestMeetingLink_0 ?_
  refine lv_istore_n (lv' := [(1, .int (q_i (-1))), (0, .ref v)]) cx.1 cx.2.1 dX10_latestMeetingLink_1 rfl hl (by decide) rfl (fun ls hl => ?_)
  refine q_iconst cx dX10_latestMeetingLink_2 ?_
  refine lv_istore_n (lv' := [(2, .int (q_i 0)), (1, .int (q_i (-1))), (0, .ref v)]) cx.1 cx.2.1 dX10_latestMeetingLink_3 rfl hl (by decide) rfl (fun ls hl => ?_)
  refine q_iconst cx dX10_latestMeetingLink_4 ?_
  refine lv_istore_n (lv' := [(3, .int (q_i 0)), (2, .int (q_i 0)), (1, .int (q_i (-1))), (0, .ref v)]) cx.1 cx.2.1 dX10_latestMeetingLink_5 rfl hl (by decide) rfl (fun ls hl => ?_)
  exact J6 ((Int.toNat (2147483647 - 0)) + 1) (-1) (by decide) (by decide) 0 (by decide) (by decide) 0 (by decide) (by decide) (Nat.lt_succ_self _) H locs hB ls (lv_sub hl [3, 2, 1, 0] rfl)
set_option maxHeartbeats 4000000 in
set_option maxRecDepth 100000 in
theorem g_X10_ticksToMostAwake (l : Launch) (g : q_G) {K : Nat → Nat} {L : List Nat} (hN : L.Nodup) {f : Nat → va_E} (hT : q_Ty g K L f) (v : Nat) (hv : v ∈ L) (kv : K v = 10) : q_Ct l g K L yX10_ticksToMostAwake cX10_ticksToMostAwake 5 (some .int) 4 92 [.ref v] f [] (q_Pi (fun (z : Int) (f1 : Nat → va_E) => f = f1 ∧ 1 ≤ z ∧ z ≤ 60)) := by
  refine q_ofb (by decide +kernel) hN hT (Nat.le_of_ble_eq_true rfl) ?_
  intro p e s m below meth c ls cx hr hlk hB hl
  have hl : lv_has ls 5 [(0, .ref v)] := hl
  have J6 : ∀ (n : Nat) (v6_1 : Int) (lv6_1 : 1 ≤ v6_1) (uv6_1 : v6_1 ≤ 60) (v6_2 : Int) (lv6_2 : 0 ≤ v6_2) (uv6_2 : v6_2 ≤ 63) (v6_3 : Int) (lv6_3 : 1 ≤ v6_3) (uv6_3 : v6_3 ≤ 61) (hmu : (Int.toNat (2147483647 - v6_3)) < n) (H : Heap) (locs : List Loc) (hB : q_B g K L (fun q => q ∈ L) [] f f s H locs) (ls : Array Slot) (hl : lv_has ls 5 [(0, .ref v), (1, .int (q_i v6_1)), (2, .int (q_i v6_2)), (3, .int (q_i v6_3))]), W p l e { frames := 4, cells := 0, slots := 0, locals := 92 } s m ([.ref v] : List Value).toArray below meth c H locs 0 0 (MQ below (q_Q g K L [] f (q_Pi (fun (z : Int) (f1 : Nat → va_E) => f = f1 ∧ 1 ≤ z ∧ z ≤ 60))) ([.ref v] : List Value).toArray s 0 0 (fun q => q ∈ L)) (F0 m 6 ls []) := by
    intro n
    induction n with
    | zero =>
      intro v6_1 lv6_1 uv6_1 v6_2 lv6_2 uv6_2 v6_3 lv6_3 uv6_3 hmu
      exact absurd hmu (Nat.not_lt_zero _)
    | succ n ih6 =>
      intro v6_1 lv6_1 uv6_1 v6_2 lv6_2 uv6_2 v6_3 lv6_3 uv6_3 hmu H locs hB ls hl
      have J35 : ∀ (v35_1 : Int) (lv35_1 : 1 ≤ v35_1) (uv35_1 : v35_1 ≤ 60) (v35_2 : Int) (lv35_2 : 0 ≤ v35_2) (uv35_2 : v35_2 ≤ 63) (buv6_3 : v6_3 ≤ 60) (H : Heap) (locs : List Loc) (hB : q_B g K L (fun q => q ∈ L) [] f f s H locs) (ls : Array Slot) (hl : lv_has ls 5 [(0, .ref v), (1, .int (q_i v35_1)), (2, .int (q_i v35_2)), (3, .int (q_i v6_3))]), W p l e { frames := 4, cells := 0, slots := 0, locals := 92 } s m ([.ref v] : List Value).toArray below meth c H locs 0 0 (MQ below (q_Q g K L [] f (q_Pi (fun (z : Int) (f1 : Nat → va_E) => f = f1 ∧ 1 ≤ z ∧ z ≤ 60))) ([.ref v] : List Value).toArray s 0 0 (fun q => q ∈ L)) (F0 m 35 ls []) := by
        intro v35_1 lv35_1 uv35_1 v35_2 lv35_2 uv35_2 buv6_3 H locs hB ls hl
        refine q_iinc (lv' := [(3, .int (q_i (v6_3 + 1))), (0, .ref v), (1, .int (q_i v35_1)), (2, .int (q_i v35_2))]) cx dX10_ticksToMostAwake_35 hl (k := 3) rfl (by decide) rfl (fun ls hl => ?_)
        refine lv_goto (tgt := 6) cx.1 cx.2.1 dX10_ticksToMostAwake_38 (by decide) ?_
        exact ih6 v35_1 (by omega) (by omega) v35_2 (by omega) (by omega) (v6_3 + 1) (by omega) (by omega) (by omega) H locs hB ls (lv_sub hl [1, 2, 3, 0] rfl)
      refine q_ild_n cx dX10_ticksToMostAwake_6 rfl (lv_at hl 3 rfl) ?_
      refine q_ald_n cx dX10_ticksToMostAwake_7 rfl (lv_at hl 0 rfl) ?_
      obtain ⟨x201, ex201⟩ : ∃ zz, q_is (q_z f v 6) zz := ⟨_, q_isr _⟩
      refine q_gX10_45 cx hB hv kv ex201 dX10_ticksToMostAwake_8 (fun lb202 ub202 => ?_)
      refine q_icgt (tgt := 41) cx ⟨by omega, by omega⟩ ⟨by omega, by omega⟩ dX10_ticksToMostAwake_11 (by decide) (fun c203 => ?_) (fun c203 => ?_)
      · refine q_ild_n cx dX10_ticksToMostAwake_41 rfl (lv_at hl 1 rfl) ?_
        refine q_iret cx hr hlk hB dX10_ticksToMostAwake_42 ⟨by omega, by omega⟩ ?_
        exact ⟨rfl, (by omega), (by omega)⟩
      · refine q_ald_n cx dX10_ticksToMostAwake_14 rfl (lv_at hl 0 rfl) ?_
        refine q_ild_n cx dX10_ticksToMostAwake_15 rfl (lv_at hl 3 rfl) ?_
        refine q_cVi (As := [.int (q_i v6_3)]) (rest := []) cx hB (fun _ h => h) hN hv kv (by decide) rfl (g_X10_awakeAfter l g hN hB.2.1 v hv kv v6_3 (by omega) (by omega)) q_cX10_225 q_dX10_awakeAfter (by decide) rfl rfl hl.1 rfl (Nat.le_of_ble_eq_true rfl) dX10_ticksToMostAwake_16 (fun y205 H locs f204 ry205 h206 hF hB => ?_)
        obtain rfl := h206
        refine q_cSi (As := [.int (q_i y205)]) (rest := []) cx hB (fun _ h => h) hN (g_Integer_bitCount l g hN hB.2.1 y205 (by omega) (by omega)) q_cX10_198 q_dJ6_bitCount_0f7a4 (by decide) rfl rfl hl.1 rfl (Nat.le_of_ble_eq_true rfl) dX10_ticksToMostAwake_19 (fun y208 H locs f207 ry208 h209 hF hB => ?_)
        obtain ⟨rfl, ly208, uy208⟩ := h209
        refine lv_istore (lv' := [(4, .int (q_i y208)), (0, .ref v), (1, .int (q_i v6_1)), (2, .int (q_i v6_2)), (3, .int (q_i v6_3))]) cx.1 cx.2.1 dX10_ticksToMostAwake_22 hl (by decide) rfl (fun ls hl => ?_)
        refine lv_iload cx.1 cx.2.1 dX10_ticksToMostAwake_24 (lv_at hl 0 rfl) ?_
        refine q_ild_n cx dX10_ticksToMostAwake_26 rfl (lv_at hl 3 rfl) ?_
        refine q_icle (tgt := 35) cx ⟨by omega, by omega⟩ ⟨by omega, by omega⟩ dX10_ticksToMostAwake_27 (by decide) (fun c210 => ?_) (fun c210 => ?_)
        · exact J35 v6_1 (by omega) (by omega) v6_2 (by omega) (by omega) (by omega) H locs hB ls (lv_sub hl [1, 2, 3, 4] rfl)
        · refine q_ild_n cx dX10_ticksToMostAwake_30 rfl (lv_at hl 4 rfl) ?_
          refine lv_istore_n (lv' := [(1, .int (q_i v6_3)), (4, .int (q_i y208)), (0, .ref v), (2, .int (q_i v6_2)), (3, .int (q_i v6_3))]) cx.1 cx.2.1 dX10_ticksToMostAwake_31 rfl hl (by decide) rfl (fun ls hl => ?_)
          refine lv_iload cx.1 cx.2.1 dX10_ticksToMostAwake_32 (lv_at hl 1 rfl) ?_
          refine lv_istore_n (lv' := [(2, .int (q_i y208)), (1, .int (q_i v6_3)), (4, .int (q_i y208)), (0, .ref v), (3, .int (q_i v6_3))]) cx.1 cx.2.1 dX10_ticksToMostAwake_34 rfl hl (by decide) rfl (fun ls hl => ?_)
          exact J35 v6_3 (by omega) (by omega) y208 (by omega) (by omega) (by omega) H locs hB ls (lv_sub hl [3, 1, 0, 4] rfl)
  obtain ⟨H, hH⟩ : ∃ H : Heap, H = s.heap := ⟨_, rfl⟩
  obtain ⟨locs, hlocs⟩ : ∃ z : List Loc, z = [] := ⟨_, rfl⟩
  rw [← hH, ← hlocs] at hB
  rw [← hH, ← hlocs]
  refine q_iconst cx dX10_ticksToMostAwake_0 ?_
  refine lv_istore_n (lv' := [(1, .int (q_i 1)), (0, .ref v)]) cx.1 cx.2.1 dX10_ticksToMostAwake_1 rfl hl (by decide) rfl (fun ls hl => ?_)
  refine q_iconst cx dX10_ticksToMostAwake_2 ?_
  refine lv_istore_n (lv' := [(2, .int (q_i 0)), (1, .int (q_i 1)), (0, .ref v)]) cx.1 cx.2.1 dX10_ticksToMostAwake_3 rfl hl (by decide) rfl (fun ls hl => ?_)
  refine q_iconst cx dX10_ticksToMostAwake_4 ?_
  refine lv_istore_n (lv' := [(3, .int (q_i 1)), (2, .int (q_i 0)), (1, .int (q_i 1)), (0, .ref v)]) cx.1 cx.2.1 dX10_ticksToMostAwake_5 rfl hl (by decide) rfl (fun ls hl => ?_)
  exact J6 ((Int.toNat (2147483647 - 1)) + 1) 1 (by decide) (by decide) 0 (by decide) (by decide) 1 (by decide) (by decide) (Nat.lt_succ_self _) H locs hB ls (lv_sub hl [3, 2, 1, 0] rfl)
set_option maxHeartbeats 4000000 in
set_option maxRecDepth 100000 in
theorem g_X10_ticksToMostAwake_1 (l : Launch) (g : q_G) {K : Nat → Nat} {L : List Nat} (hN : L.Nodup) {f : Nat → va_E} (hT : q_Ty g K L f) (v : Nat) (hv : v ∈ L) (kv : K v = 13) : q_Ct l g K L yX10_ticksToMostAwake cX10_ticksToMostAwake 5 (some .int) 4 92 [.ref v] f [] (q_Pi (fun (z : Int) (f1 : Nat → va_E) => f = f1 ∧ 1 ≤ z ∧ z ≤ 60)) := by
  refine q_ofb (by decide +kernel) hN hT (Nat.le_of_ble_eq_true rfl) ?_
  intro p e s m below meth c ls cx hr hlk hB hl
  have hl : lv_has ls 5 [(0, .ref v)] := hl
  have J6 : ∀ (n : Nat) (v6_1 : Int) (lv6_1 : 1 ≤ v6_1) (uv6_1 : v6_1 ≤ 60) (v6_2 : Int) (lv6_2 : 0 ≤ v6_2) (uv6_2 : v6_2 ≤ 63) (v6_3 : Int) (lv6_3 : 1 ≤ v6_3) (uv6_3 : v6_3 ≤ 61) (hmu : (Int.toNat (2147483647 - v6_3)) < n) (H : Heap) (locs : List Loc) (hB : q_B g K L (fun q => q ∈ L) [] f f s H locs) (ls : Array Slot) (hl : lv_has ls 5 [(0, .ref v), (1, .int (q_i v6_1)), (2, .int (q_i v6_2)), (3, .int (q_i v6_3))]), W p l e { frames := 4, cells := 0, slots := 0, locals := 92 } s m ([.ref v] : List Value).toArray below meth c H locs 0 0 (MQ below (q_Q g K L [] f (q_Pi (fun (z : Int) (f1 : Nat → va_E) => f = f1 ∧ 1 ≤ z ∧ z ≤ 60))) ([.ref v] : List Value).toArray s 0 0 (fun q => q ∈ L)) (F0 m 6 ls []) := by
    intro n
    induction n with
    | zero =>
      intro v6_1 lv6_1 uv6_1 v6_2 lv6_2 uv6_2 v6_3 lv6_3 uv6_3 hmu
      exact absurd hmu (Nat.not_lt_zero _)
    | succ n ih6 =>
      intro v6_1 lv6_1 uv6_1 v6_2 lv6_2 uv6_2 v6_3 lv6_3 uv6_3 hmu H locs hB ls hl
      have J35 : ∀ (v35_1 : Int) (lv35_1 : 1 ≤ v35_1) (uv35_1 : v35_1 ≤ 60) (v35_2 : Int) (lv35_2 : 0 ≤ v35_2) (uv35_2 : v35_2 ≤ 63) (buv6_3 : v6_3 ≤ 60) (H : Heap) (locs : List Loc) (hB : q_B g K L (fun q => q ∈ L) [] f f s H locs) (ls : Array Slot) (hl : lv_has ls 5 [(0, .ref v), (1, .int (q_i v35_1)), (2, .int (q_i v35_2)), (3, .int (q_i v6_3))]), W p l e { frames := 4, cells := 0, slots := 0, locals := 92 } s m ([.ref v] : List Value).toArray below meth c H locs 0 0 (MQ below (q_Q g K L [] f (q_Pi (fun (z : Int) (f1 : Nat → va_E) => f = f1 ∧ 1 ≤ z ∧ z ≤ 60))) ([.ref v] : List Value).toArray s 0 0 (fun q => q ∈ L)) (F0 m 35 ls []) := by
        intro v35_1 lv35_1 uv35_1 v35_2 lv35_2 uv35_2 buv6_3 H locs hB ls hl
        refine q_iinc (lv' := [(3, .int (q_i (v6_3 + 1))), (0, .ref v), (1, .int (q_i v35_1)), (2, .int (q_i v35_2))]) cx dX10_ticksToMostAwake_35 hl (k := 3) rfl (by decide) rfl (fun ls hl => ?_)
        refine lv_goto (tgt := 6) cx.1 cx.2.1 dX10_ticksToMostAwake_38 (by decide) ?_
        exact ih6 v35_1 (by omega) (by omega) v35_2 (by omega) (by omega) (v6_3 + 1) (by omega) (by omega) (by omega) H locs hB ls (lv_sub hl [1, 2, 3, 0] rfl)
      refine q_ild_n cx dX10_ticksToMostAwake_6 rfl (lv_at hl 3 rfl) ?_
      refine q_ald_n cx dX10_ticksToMostAwake_7 rfl (lv_at hl 0 rfl) ?_
      obtain ⟨x201, ex201⟩ : ∃ zz, q_is (q_z f v 6) zz := ⟨_, q_isr _⟩
      refine q_gX10_45_13 cx hB hv kv ex201 dX10_ticksToMostAwake_8 (fun lb202 ub202 => ?_)
      refine q_icgt (tgt := 41) cx ⟨by omega, by omega⟩ ⟨by omega, by omega⟩ dX10_ticksToMostAwake_11 (by decide) (fun c203 => ?_) (fun c203 => ?_)
      · refine q_ild_n cx dX10_ticksToMostAwake_41 rfl (lv_at hl 1 rfl) ?_
        refine q_iret cx hr hlk hB dX10_ticksToMostAwake_42 ⟨by omega, by omega⟩ ?_
        exact ⟨rfl, (by omega), (by omega)⟩
      · refine q_ald_n cx dX10_ticksToMostAwake_14 rfl (lv_at hl 0 rfl) ?_
        refine q_ild_n cx dX10_ticksToMostAwake_15 rfl (lv_at hl 3 rfl) ?_
        refine q_cVi (As := [.int (q_i v6_3)]) (rest := []) cx hB (fun _ h => h) hN hv kv (by decide) rfl (g_X10_awakeAfter_1 l g hN hB.2.1 v hv kv v6_3 (by omega) (by omega)) q_cX10_225 q_dX10_awakeAfter (by decide) rfl rfl hl.1 rfl (Nat.le_of_ble_eq_true rfl) dX10_ticksToMostAwake_16 (fun y205 H locs f204 ry205 h206 hF hB => ?_)
        obtain rfl := h206
        refine q_cSi (As := [.int (q_i y205)]) (rest := []) cx hB (fun _ h => h) hN (g_Integer_bitCount l g hN hB.2.1 y205 (by omega) (by omega)) q_cX10_198 q_dJ6_bitCount_0f7a4 (by decide) rfl rfl hl.1 rfl (Nat.le_of_ble_eq_true rfl) dX10_ticksToMostAwake_19 (fun y208 H locs f207 ry208 h209 hF hB => ?_)
        obtain ⟨rfl, ly208, uy208⟩ := h209
        refine lv_istore (lv' := [(4, .int (q_i y208)), (0, .ref v), (1, .int (q_i v6_1)), (2, .int (q_i v6_2)), (3, .int (q_i v6_3))]) cx.1 cx.2.1 dX10_ticksToMostAwake_22 hl (by decide) rfl (fun ls hl => ?_)
        refine lv_iload cx.1 cx.2.1 dX10_ticksToMostAwake_24 (lv_at hl 0 rfl) ?_
        refine q_ild_n cx dX10_ticksToMostAwake_26 rfl (lv_at hl 3 rfl) ?_
        refine q_icle (tgt := 35) cx ⟨by omega, by omega⟩ ⟨by omega, by omega⟩ dX10_ticksToMostAwake_27 (by decide) (fun c210 => ?_) (fun c210 => ?_)
        · exact J35 v6_1 (by omega) (by omega) v6_2 (by omega) (by omega) (by omega) H locs hB ls (lv_sub hl [1, 2, 3, 4] rfl)
        · refine q_ild_n cx dX10_ticksToMostAwake_30 rfl (lv_at hl 4 rfl) ?_
          refine lv_istore_n (lv' := [(1, .int (q_i v6_3)), (4, .int (q_i y208)), (0, .ref v), (2, .int (q_i v6_2)), (3, .int (q_i v6_3))]) cx.1 cx.2.1 dX10_ticksToMostAwake_31 rfl hl (by decide) rfl (fun ls hl => ?_)
          refine lv_iload cx.1 cx.2.1 dX10_ticksToMostAwake_32 (lv_at hl 1 rfl) ?_
          refine lv_istore_n (lv' := [(2, .int (q_i y208)), (1, .int (q_i v6_3)), (4, .int (q_i y208)), (0, .ref v), (3, .int (q_i v6_3))]) cx.1 cx.2.1 dX10_ticksToMostAwake_34 rfl hl (by decide) rfl (fun ls hl => ?_)
          exact J35 v6_3 (by omega) (by omega) y208 (by omega) (by omega) (by omega) H locs hB ls (lv_sub hl [3, 1, 0, 4] rfl)
  obtain ⟨H, hH⟩ : ∃ H : Heap, H = s.heap := ⟨_, rfl⟩
  obtain ⟨locs, hlocs⟩ : ∃ z : List Loc, z = [] := ⟨_, rfl⟩
  rw [← hH, ← hlocs] at hB
  rw [← hH, ← hlocs]
  refine q_iconst cx dX10_ticksToMostAwake_0 ?_
  refine lv_istore_n (lv' := [(1, .int (q_i 1)), (0, .ref v)]) cx.1 cx.2.1 dX10_ticksToMostAwake_1 rfl hl (by decide) rfl (fun ls hl => ?_)
  refine q_iconst cx dX10_ticksToMostAwake_2 ?_
  refine lv_istore_n (lv' := [(2, .int (q_i 0)), (1, .int (q_i 1)), (0, .ref v)]) cx.1 cx.2.1 dX10_ticksToMostAwake_3 rfl hl (by decide) rfl (fun ls hl => ?_)
  refine q_iconst cx dX10_ticksToMostAwake_4 ?_
  refine lv_istore_n (lv' := [(3, .int (q_i 1)), (2, .int (q_i 0)), (1, .int (q_i 1)), (0, .ref v)]) cx.1 cx.2.1 dX10_ticksToMostAwake_5 rfl hl (by decide) rfl (fun ls hl => ?_)
  exact J6 ((Int.toNat (2147483647 - 1)) + 1) 1 (by decide) (by decide) 0 (by decide) (by decide) 1 (by decide) (by decide) (Nat.lt_succ_self _) H locs hB ls (lv_sub hl [3, 2, 1, 0] rfl)
set_option maxHeartbeats 4000000 in
set_option maxRecDepth 100000 in
theorem g_X10_ticksToMostAwake_2 (l : Launch) (g : q_G) {K : Nat → Nat} {L : List Nat} (hN : L.Nodup) {f : Nat → va_E} (hT : q_Ty g K L f) (v : Nat) (hv : v ∈ L) (kv : K v = 14) : q_Ct l g K L yX10_ticksToMostAwake cX10_ticksToMostAwake 5 (some .int) 4 92 [.ref v] f [] (q_Pi (fun (z : Int) (f1 : Nat → va_E) => f = f1 ∧ 1 ≤ z ∧ z ≤ 60)) := by
  refine q_ofb (by decide +kernel) hN hT (Nat.le_of_ble_eq_true rfl) ?_
  intro p e s m below meth c ls cx hr hlk hB hl
  have hl : lv_has ls 5 [(0, .ref v)] := hl
  have J6 : ∀ (n : Nat) (v6_1 : Int) (lv6_1 : 1 ≤ v6_1) (uv6_1 : v6_1 ≤ 60) (v6_2 : Int) (lv6_2 : 0 ≤ v6_2) (uv6_2 : v6_2 ≤ 63) (v6_3 : Int) (lv6_3 : 1 ≤ v6_3) (uv6_3 : v6_3 ≤ 61) (hmu : (Int.toNat (2147483647 - v6_3)) < n) (H : Heap) (locs : List Loc) (hB : q_B g K L (fun q => q ∈ L) [] f f s H locs) (ls : Array Slot) (hl : lv_has ls 5 [(0, .ref v), (1, .int (q_i v6_1)), (2, .int (q_i v6_2)), (3, .int (q_i v6_3))]), W p l e { frames := 4, cells := 0, slots := 0, locals := 92 } s m ([.ref v] : List Value).toArray below meth c H locs 0 0 (MQ below (q_Q g K L [] f (q_Pi (fun (z : Int) (f1 : Nat → va_E) => f = f1 ∧ 1 ≤ z ∧ z ≤ 60))) ([.ref v] : List Value).toArray s 0 0 (fun q => q ∈ L)) (F0 m 6 ls []) := by
    intro n
    induction n with
    | zero =>
      intro v6_1 lv6_1 uv6_1 v6_2 lv6_2 uv6_2 v6_3 lv6_3 uv6_3 hmu
      exact absurd hmu (Nat.not_lt_zero _)
    | succ n ih6 =>
      intro v6_1 lv6_1 uv6_1 v6_2 lv6_2 uv6_2 v6_3 lv6_3 uv6_3 hmu H locs hB ls hl
      have J35 : ∀ (v35_1 : Int) (lv35_1 : 1 ≤ v35_1) (uv35_1 : v35_1 ≤ 60) (v35_2 : Int) (lv35_2 : 0 ≤ v35_2) (uv35_2 : v35_2 ≤ 63) (buv6_3 : v6_3 ≤ 60) (H : Heap) (locs : List Loc) (hB : q_B g K L (fun q => q ∈ L) [] f f s H locs) (ls : Array Slot) (hl : lv_has ls 5 [(0, .ref v), (1, .int (q_i v35_1)), (2, .int (q_i v35_2)), (3, .int (q_i v6_3))]), W p l e { frames := 4, cells := 0, slots := 0, locals := 92 } s m ([.ref v] : List Value).toArray below meth c H locs 0 0 (MQ below (q_Q g K L [] f (q_Pi (fun (z : Int) (f1 : Nat → va_E) => f = f1 ∧ 1 ≤ z ∧ z ≤ 60))) ([.ref v] : List Value).toArray s 0 0 (fun q => q ∈ L)) (F0 m 35 ls []) := by
        intro v35_1 lv35_1 uv35_1 v35_2 lv35_2 uv35_2 buv6_3 H locs hB ls hl
        refine q_iinc (lv' := [(3, .int (q_i (v6_3 + 1))), (0, .ref v), (1, .int (q_i v35_1)), (2, .int (q_i v35_2))]) cx dX10_ticksToMostAwake_35 hl (k := 3) rfl (by decide) rfl (fun ls hl => ?_)
        refine lv_goto (tgt := 6) cx.1 cx.2.1 dX10_ticksToMostAwake_38 (by decide) ?_
        exact ih6 v35_1 (by omega) (by omega) v35_2 (by omega) (by omega) (v6_3 + 1) (by omega) (by omega) (by omega) H locs hB ls (lv_sub hl [1, 2, 3, 0] rfl)
      refine q_ild_n cx dX10_ticksToMostAwake_6 rfl (lv_at hl 3 rfl) ?_
      refine q_ald_n cx dX10_ticksToMostAwake_7 rfl (lv_at hl 0 rfl) ?_
      obtain ⟨x201, ex201⟩ : ∃ zz, q_is (q_z f v 6) zz := ⟨_, q_isr _⟩
      refine q_gX10_45_14 cx hB hv kv ex201 dX10_ticksToMostAwake_8 (fun lb202 ub202 => ?_)
      refine q_icgt (tgt := 41) cx ⟨by omega, by omega⟩ ⟨by omega, by omega⟩ dX10_ticksToMostAwake_11 (by decide) (fun c203 => ?_) (fun c203 => ?_)
      · refine q_ild_n cx dX10_ticksToMostAwake_41 rfl (lv_at hl 1 rfl) ?_
        refine q_iret cx hr hlk hB dX10_ticksToMostAwake_42 ⟨by omega, by omega⟩ ?_
        exact ⟨rfl, (by omega), (by omega)⟩
      · refine q_ald_n cx dX10_ticksToMostAwake_14 rfl (lv_at hl 0 rfl) ?_
        refine q_ild_n cx dX10_ticksToMostAwake_15 rfl (lv_at hl 3 rfl) ?_
        refine q_cVi (As := [.int (q_i v6_3)]) (rest := []) cx hB (fun _ h => h) hN hv kv (by decide) rfl (g_X10_awakeAfter_2 l g hN hB.2.1 v hv kv v6_3 (by omega) (by omega)) q_cX10_225 q_dX10_awakeAfter (by decide) rfl rfl hl.1 rfl (Nat.le_of_ble_eq_true rfl) dX10_ticksToMostAwake_16 (fun y205 H locs f204 ry205 h206 hF hB => ?_)
        obtain rfl := h206
        refine q_cSi (As := [.int (q_i y205)]) (rest := []) cx hB (fun _ h => h) hN (g_Integer_bitCount l g hN hB.2.1 y205 (by omega) (by omega)) q_cX10_198 q_dJ6_bitCount_0f7a4 (by decide) rfl rfl hl.1 rfl (Nat.le_of_ble_eq_true rfl) dX10_ticksToMostAwake_19 (fun y208 H locs f207 ry208 h209 hF hB => ?_)
        obtain ⟨rfl, ly208, uy208⟩ := h209
        refine lv_istore (lv' := [(4, .int (q_i y208)), (0, .ref v), (1, .int (q_i v6_1)), (2, .int (q_i v6_2)), (3, .int (q_i v6_3))]) cx.1 cx.2.1 dX10_ticksToMostAwake_22 hl (by decide) rfl (fun ls hl => ?_)
        refine lv_iload cx.1 cx.2.1 dX10_ticksToMostAwake_24 (lv_at hl 0 rfl) ?_
        refine q_ild_n cx dX10_ticksToMostAwake_26 rfl (lv_at hl 3 rfl) ?_
        refine q_icle (tgt := 35) cx ⟨by omega, by omega⟩ ⟨by omega, by omega⟩ dX10_ticksToMostAwake_27 (by decide) (fun c210 => ?_) (fun c210 => ?_)
        · exact J35 v6_1 (by omega) (by omega) v6_2 (by omega) (by omega) (by omega) H locs hB ls (lv_sub hl [1, 2, 3, 4] rfl)
        · refine q_ild_n cx dX10_ticksToMostAwake_30 rfl (lv_at hl 4 rfl) ?_
          refine lv_istore_n (lv' := [(1, .int (q_i v6_3)), (4, .int (q_i y208)), (0, .ref v), (2, .int (q_i v6_2)), (3, .int (q_i v6_3))]) cx.1 cx.2.1 dX10_ticksToMostAwake_31 rfl hl (by decide) rfl (fun ls hl => ?_)
          refine lv_iload cx.1 cx.2.1 dX10_ticksToMostAwake_32 (lv_at hl 1 rfl) ?_
          refine lv_istore_n (lv' := [(2, .int (q_i y208)), (1, .int (q_i v6_3)), (4, .int (q_i y208)), (0, .ref v), (3, .int (q_i v6_3))]) cx.1 cx.2.1 dX10_ticksToMostAwake_34 rfl hl (by decide) rfl (fun ls hl => ?_)
          exact J35 v6_3 (by omega) (by omega) y208 (by omega) (by omega) (by omega) H locs hB ls (lv_sub hl [3, 1, 0, 4] rfl)
  obtain ⟨H, hH⟩ : ∃ H : Heap, H = s.heap := ⟨_, rfl⟩
  obtain ⟨locs, hlocs⟩ : ∃ z : List Loc, z = [] := ⟨_, rfl⟩
  rw [← hH, ← hlocs] at hB
  rw [← hH, ← hlocs]
  refine q_iconst cx dX10_ticksToMostAwake_0 ?_
  refine lv_istore_n (lv' := [(1, .int (q_i 1)), (0, .ref v)]) cx.1 cx.2.1 dX10_ticksToMostAwake_1 rfl hl (by decide) rfl (fun ls hl => ?_)
  refine q_iconst cx dX10_ticksToMostAwake_2 ?_
  refine lv_istore_n (lv' := [(2, .int (q_i 0)), (1, .int (q_i 1)), (0, .ref v)]) cx.1 cx.2.1 dX10_ticksToMostAwake_3 rfl hl (by decide) rfl (fun ls hl => ?_)
  refine q_iconst cx dX10_ticksToMostAwake_4 ?_
  refine lv_istore_n (lv' := [(3, .int (q_i 1)), (2, .int (q_i 0)), (1, .int (q_i 1)), (0, .ref v)]) cx.1 cx.2.1 dX10_ticksToMostAwake_5 rfl hl (by decide) rfl (fun ls hl => ?_)
  exact J6 ((Int.toNat (2147483647 - 1)) + 1) 1 (by decide) (by decide) 0 (by decide) (by decide) 1 (by decide) (by decide) (Nat.lt_succ_self _) H locs hB ls (lv_sub hl [3, 2, 1, 0] rfl)
set_option maxHeartbeats 4000000 in
set_option maxRecDepth 100000 in
theorem g_X10_ticksToMostAwake_3 (l : Launch) (g : q_G) {K : Nat → Nat} {L : List Nat} (hN : L.Nodup) {f : Nat → va_E} (hT : q_Ty g K L f) (v : Nat) (hv : v ∈ L) (kv : K v = 15) : q_Ct l g K L yX10_ticksToMostAwake cX10_ticksToMostAwake 5 (some .int) 4 92 [.ref v] f [] (q_Pi (fun (z : Int) (f1 : Nat → va_E) => f = f1 ∧ 1 ≤ z ∧ z ≤ 60)) := by
  refine q_ofb (by decide +kernel) hN hT (Nat.le_of_ble_eq_true rfl) ?_
  intro p e s m below meth c ls cx hr hlk hB hl
  have hl : lv_has ls 5 [(0, .ref v)] := hl
  have J6 : ∀ (n : Nat) (v6_1 : Int) (lv6_1 : 1 ≤ v6_1) (uv6_1 : v6_1 ≤ 60) (v6_2 : Int) (lv6_2 : 0 ≤ v6_2) (uv6_2 : v6_2 ≤ 63) (v6_3 : Int) (lv6_3 : 1 ≤ v6_3) (uv6_3 : v6_3 ≤ 61) (hmu : (Int.toNat (2147483647 - v6_3)) < n) (H : Heap) (locs : List Loc) (hB : q_B g K L (fun q => q ∈ L) [] f f s H locs) (ls : Array Slot) (hl : lv_has ls 5 [(0, .ref v), (1, .int (q_i v6_1)), (2, .int (q_i v6_2)), (3, .int (q_i v6_3))]), W p l e { frames := 4, cells := 0, slots := 0, locals := 92 } s m ([.ref v] : List Value).toArray below meth c H locs 0 0 (MQ below (q_Q g K L [] f (q_Pi (fun (z : Int) (f1 : Nat → va_E) => f = f1 ∧ 1 ≤ z ∧ z ≤ 60))) ([.ref v] : List Value).toArray s 0 0 (fun q => q ∈ L)) (F0 m 6 ls []) := by
    intro n
    induction n with
    | zero =>
      intro v6_1 lv6_1 uv6_1 v6_2 lv6_2 uv6_2 v6_3 lv6_3 uv6_3 hmu
      exact absurd hmu (Nat.not_lt_zero _)
    | succ n ih6 =>
      intro v6_1 lv6_1 uv6_1 v6_2 lv6_2 uv6_2 v6_3 lv6_3 uv6_3 hmu H locs hB ls hl
      have J35 : ∀ (v35_1 : Int) (lv35_1 : 1 ≤ v35_1) (uv35_1 : v35_1 ≤ 60) (v35_2 : Int) (lv35_2 : 0 ≤ v35_2) (uv35_2 : v35_2 ≤ 63) (buv6_3 : v6_3 ≤ 60) (H : Heap) (locs : List Loc) (hB : q_B g K L (fun q => q ∈ L) [] f f s H locs) (ls : Array Slot) (hl : lv_has ls 5 [(0, .ref v), (1, .int (q_i v35_1)), (2, .int (q_i v35_2)), (3, .int (q_i v6_3))]), W p l e { frames := 4, cells := 0, slots := 0, locals := 92 } s m ([.ref v] : List Value).toArray below meth c H locs 0 0 (MQ below (q_Q g K L [] f (q_Pi (fun (z : Int) (f1 : Nat → va_E) => f = f1 ∧ 1 ≤ z ∧ z ≤ 60))) ([.ref v] : List Value).toArray s 0 0 (fun q => q ∈ L)) (F0 m 35 ls []) := by
        intro v35_1 lv35_1 uv35_1 v35_2 lv35_2 uv35_2 buv6_3 H locs hB ls hl
        refine q_iinc (lv' := [(3, .int (q_i (v6_3 + 1))), (0, .ref v), (1, .int (q_i v35_1)), (2, .int (q_i v35_2))]) cx dX10_ticksToMostAwake_35 hl (k := 3) rfl (by decide) rfl (fun ls hl => ?_)
        refine lv_goto (tgt := 6) cx.1 cx.2.1 dX10_ticksToMostAwake_38 (by decide) ?_
        exact ih6 v35_1 (by omega) (by omega) v35_2 (by omega) (by omega) (v6_3 + 1) (by omega) (by omega) (by omega) H locs hB ls (lv_sub hl [1, 2, 3, 0] rfl)
      refine q_ild_n cx dX10_ticksToMostAwake_6 rfl (lv_at hl 3 rfl) ?_
      refine q_ald_n cx dX10_ticksToMostAwake_7 rfl (lv_at hl 0 rfl) ?_
      obtain ⟨x201, ex201⟩ : ∃ zz, q_is (q_z f v 6) zz := ⟨_, q_isr _⟩
      refine q_gX10_45_15 cx hB hv kv ex201 dX10_ticksToMostAwake_8 (fun lb202 ub202 => ?_)
      refine q_icgt (tgt := 41) cx ⟨by omega, by omega⟩ ⟨by omega, by omega⟩ dX10_ticksToMostAwake_11 (by decide) (fun c203 => ?_) (fun c203 => ?_)
      · refine q_ild_n cx dX10_ticksToMostAwake_41 rfl (lv_at hl 1 rfl) ?_
        refine q_iret cx hr hlk hB dX10_ticksToMostAwake_42 ⟨by omega, by omega⟩ ?_
        exact ⟨rfl, (by omega), (by omega)⟩
      · refine q_ald_n cx dX10_ticksToMostAwake_14 rfl (lv_at hl 0 rfl) ?_
        refine q_ild_n cx dX10_ticksToMostAwake_15 rfl (lv_at hl 3 rfl) ?_
        refine q_cVi (As := [.int (q_i v6_3)]) (rest := []) cx hB (fun _ h => h) hN hv kv (by decide) rfl (g_X10_awakeAfter_3 l g hN hB.2.1 v hv kv v6_3 (by omega) (by omega)) q_cX10_225 q_dX10_awakeAfter (by decide) rfl rfl hl.1 rfl (Nat.le_of_ble_eq_true rfl) dX10_ticksToMostAwake_16 (fun y205 H locs f204 ry205 h206 hF hB => ?_)
        obtain rfl := h206
        refine q_cSi (As := [.int (q_i y205)]) (rest := []) cx hB (fun _ h => h) hN (g_Integer_bitCount l g hN hB.2.1 y205 (by omega) (by omega)) q_cX10_198 q_dJ6_bitCount_0f7a4 (by decide) rfl rfl hl.1 rfl (Nat.le_of_ble_eq_true rfl) dX10_ticksToMostAwake_19 (fun y208 H locs f207 ry208 h209 hF hB => ?_)
        obtain ⟨rfl, ly208, uy208⟩ := h209
        refine lv_istore (lv' := [(4, .int (q_i y208)), (0, .ref v), (1, .int (q_i v6_1)), (2, .int (q_i v6_2)), (3, .int (q_i v6_3))]) cx.1 cx.2.1 dX10_ticksToMostAwake_22 hl (by decide) rfl (fun ls hl => ?_)
        refine lv_iload cx.1 cx.2.1 dX10_ticksToMostAwake_24 (lv_at hl 0 rfl) ?_
        refine q_ild_n cx dX10_ticksToMostAwake_26 rfl (lv_at hl 3 rfl) ?_
        refine q_icle (tgt := 35) cx ⟨by omega, by omega⟩ ⟨by omega, by omega⟩ dX10_ticksToMostAwake_27 (by decide) (fun c210 => ?_) (fun c210 => ?_)
        · exact J35 v6_1 (by omega) (by omega) v6_2 (by omega) (by omega) (by omega) H locs hB ls (lv_sub hl [1, 2, 3, 4] rfl)
        · refine q_ild_n cx dX10_ticksToMostAwake_30 rfl (lv_at hl 4 rfl) ?_
          refine lv_istore_n (lv' := [(1, .int (q_i v6_3)), (4, .int (q_i y208)), (0, .ref v), (2, .int (q_i v6_2)), (3, .int (q_i v6_3))]) cx.1 cx.2.1 dX10_ticksToMostAwake_31 rfl hl (by decide) rfl (fun ls hl => ?_)
          refine lv_iload cx.1 cx.2.1 dX10_ticksToMostAwake_32 (lv_at hl 1 rfl) ?_
          refine lv_istore_n (lv' := [(2, .int (q_i y208)), (1, .int (q_i v6_3)), (4, .int (q_i y208)), (0, .ref v), (3, .int (q_i v6_3))]) cx.1 cx.2.1 dX10_ticksToMostAwake_34 rfl hl (by decide) rfl (fun ls hl => ?_)
          exact J35 v6_3 (by omega) (by omega) y208 (by omega) (by omega) (by omega) H locs hB ls (lv_sub hl [3, 1, 0, 4] rfl)
  obtain ⟨H, hH⟩ : ∃ H : Heap, H = s.heap := ⟨_, rfl⟩
  obtain ⟨locs, hlocs⟩ : ∃ z : List Loc, z = [] := ⟨_, rfl⟩
  rw [← hH, ← hlocs] at hB
  rw [← hH, ← hlocs]
  refine q_iconst cx dX10_ticksToMostAwake_0 ?_
  refine lv_istore_n (lv' := [(1, .int (q_i 1)), (0, .ref v)]) cx.1 cx.2.1 dX10_ticksToMostAwake_1 rfl hl (by decide) rfl (fun ls hl => ?_)
  refine q_iconst cx dX10_ticksToMostAwake_2 ?_
  refine lv_istore_n (lv' := [(2, .int (q_i 0)), (1, .int (q_i 1)), (0, .ref v)]) cx.1 cx.2.1 dX10_ticksToMostAwake_3 rfl hl (by decide) rfl (fun ls hl => ?_)
  refine q_iconst cx dX10_ticksToMostAwake_4 ?_
  refine lv_istore_n (lv' := [(3, .int (q_i 1)), (2, .int (q_i 0)), (1, .int (q_i 1)), (0, .ref v)]) cx.1 cx.2.1 dX10_ticksToMostAwake_5 rfl hl (by decide) rfl (fun ls hl => ?_)
  exact J6 ((Int.toNat (2147483647 - 1)) + 1) 1 (by decide) (by decide) 0 (by decide) (by decide) 1 (by decide) (by decide) (Nat.lt_succ_self _) H locs hB ls (lv_sub hl [3, 2, 1, 0] rfl)
set_option maxHeartbeats 4000000 in
set_option maxRecDepth 100000 in
theorem g_X10_ticksToMostAwake_4 (l : Launch) (g : q_G) {K : Nat → Nat} {L : List Nat} (hN : L.Nodup) {f : Nat → va_E} (hT : q_Ty g K L f) (v : Nat) (hv : v ∈ L) (kv : K v = 16) : q_Ct l g K L yX10_ticksToMostAwake cX10_ticksToMostAwake 5 (some .int) 4 92 [.ref v] f [] (q_Pi (fun (z : Int) (f1 : Nat → va_E) => f = f1 ∧ 1 ≤ z ∧ z ≤ 60)) := by
  refine q_ofb (by decide +kernel) hN hT (Nat.le_of_ble_eq_true rfl) ?_
  intro p e s m below meth c ls cx hr hlk hB hl
  have hl : lv_has ls 5 [(0, .ref v)] := hl
  have J6 : ∀ (n : Nat) (v6_1 : Int) (lv6_1 : 1 ≤ v6_1) (uv6_1 : v6_1 ≤ 60) (v6_2 : Int) (lv6_2 : 0 ≤ v6_2) (uv6_2 : v6_2 ≤ 63) (v6_3 : Int) (lv6_3 : 1 ≤ v6_3) (uv6_3 : v6_3 ≤ 61) (hmu : (Int.toNat (2147483647 - v6_3)) < n) (H : Heap) (locs : List Loc) (hB : q_B g K L (fun q => q ∈ L) [] f f s H locs) (ls : Array Slot) (hl : lv_has ls 5 [(0, .ref v), (1, .int (q_i v6_1)), (2, .int (q_i v6_2)), (3, .int (q_i v6_3))]), W p l e { frames := 4, cells := 0, slots := 0, locals := 92 } s m ([.ref v] : List Value).toArray below meth c H locs 0 0 (MQ below (q_Q g K L [] f (q_Pi (fun (z : Int) (f1 : Nat → va_E) => f = f1 ∧ 1 ≤ z ∧ z ≤ 60))) ([.ref v] : List Value).toArray s 0 0 (fun q => q ∈ L)) (F0 m 6 ls []) := by
    intro n
    induction n with
    | zero =>
      intro v6_1 lv6_1 uv6_1 v6_2 lv6_2 uv6_2 v6_3 lv6_3 uv6_3 hmu
      exact absurd hmu (Nat.not_lt_zero _)
    | succ n ih6 =>
      intro v6_1 lv6_1 uv6_1 v6_2 lv6_2 uv6_2 v6_3 lv6_3 uv6_3 hmu H locs hB ls hl
      have J35 : ∀ (v35_1 : Int) (lv35_1 : 1 ≤ v35_1) (uv35_1 : v35_1 ≤ 60) (v35_2 : Int) (lv35_2 : 0 ≤ v35_2) (uv35_2 : v35_2 ≤ 63) (buv6_3 : v6_3 ≤ 60) (H : Heap) (locs : List Loc) (hB : q_B g K L (fun q => q ∈ L) [] f f s H locs) (ls : Array Slot) (hl : lv_has ls 5 [(0, .ref v), (1, .int (q_i v35_1)), (2, .int (q_i v35_2)), (3, .int (q_i v6_3))]), W p l e { frames := 4, cells := 0, slots := 0, locals := 92 } s m ([.ref v] : List Value).toArray below meth c H locs 0 0 (MQ below (q_Q g K L [] f (q_Pi (fun (z : Int) (f1 : Nat → va_E) => f = f1 ∧ 1 ≤ z ∧ z ≤ 60))) ([.ref v] : List Value).toArray s 0 0 (fun q => q ∈ L)) (F0 m 35 ls []) := by
        intro v35_1 lv35_1 uv35_1 v35_2 lv35_2 uv35_2 buv6_3 H locs hB ls hl
        refine q_iinc (lv' := [(3, .int (q_i (v6_3 + 1))), (0, .ref v), (1, .int (q_i v35_1)), (2, .int (q_i v35_2))]) cx dX10_ticksToMostAwake_35 hl (k := 3) rfl (by decide) rfl (fun ls hl => ?_)
        refine lv_goto (tgt := 6) cx.1 cx.2.1 dX10_ticksToMostAwake_38 (by decide) ?_
        exact ih6 v35_1 (by omega) (by omega) v35_2 (by omega) (by omega) (v6_3 + 1) (by omega) (by omega) (by omega) H locs hB ls (lv_sub hl [1, 2, 3, 0] rfl)
      refine q_ild_n cx dX10_ticksToMostAwake_6 rfl (lv_at hl 3 rfl) ?_
      refine q_ald_n cx dX10_ticksToMostAwake_7 rfl (lv_at hl 0 rfl) ?_
      obtain ⟨x201, ex201⟩ : ∃ zz, q_is (q_z f v 6) zz := ⟨_, q_isr _⟩
      refine q_gX10_45_16 cx hB hv kv ex201 dX10_ticksToMostAwake_8 (fun lb202 ub202 => ?_)
      refine q_icgt (tgt := 41) cx ⟨by omega, by omega⟩ ⟨by omega, by omega⟩ dX10_ticksToMostAwake_11 (by decide) (fun c203 => ?_) (fun c203 => ?_)
      · refine q_ild_n cx dX10_ticksToMostAwake_41 rfl (lv_at hl 1 rfl) ?_
        refine q_iret cx hr hlk hB dX10_ticksToMostAwake_42 ⟨by omega, by omega⟩ ?_
        exact ⟨rfl, (by omega), (by omega)⟩
      · refine q_ald_n cx dX10_ticksToMostAwake_14 rfl (lv_at hl 0 rfl) ?_
        refine q_ild_n cx dX10_ticksToMostAwake_15 rfl (lv_at hl 3 rfl) ?_
        refine q_cVi (As := [.int (q_i v6_3)]) (rest := []) cx hB (fun _ h => h) hN hv kv (by decide) rfl (g_X10_awakeAfter_4 l g hN hB.2.1 v hv kv v6_3 (by omega) (by omega)) q_cX10_225 q_dX10_awakeAfter (by decide) rfl rfl hl.1 rfl (Nat.le_of_ble_eq_true rfl) dX10_ticksToMostAwake_16 (fun y205 H locs f204 ry205 h206 hF hB => ?_)
        obtain rfl := h206
        refine q_cSi (As := [.int (q_i y205)]) (rest := []) cx hB (fun _ h => h) hN (g_Integer_bitCount l g hN hB.2.1 y205 (by omega) (by omega)) q_cX10_198 q_dJ6_bitCount_0f7a4 (by decide) rfl rfl hl.1 rfl (Nat.le_of_ble_eq_true rfl) dX10_ticksToMostAwake_19 (fun y208 H locs f207 ry208 h209 hF hB => ?_)
        obtain ⟨rfl, ly208, uy208⟩ := h209
        refine lv_istore (lv' := [(4, .int (q_i y208)), (0, .ref v), (1, .int (q_i v6_1)), (2, .int (q_i v6_2)), (3, .int (q_i v6_3))]) cx.1 cx.2.1 dX10_ticksToMostAwake_22 hl (by decide) rfl (fun ls hl => ?_)
        refine lv_iload cx.1 cx.2.1 dX10_ticksToMostAwake_24 (lv_at hl 0 rfl) ?_
        refine q_ild_n cx dX10_ticksToMostAwake_26 rfl (lv_at hl 3 rfl) ?_
        refine q_icle (tgt := 35) cx ⟨by omega, by omega⟩ ⟨by omega, by omega⟩ dX10_ticksToMostAwake_27 (by decide) (fun c210 => ?_) (fun c210 => ?_)
        · exact J35 v6_1 (by omega) (by omega) v6_2 (by omega) (by omega) (by omega) H locs hB ls (lv_sub hl [1, 2, 3, 4] rfl)
        · refine q_ild_n cx dX10_ticksToMostAwake_30 rfl (lv_at hl 4 rfl) ?_
          refine lv_istore_n (lv' := [(1, .int (q_i v6_3)), (4, .int (q_i y208)), (0, .ref v), (2, .int (q_i v6_2)), (3, .int (q_i v6_3))]) cx.1 cx.2.1 dX10_ticksToMostAwake_31 rfl hl (by decide) rfl (fun ls hl => ?_)
          refine lv_iload cx.1 cx.2.1 dX10_ticksToMostAwake_32 (lv_at hl 1 rfl) ?_
          refine lv_istore_n (lv' := [(2, .int (q_i y208)), (1, .int (q_i v6_3)), (4, .int (q_i y208)), (0, .ref v), (3, .int (q_i v6_3))]) cx.1 cx.2.1 dX10_ticksToMostAwake_34 rfl hl (by decide) rfl (fun ls hl => ?_)
          exact J35 v6_3 (by omega) (by omega) y208 (by omega) (by omega) (by omega) H locs hB ls (lv_sub hl [3, 1, 0, 4] rfl)
  obtain ⟨H, hH⟩ : ∃ H : Heap, H = s.heap := ⟨_, rfl⟩
  obtain ⟨locs, hlocs⟩ : ∃ z : List Loc, z = [] := ⟨_, rfl⟩
  rw [← hH, ← hlocs] at hB
  rw [← hH, ← hlocs]
  refine q_iconst cx dX10_ticksToMostAwake_0 ?_
  refine lv_istore_n (lv' := [(1, .int (q_i 1)), (0, .ref v)]) cx.1 cx.2.1 dX10_ticksToMostAwake_1 rfl hl (by decide) rfl (fun ls hl => ?_)
  refine q_iconst cx dX10_ticksToMostAwake_2 ?_
  refine lv_istore_n (lv' := [(2, .int (q_i 0)), (1, .int (q_i 1)), (0, .ref v)]) cx.1 cx.2.1 dX10_ticksToMostAwake_3 rfl hl (by decide) rfl (fun ls hl => ?_)
  refine q_iconst cx dX10_ticksToMostAwake_4 ?_
  refine lv_istore_n (lv' := [(3, .int (q_i 1)), (2, .int (q_i 0)), (1, .int (q_i 1)), (0, .ref v)]) cx.1 cx.2.1 dX10_ticksToMostAwake_5 rfl hl (by decide) rfl (fun ls hl => ?_)
  exact J6 ((Int.toNat (2147483647 - 1)) + 1) 1 (by decide) (by decide) 0 (by decide) (by decide) 1 (by decide) (by decide) (Nat.lt_succ_self _) H locs hB ls (lv_sub hl [3, 2, 1, 0] rfl)
set_option maxHeartbeats 4000000 in
set_option maxRecDepth 100000 in
theorem g_X10_greatestLateness (l : Launch) (g : q_G) {K : Nat → Nat} {L : List Nat} (hN : L.Nodup) {f : Nat → va_E} (hT : q_Ty g K L f) (v : Nat) (hv : v ∈ L) (kv : K v = 10) (p0 : Int) (lp0 : (-2147483648) ≤ p0) (up0 : p0 ≤ 2147483647) (p1 : Int) (lp1 : (-2147483648) ≤ p1) (up1 : p1 ≤ 2147483647) : q_Ct l g K L yX10_greatestLateness cX10_greatestLateness 5 (some .int) 5 117 [.ref v, .int (q_i p0), .int (q_i p1)] f [] (q_Pi (fun (z : Int) (f1 : Nat → va_E) => f = f1 ∧ 0 ≤ z ∧ z ≤ 61)) := by
  refine q_ofb (by decide +kernel) hN hT (Nat.le_of_ble_eq_true rfl) ?_
  intro p e s m below meth c ls cx hr hlk hB hl
  have hl : lv_has ls 5 [(0, .ref v), (1, .int (q_i p0)), (2, .int (q_i p1))] := hl
  have J5 : ∀ (n : Nat) (v5_3 : Int) (lv5_3 : 0 ≤ v5_3) (uv5_3 : v5_3 ≤ 61) (v5_4 : Int) (lv5_4 : 0 ≤ v5_4) (uv5_4 : v5_4 ≤ 10) (hmu : (Int.toNat (2147483647 - v5_4)) < n) (H : Heap) (locs : List Loc) (hB : q_B g K L (fun q => q ∈ L) [] f f s H locs) (ls : Array Slot) (hl : lv_has ls 5 [(0, .ref v), (1, .int (q_i p0)), (2, .int (q_i p1)), (3, .int (q_i v5_3)), (4, .int (q_i v5_4))]), W p l e { frames := 5, cells := 0, slots := 0, locals := 117 } s m ([.ref v, .int (q_i p0), .int (q_i p1)] : List Value).toArray below meth c H locs 0 0 (MQ below (q_Q g K L [] f (q_Pi (fun (z : Int) (f1 : Nat → va_E) => f = f1 ∧ 0 ≤ z ∧ z ≤ 61))) ([.ref v, .int (q_i p0), .int (q_i p1)] : List Value).toArray s 0 0 (fun q => q ∈ L)) (F0 m 5 ls []) := by
    intro n
    induction n with
    | zero =>
      intro v5_3 lv5_3 uv5_3 v5_4 lv5_4 uv5_4 hmu
      exact absurd hmu (Nat.not_lt_zero _)
    | succ n ih5 =>
      intro v5_3 lv5_3 uv5_3 v5_4 lv5_4 uv5_4 hmu H locs hB ls hl
      have J43 : ∀ (v43_3 : Int) (lv43_3 : 0 ≤ v43_3) (uv43_3 : v43_3 ≤ 61) (buv5_4 : v5_4 ≤ 9) (H : Heap) (locs : List Loc) (hB : q_B g K L (fun q => q ∈ L) [] f f s H locs) (ls : Array Slot) (hl : lv_has ls 5 [(0, .ref v), (1, .int (q_i p0)), (2, .int (q_i p1)), (3, .int (q_i v43_3)), (4, .int (q_i v5_4))]), W p l e { frames := 5, cells := 0, slots := 0, locals := 117 } s m ([.ref v, .int (q_i p0), .int (q_i p1)] : List Value).toArray below meth c H locs 0 0 (MQ below (q_Q g K L [] f (q_Pi (fun (z : Int) (f1 : Nat → va_E) => f = f1 ∧ 0 ≤ z ∧ z ≤ 61))) ([.ref v, .int (q_i p0), .int (q_i p1)] : List Value).toArray s 0 0 (fun q => q ∈ L)) (F0 m 43 ls []) := by
        intro v43_3 lv43_3 uv43_3 buv5_4 H locs hB ls hl
        refine q_iinc (lv' := [(4, .int (q_i (v5_4 + 1))), (0, .ref v), (1, .int (q_i p0)), (2, .int (q_i p1)), (3, .int (q_i v43_3))]) cx dX10_greatestLateness_43 hl (k := 4) rfl (by decide) rfl (fun ls hl => ?_)
        refine lv_goto (tgt := 5) cx.1 cx.2.1 dX10_greatestLateness_46 (by decide) ?_
        exact ih5 v43_3 (by omega) (by omega) (v5_4 + 1) (by omega) (by omega) (by omega) H locs hB ls (lv_sub hl [1, 2, 3, 4, 0] rfl)
      refine lv_iload cx.1 cx.2.1 dX10_greatestLateness_5 (lv_at hl 4 rfl) ?_
      refine q_ald_n cx dX10_greatestLateness_7 rfl (lv_at hl 0 rfl) ?_
      obtain ⟨x161, ex161⟩ : ∃ zz, q_is (q_z f v 3) zz := ⟨_, q_isr _⟩
      refine q_gX10_35 cx hB hv kv ex161 dX10_greatestLateness_8 (fun lb162 ub162 => ?_)
      refine q_icge (tgt := 49) cx ⟨by omega, by omega⟩ ⟨by omega, by omega⟩ dX10_greatestLateness_11 (by decide) (fun c163 => ?_) (fun c163 => ?_)
      · refine q_ild_n cx dX10_greatestLateness_49 rfl (lv_at hl 3 rfl) ?_
        refine q_iret cx hr hlk hB dX10_greatestLateness_50 ⟨by omega, by omega⟩ ?_
        exact ⟨rfl, (by omega), (by omega)⟩
      · refine q_ald_n cx dX10_greatestLateness_14 rfl (lv_at hl 0 rfl) ?_
        refine q_ild_n cx dX10_greatestLateness_15 rfl (lv_at hl 1 rfl) ?_
        refine q_cVr (As := [.int (q_i p0)]) (rest := []) cx hB (fun _ h => h) hN hv kv (by decide) rfl (g_X10_nodeAt l g hN hB.2.1 v hv kv p0 (by omega) (by omega)) q_cX10_66 q_dX10_nodeAt (by decide) rfl rfl hl.1 rfl (Nat.le_of_ble_eq_true rfl) dX10_greatestLateness_16 (fun y165 H locs f164 h166 hF hB => ?_)
        obtain ⟨rfl, hy165, ky165⟩ := h166
        obtain ⟨x167, ex167⟩ : ∃ zz, q_is (q_z f y165 5) zz := ⟨_, q_isr _⟩
        refine q_gX10_104 cx hB hy165 ky165 ex167 dX10_greatestLateness_19 (fun lb168 ub168 => ?_)
        refine lv_iload cx.1 cx.2.1 dX10_greatestLateness_22 (lv_at hl 4 rfl) ?_
        refine q_cSi (As := [.int (q_i x167), .int (q_i v5_4)]) (rest := []) cx hB (fun _ h => h) hN (g_X10_has l g hN hB.2.1 x167 (by omega) (by omega) v5_4 (by omega) (by omega)) q_cX10_181 q_dX10_has (by decide) rfl rfl hl.1 rfl (Nat.le_of_ble_eq_true rfl) dX10_greatestLateness_24 (fun y170 H locs f169 ry170 h171 hF hB => ?_)
        obtain ⟨rfl, ly170, uy170⟩ := h171
        refine q_ifeq (tgt := 43) cx ⟨by omega, by omega⟩ dX10_greatestLateness_27 (by decide) (fun c172 => ?_) (fun c172 => ?_)
        · exact J43 v5_3 (by omega) (by omega) (by omega) H locs hB ls (lv_sub hl [0, 1, 2, 3, 4] rfl)
        · refine q_ild_n cx dX10_greatestLateness_30 rfl (lv_at hl 3 rfl) ?_
          refine q_ald_n cx dX10_greatestLateness_31 rfl (lv_at hl 0 rfl) ?_
          refine q_ild_n cx dX10_greatestLateness_32 rfl (lv_at hl 1 rfl) ?_
          refine q_ild_n cx dX10_greatestLateness_33 rfl (lv_at hl 2 rfl) ?_
          refine lv_iload cx.1 cx.2.1 dX10_greatestLateness_34 (lv_at hl 4 rfl) ?_
          refine q_cVi (As := [.int (q_i p0), .int (q_i p1), .int (q_i v5_4)]) (rest := [.int (q_i v5_3)]) cx hB (fun _ h => h) hN hv kv (by decide) rfl (g_X10_lateness l g hN hB.2.1 v hv kv p0 (by omega) (by omega) p1 (by omega) (by omega) v5_4 (by omega) (by omega)) q_cX10_222 q_dX10_lateness (by decide) rfl rfl hl.1 rfl (Nat.le_of_ble_eq_true rfl) dX10_greatestLateness_36 (fun y174 H locs f173 ry174 h175 hF hB => ?_)
          obtain ⟨rfl, ly174, uy174⟩ := h175
          refine q_mmax (rest := []) cx hl.1 q_h658 q_h659 q_h157 q_h660 (by decide) (Nat.le_of_ble_eq_true rfl) (by decide) (by decide) ⟨by omega, by omega⟩ ⟨by omega, by omega⟩ dX10_greatestLateness_39 (fun y176 ay176 by176 ey176 => ?_)
          refine lv_istore_n (lv' := [(3, .int (q_i y176)), (0, .ref v), (1, .int (q_i p0)), (2, .int (q_i p1)), (4, .int (q_i v5_4))]) cx.1 cx.2.1 dX10_greatestLateness_42 rfl hl (by decide) rfl (fun ls hl => ?_)
          exact J43 y176 (by omega) (by omega) (by omega) H locs hB ls (lv_sub hl [1, 2, 3, 0, 4] rfl)
  obtain ⟨H, hH⟩ : ∃ H : Heap, H = s.heap := ⟨_, rfl⟩
  obtain ⟨locs, hlocs⟩ : ∃ z : List Loc, z = [] := ⟨_, rfl⟩
  rw [← hH, ← hlocs] at hB
  rw [← hH, ← hlocs]
  refine q_iconst cx dX10_greatestLateness_0 ?_
  refine lv_istore_n (lv' := [(3, .int (q_i 0)), (0, .ref v), (1, .int (q_i p0)), (2, .int (q_i p1))]) cx.1 cx.2.1 dX10_greatestLateness_1 rfl hl (by decide) rfl (fun ls hl => ?_)
  refine q_iconst cx dX10_greatestLateness_2 ?_
  refine lv_istore (lv' := [(4, .int (q_i 0)), (3, .int (q_i 0)), (0, .ref v), (1, .int (q_i p0)), (2, .int (q_i p1))]) cx.1 cx.2.1 dX10_greatestLateness_3 hl (by decide) rfl (fun ls hl => ?_)
  exact J5 ((Int.toNat (2147483647 - 0)) + 1) 0 (by decide) (by decide) 0 (by decide) (by decide) (Nat.lt_succ_self _) H locs hB ls (lv_sub hl [2, 3, 4, 1, 0] rfl)
set_option maxHeartbeats 4000000 in
set_option maxRecDepth 100000 in
theorem g_X10_greatestLateness_1 (l : Launch) (g : q_G) {K : Nat → Nat} {L : List Nat} (hN : L.Nodup) {f : Nat → va_E} (hT : q_Ty g K L f) (v : Nat) (hv : v ∈ L) (kv : K v = 13) (p0 : Int) (lp0 : (-2147483648) ≤ p0) (up0 : p0 ≤ 2147483647) (p1 : Int) (lp1 : (-2147483648) ≤ p1) (up1 : p1 ≤ 2147483647) : q_Ct l g K L yX10_greatestLateness cX10_greatestLateness 5 (some .int) 5 117 [.ref v, .int (q_i p0), .int (q_i p1)] f [] (q_Pi (fun (z : Int) (f1 : Nat → va_E) => f = f1 ∧ 0 ≤ z ∧ z ≤ 61)) := by
  refine q_ofb (by decide +kernel) hN hT (Nat.le_of_ble_eq_true rfl) ?_
  intro p e s m below meth c ls cx hr hlk hB hl
  have hl : lv_has ls 5 [(0, .ref v), (1, .int (q_i p0)), (2, .int (q_i p1))] := hl
  have J5 : ∀ (n : Nat) (v5_3 : Int) (lv5_3 : 0 ≤ v5_3) (uv5_3 : v5_3 ≤ 61) (v5_4 : Int) (lv5_4 : 0 ≤ v5_4) (uv5_4 : v5_4 ≤ 10) (hmu : (Int.toNat (2147483647 - v5_4)) < n) (H : Heap) (locs : List Loc) (hB : q_B g K L (fun q => q ∈ L) [] f f s H locs) (ls : Array Slot) (hl : lv_has ls 5 [(0, .ref v), (1, .int (q_i p0)), (2, .int (q_i p1)), (3, .int (q_i v5_3)), (4, .int (q_i v5_4))]), W p l e { frames := 5, cells := 0, slots := 0, locals := 117 } s m ([.ref v, .int (q_i p0), .int (q_i p1)] : List Value).toArray below meth c H locs 0 0 (MQ below (q_Q g K L [] f (q_Pi (fun (z : Int) (f1 : Nat → va_E) => f = f1 ∧ 0 ≤ z ∧ z ≤ 61))) ([.ref v, .int (q_i p0), .int (q_i p1)] : List Value).toArray s 0 0 (fun q => q ∈ L)) (F0 m 5 ls []) := by
    intro n
    induction n with
    | zero =>
      intro v5_3 lv5_3 uv5_3 v5_4 lv5_4 uv5_4 hmu
      exact absurd hmu (Nat.not_lt_zero _)
    | succ n ih5 =>
      intro v5_3 lv5_3 uv5_3 v5_4 lv5_4 uv5_4 hmu H locs hB ls hl
      have J43 : ∀ (v43_3 : Int) (lv43_3 : 0 ≤ v43_3) (uv43_3 : v43_3 ≤ 61) (buv5_4 : v5_4 ≤ 9) (H : Heap) (locs : List Loc) (hB : q_B g K L (fun q => q ∈ L) [] f f s H locs) (ls : Array Slot) (hl : lv_has ls 5 [(0, .ref v), (1, .int (q_i p0)), (2, .int (q_i p1)), (3, .int (q_i v43_3)), (4, .int (q_i v5_4))]), W p l e { frames := 5, cells := 0, slots := 0, locals := 117 } s m ([.ref v, .int (q_i p0), .int (q_i p1)] : List Value).toArray below meth c H locs 0 0 (MQ below (q_Q g K L [] f (q_Pi (fun (z : Int) (f1 : Nat → va_E) => f = f1 ∧ 0 ≤ z ∧ z ≤ 61))) ([.ref v, .int (q_i p0), .int (q_i p1)] : List Value).toArray s 0 0 (fun q => q ∈ L)) (F0 m 43 ls []) := by
        intro v43_3 lv43_3 uv43_3 buv5_4 H locs hB ls hl
        refine q_iinc (lv' := [(4, .int (q_i (v5_4 + 1))), (0, .ref v), (1, .int (q_i p0)), (2, .int (q_i p1)), (3, .int (q_i v43_3))]) cx dX10_greatestLateness_43 hl (k := 4) rfl (by decide) rfl (fun ls hl => ?_)
        refine lv_goto (tgt := 5) cx.1 cx.2.1 dX10_greatestLateness_46 (by decide) ?_
        exact ih5 v43_3 (by omega) (by omega) (v5_4 + 1) (by omega) (by omega) (by omega) H locs hB ls (lv_sub hl [1, 2, 3, 4, 0] rfl)
      refine lv_iload cx.1 cx.2.1 dX10_greatestLateness_5 (lv_at hl 4 rfl) ?_
      refine q_ald_n cx dX10_greatestLateness_7 rfl (lv_at hl 0 rfl) ?_
      obtain ⟨x161, ex161⟩ : ∃ zz, q_is (q_z f v 3) zz := ⟨_, q_isr _⟩
      refine q_gX10_35_13 cx hB hv kv ex161 dX10_greatestLateness_8 (fun lb162 ub162 => ?_)
      refine q_icge (tgt := 49) cx ⟨by omega, by omega⟩ ⟨by omega, by omega⟩ dX10_greatestLateness_11 (by decide) (fun c163 => ?_) (fun c163 => ?_)
      · refine q_ild_n cx dX10_greatestLateness_49 rfl (lv_at hl 3 rfl) ?_
        refine q_iret cx hr hlk hB dX10_greatestLateness_50 ⟨by omega, by omega⟩ ?_
        exact ⟨rfl, (by omega), (by omega)⟩
      · refine q_ald_n cx dX10_greatestLateness_14 rfl (lv_at hl 0 rfl) ?_
        refine q_ild_n cx dX10_greatestLateness_15 rfl (lv_at hl 1 rfl) ?_
        refine q_cVr (As := [.int (q_i p0)]) (rest := []) cx hB (fun _ h => h) hN hv kv (by decide) rfl (g_X10_nodeAt_1 l g hN hB.2.1 v hv kv p0 (by omega) (by omega)) q_cX10_66 q_dX10_nodeAt (by decide) rfl rfl hl.1 rfl (Nat.le_of_ble_eq_true rfl) dX10_greatestLateness_16 (fun y165 H locs f164 h166 hF hB => ?_)
        obtain ⟨rfl, hy165, ky165⟩ := h166
        obtain ⟨x167, ex167⟩ : ∃ zz, q_is (q_z f y165 5) zz := ⟨_, q_isr _⟩
        refine q_gX10_104_17 cx hB hy165 ky165 ex167 dX10_greatestLateness_19 (fun lb168 ub168 => ?_)
        refine lv_iload cx.1 cx.2.1 dX10_greatestLateness_22 (lv_at hl 4 rfl) ?_
        refine q_cSi (As := [.int (q_i x167), .int (q_i v5_4)]) (rest := []) cx hB (fun _ h => h) hN (g_X10_has l g hN hB.2.1 x167 (by omega) (by omega) v5_4 (by omega) (by omega)) q_cX10_181 q_dX10_has (by decide) rfl rfl hl.1 rfl (Nat.le_of_ble_eq_true rfl) dX10_greatestLateness_24 (fun y170 H locs f169 ry170 h171 hF hB => ?_)
        obtain ⟨rfl, ly170, uy170⟩ := h171
        refine q_ifeq (tgt := 43) cx ⟨by omega, by omega⟩ dX10_greatestLateness_27 (by decide) (fun c172 => ?_) (fun c172 => ?_)
        · exact J43 v5_3 (by omega) (by omega) (by omega) H locs hB ls (lv_sub hl [0, 1, 2, 3, 4] rfl)
        · refine q_ild_n cx dX10_greatestLateness_30 rfl (lv_at hl 3 rfl) ?_
          refine q_ald_n cx dX10_greatestLateness_31 rfl (lv_at hl 0 rfl) ?_
          refine q_ild_n cx dX10_greatestLateness_32 rfl (lv_at hl 1 rfl) ?_
          refine q_ild_n cx dX10_greatestLateness_33 rfl (lv_at hl 2 rfl) ?_
          refine lv_iload cx.1 cx.2.1 dX10_greatestLateness_34 (lv_at hl 4 rfl) ?_
          refine q_cVi (As := [.int (q_i p0), .int (q_i p1), .int (q_i v5_4)]) (rest := [.int (q_i v5_3)]) cx hB (fun _ h => h) hN hv kv (by decide) rfl (g_X10_lateness_1 l g hN hB.2.1 v hv kv p0 (by omega) (by omega) p1 (by omega) (by omega) v5_4 (by omega) (by omega)) q_cX10_222 q_dX10_lateness (by decide) rfl rfl hl.1 rfl (Nat.le_of_ble_eq_true rfl) dX10_greatestLateness_36 (fun y174 H locs f173 ry174 h175 hF hB => ?_)
          obtain ⟨rfl, ly174, uy174⟩ := h175
          refine q_mmax (rest := []) cx hl.1 q_h658 q_h659 q_h157 q_h660 (by decide) (Nat.le_of_ble_eq_true rfl) (by decide) (by decide) ⟨by omega, by omega⟩ ⟨by omega, by omega⟩ dX10_greatestLateness_39 (fun y176 ay176 by176 ey176 => ?_)
          refine lv_istore_n (lv' := [(3, .int (q_i y176)), (0, .ref v), (1, .int (q_i p0)), (2, .int (q_i p1)), (4, .int (q_i v5_4))]) cx.1 cx.2.1 dX10_greatestLateness_42 rfl hl (by decide) rfl (fun ls hl => ?_)
          exact J43 y176 (by omega) (by omega) (by omega) H locs hB ls (lv_sub hl [1, 2, 3, 0, 4] rfl)
  obtain ⟨H, hH⟩ : ∃ H : Heap, H = s.heap := ⟨_, rfl⟩
  obtain ⟨locs, hlocs⟩ : ∃ z : List Loc, z = [] := ⟨_, rfl⟩
  rw [← hH, ← hlocs] at hB
  rw [← hH, ← hlocs]
  refine q_iconst cx dX10_greatestLateness_0 ?_
  refine lv_istore_n (lv' := [(3, .int (q_i 0)), (0, .ref v), (1, .int (q_i p0)), (2, .int (q_i p1))]) cx.1 cx.2.1 dX10_greatestLateness_1 rfl hl (by decide) rfl (fun ls hl => ?_)
  refine q_iconst cx dX10_greatestLateness_2 ?_
  refine lv_istore (lv' := [(4, .int (q_i 0)), (3, .int (q_i 0)), (0, .ref v), (1, .int (q_i p0)), (2, .int (q_i p1))]) cx.1 cx.2.1 dX10_greatestLateness_3 hl (by decide) rfl (fun ls hl => ?_)
  exact J5 ((Int.toNat (2147483647 - 0)) + 1) 0 (by decide) (by decide) 0 (by decide) (by decide) (Nat.lt_succ_self _) H locs hB ls (lv_sub hl [2, 3, 4, 1, 0] rfl)
set_option maxHeartbeats 4000000 in
set_option maxRecDepth 100000 in
theorem g_X10_greatestLateness_2 (l : Launch) (g : q_G) {K : Nat → Nat} {L : List Nat} (hN : L.Nodup) {f : Nat → va_E} (hT : q_Ty g K L f) (v : Nat) (hv : v ∈ L) (kv : K v = 14) (p0 : Int) (lp0 : (-2147483648) ≤ p0) (up0 : p0 ≤ 2147483647) (p1 : Int) (lp1 : (-2147483648) ≤ p1) (up1 : p1 ≤ 2147483647) : q_Ct l g K L yX10_greatestLateness cX10_greatestLateness 5 (some .int) 5 117 [.ref v, .int (q_i p0), .int (q_i p1)] f [] (q_Pi (fun (z : Int) (f1 : Nat → va_E) => f = f1 ∧ 0 ≤ z ∧ z ≤ 61)) := by
  refine q_ofb (by decide +kernel) hN hT (Nat.le_of_ble_eq_true rfl) ?_
  intro p e s m below meth c ls cx hr hlk hB hl
  have hl : lv_has ls 5 [(0, .ref v), (1, .int (q_i p0)), (2, .int (q_i p1))] := hl
  have J5 : ∀ (n : Nat) (v5_3 : Int) (lv5_3 : 0 ≤ v5_3) (uv5_3 : v5_3 ≤ 61) (v5_4 : Int) (lv5_4 : 0 ≤ v5_4) (uv5_4 : v5_4 ≤ 10) (hmu : (Int.toNat (2147483647 - v5_4)) < n) (H : Heap) (locs : List Loc) (hB : q_B g K L (fun q => q ∈ L) [] f f s H locs) (ls : Array Slot) (hl : lv_has ls 5 [(0, .ref v), (1, .int (q_i p0)), (2, .int (q_i p1)), (3, .int (q_i v5_3)), (4, .int (q_i v5_4))]), W p l e { frames := 5, cells := 0, slots := 0, locals := 117 } s m ([.ref v, .int (q_i p0), .int (q_i p1)] : List Value).toArray below meth c H locs 0 0 (MQ below (q_Q g K L [] f (q_Pi (fun (z : Int) (f1 : Nat → va_E) => f = f1 ∧ 0 ≤ z ∧ z ≤ 61))) ([.ref v, .int (q_i p0), .int (q_i p1)] : List Value).toArray s 0 0 (fun q => q ∈ L)) (F0 m 5 ls []) := by
    intro n
    induction n with
    | zero =>
      intro v5_3 lv5_3 uv5_3 v5_4 lv5_4 uv5_4 hmu
      exact absurd hmu (Nat.not_lt_zero _)
    | succ n ih5 =>
      intro v5_3 lv5_3 uv5_3 v5_4 lv5_4 uv5_4 hmu H locs hB ls hl
      have J43 : ∀ (v43_3 : Int) (lv43_3 : 0 ≤ v43_3) (uv43_3 : v43_3 ≤ 61) (buv5_4 : v5_4 ≤ 9) (H : Heap) (locs : List Loc) (hB : q_B g K L (fun q => q ∈ L) [] f f s H locs) (ls : Array Slot) (hl : lv_has ls 5 [(0, .ref v), (1, .int (q_i p0)), (2, .int (q_i p1)), (3, .int (q_i v43_3)), (4, .int (q_i v5_4))]), W p l e { frames := 5, cells := 0, slots := 0, locals := 117 } s m ([.ref v, .int (q_i p0), .int (q_i p1)] : List Value).toArray below meth c H locs 0 0 (MQ below (q_Q g K L [] f (q_Pi (fun (z : Int) (f1 : Nat → va_E) => f = f1 ∧ 0 ≤ z ∧ z ≤ 61))) ([.ref v, .int (q_i p0), .int (q_i p1)] : List Value).toArray s 0 0 (fun q => q ∈ L)) (F0 m 43 ls []) := by
        intro v43_3 lv43_3 uv43_3 buv5_4 H locs hB ls hl
        refine q_iinc (lv' := [(4, .int (q_i (v5_4 + 1))), (0, .ref v), (1, .int (q_i p0)), (2, .int (q_i p1)), (3, .int (q_i v43_3))]) cx dX10_greatestLateness_43 hl (k := 4) rfl (by decide) rfl (fun ls hl => ?_)
        refine lv_goto (tgt := 5) cx.1 cx.2.1 dX10_greatestLateness_46 (by decide) ?_
        exact ih5 v43_3 (by omega) (by omega) (v5_4 + 1) (by omega) (by omega) (by omega) H locs hB ls (lv_sub hl [1, 2, 3, 4, 0] rfl)
      refine lv_iload cx.1 cx.2.1 dX10_greatestLateness_5 (lv_at hl 4 rfl) ?_
      refine q_ald_n cx dX10_greatestLateness_7 rfl (lv_at hl 0 rfl) ?_
      obtain ⟨x161, ex161⟩ : ∃ zz, q_is (q_z f v 3) zz := ⟨_, q_isr _⟩
      refine q_gX10_35_14 cx hB hv kv ex161 dX10_greatestLateness_8 (fun lb162 ub162 => ?_)
      refine q_icge (tgt := 49) cx ⟨by omega, by omega⟩ ⟨by omega, by omega⟩ dX10_greatestLateness_11 (by decide) (fun c163 => ?_) (fun c163 => ?_)
      · refine q_ild_n cx dX10_greatestLateness_49 rfl (lv_at hl 3 rfl) ?_
        refine q_iret cx hr hlk hB dX10_greatestLateness_50 ⟨by omega, by omega⟩ ?_
        exact ⟨rfl, (by omega), (by omega)⟩
      · refine q_ald_n cx dX10_greatestLateness_14 rfl (lv_at hl 0 rfl) ?_
        refine q_ild_n cx dX10_greatestLateness_15 rfl (lv_at hl 1 rfl) ?_
        refine q_cVr (As := [.int (q_i p0)]) (rest := []) cx hB (fun _ h => h) hN hv kv (by decide) rfl (g_X10_nodeAt_2 l g hN hB.2.1 v hv kv p0 (by omega) (by omega)) q_cX10_66 q_dX10_nodeAt (by decide) rfl rfl hl.1 rfl (Nat.le_of_ble_eq_true rfl) dX10_greatestLateness_16 (fun y165 H locs f164 h166 hF hB => ?_)
        obtain ⟨rfl, hy165, ky165⟩ := h166
        obtain ⟨x167, ex167⟩ : ∃ zz, q_is (q_z f y165 5) zz := ⟨_, q_isr _⟩
        refine q_gX10_104_18 cx hB hy165 ky165 ex167 dX10_greatestLateness_19 (fun lb168 ub168 => ?_)
        refine lv_iload cx.1 cx.2.1 dX10_greatestLateness_22 (lv_at hl 4 rfl) ?_
        refine q_cSi (As := [.int (q_i x167), .int (q_i v5_4)]) (rest := []) cx hB (fun _ h => h) hN (g_X10_has l g hN hB.2.1 x167 (by omega) (by omega) v5_4 (by omega) (by omega)) q_cX10_181 q_dX10_has (by decide) rfl rfl hl.1 rfl (Nat.le_of_ble_eq_true rfl) dX10_greatestLateness_24 (fun y170 H locs f169 ry170 h171 hF hB => ?_)
        obtain ⟨rfl, ly170, uy170⟩ := h171
        refine q_ifeq (tgt := 43) cx ⟨by omega, by omega⟩ dX10_greatestLateness_27 (by decide) (fun c172 => ?_) (fun c172 => ?_)
        · exact J43 v5_3 (by omega) (by omega) (by omega) H locs hB ls (lv_sub hl [0, 1, 2, 3, 4] rfl)
        · refine q_ild_n cx dX10_greatestLateness_30 rfl (lv_at hl 3 rfl) ?_
          refine q_ald_n cx dX10_greatestLateness_31 rfl (lv_at hl 0 rfl) ?_
          refine q_ild_n cx dX10_greatestLateness_32 rfl (lv_at hl 1 rfl) ?_
          refine q_ild_n cx dX10_greatestLateness_33 rfl (lv_at hl 2 rfl) ?_
          refine lv_iload cx.1 cx.2.1 dX10_greatestLateness_34 (lv_at hl 4 rfl) ?_
          refine q_cVi (As := [.int (q_i p0), .int (q_i p1), .int (q_i v5_4)]) (rest := [.int (q_i v5_3)]) cx hB (fun _ h => h) hN hv kv (by decide) rfl (g_X10_lateness_2 l g hN hB.2.1 v hv kv p0 (by omega) (by omega) p1 (by omega) (by omega) v5_4 (by omega) (by omega)) q_cX10_222 q_dX10_lateness (by decide) rfl rfl hl.1 rfl (Nat.le_of_ble_eq_true rfl) dX10_greatestLateness_36 (fun y174 H locs f173 ry174 h175 hF hB => ?_)
          obtain ⟨rfl, ly174, uy174⟩ := h175
          refine q_mmax (rest := []) cx hl.1 q_h658 q_h659 q_h157 q_h660 (by decide) (Nat.le_of_ble_eq_true rfl) (by decide) (by decide) ⟨by omega, by omega⟩ ⟨by omega, by omega⟩ dX10_greatestLateness_39 (fun y176 ay176 by176 ey176 => ?_)
          refine lv_istore_n (lv' := [(3, .int (q_i y176)), (0, .ref v), (1, .int (q_i p0)), (2, .int (q_i p1)), (4, .int (q_i v5_4))]) cx.1 cx.2.1 dX10_greatestLateness_42 rfl hl (by decide) rfl (fun ls hl => ?_)
          exact J43 y176 (by omega) (by omega) (by omega) H locs hB ls (lv_sub hl [1, 2, 3, 0, 4] rfl)
  obtain ⟨H, hH⟩ : ∃ H : Heap, H = s.heap := ⟨_, rfl⟩
  obtain ⟨locs, hlocs⟩ : ∃ z : List Loc, z = [] := ⟨_, rfl⟩
  rw [← hH, ← hlocs] at hB
  rw [← hH, ← hlocs]
  refine q_iconst cx dX10_greatestLateness_0 ?_
  refine lv_istore_n (lv' := [(3, .int (q_i 0)), (0, .ref v), (1, .int (q_i p0)), (2, .int (q_i p1))]) cx.1 cx.2.1 dX10_greatestLateness_1 rfl hl (by decide) rfl (fun ls hl => ?_)
  refine q_iconst cx dX10_greatestLateness_2 ?_
  refine lv_istore (lv' := [(4, .int (q_i 0)), (3, .int (q_i 0)), (0, .ref v), (1, .int (q_i p0)), (2, .int (q_i p1))]) cx.1 cx.2.1 dX10_greatestLateness_3 hl (by decide) rfl (fun ls hl => ?_)
  exact J5 ((Int.toNat (2147483647 - 0)) + 1) 0 (by decide) (by decide) 0 (by decide) (by decide) (Nat.lt_succ_self _) H locs hB ls (lv_sub hl [2, 3, 4, 1, 0] rfl)
set_option maxHeartbeats 4000000 in
set_option maxRecDepth 100000 in
theorem g_X10_greatestLateness_3 (l : Launch) (g : q_G) {K : Nat → Nat} {L : List Nat} (hN : L.Nodup) {f : Nat → va_E} (hT : q_Ty g K L f) (v : Nat) (hv : v ∈ L) (kv : K v = 15) (p0 : Int) (lp0 : (-2147483648) ≤ p0) (up0 : p0 ≤ 2147483647) (p1 : Int) (lp1 : (-2147483648) ≤ p1) (up1 : p1 ≤ 2147483647) : q_Ct l g K L yX10_greatestLateness cX10_greatestLateness 5 (some .int) 5 117 [.ref v, .int (q_i p0), .int (q_i p1)] f [] (q_Pi (fun (z : Int) (f1 : Nat → va_E) => f = f1 ∧ 0 ≤ z ∧ z ≤ 61)) := by
  refine q_ofb (by decide +kernel) hN hT (Nat.le_of_ble_eq_true rfl) ?_
  intro p e s m below meth c ls cx hr hlk hB hl
  have hl : lv_has ls 5 [(0, .ref v), (1, .int (q_i p0)), (2, .int (q_i p1))] := hl
  have J5 : ∀ (n : Nat) (v5_3 : Int) (lv5_3 : 0 ≤ v5_3) (uv5_3 : v5_3 ≤ 61) (v5_4 : Int) (lv5_4 : 0 ≤ v5_4) (uv5_4 : v5_4 ≤ 10) (hmu : (Int.toNat (2147483647 - v5_4)) < n) (H : Heap) (locs : List Loc) (hB : q_B g K L (fun q => q ∈ L) [] f f s H locs) (ls : Array Slot) (hl : lv_has ls 5 [(0, .ref v), (1, .int (q_i p0)), (2, .int (q_i p1)), (3, .int (q_i v5_3)), (4, .int (q_i v5_4))]), W p l e { frames := 5, cells := 0, slots := 0, locals := 117 } s m ([.ref v, .int (q_i p0), .int (q_i p1)] : List Value).toArray below meth c H locs 0 0 (MQ below (q_Q g K L [] f (q_Pi (fun (z : Int) (f1 : Nat → va_E) => f = f1 ∧ 0 ≤ z ∧ z ≤ 61))) ([.ref v, .int (q_i p0), .int (q_i p1)] : List Value).toArray s 0 0 (fun q => q ∈ L)) (F0 m 5 ls []) := by
    intro n
    induction n with
    | zero =>
      intro v5_3 lv5_3 uv5_3 v5_4 lv5_4 uv5_4 hmu
      exact absurd hmu (Nat.not_lt_zero _)
    | succ n ih5 =>
      intro v5_3 lv5_3 uv5_3 v5_4 lv5_4 uv5_4 hmu H locs hB ls hl
      have J43 : ∀ (v43_3 : Int) (lv43_3 : 0 ≤ v43_3) (uv43_3 : v43_3 ≤ 61) (buv5_4 : v5_4 ≤ 9) (H : Heap) (locs : List Loc) (hB : q_B g K L (fun q => q ∈ L) [] f f s H locs) (ls : Array Slot) (hl : lv_has ls 5 [(0, .ref v), (1, .int (q_i p0)), (2, .int (q_i p1)), (3, .int (q_i v43_3)), (4, .int (q_i v5_4))]), W p l e { frames := 5, cells := 0, slots := 0, locals := 117 } s m ([.ref v, .int (q_i p0), .int (q_i p1)] : List Value).toArray below meth c H locs 0 0 (MQ below (q_Q g K L [] f (q_Pi (fun (z : Int) (f1 : Nat → va_E) => f = f1 ∧ 0 ≤ z ∧ z ≤ 61))) ([.ref v, .int (q_i p0), .int (q_i p1)] : List Value).toArray s 0 0 (fun q => q ∈ L)) (F0 m 43 ls []) := by
        intro v43_3 lv43_3 uv43_3 buv5_4 H locs hB ls hl
        refine q_iinc (lv' := [(4, .int (q_i (v5_4 + 1))), (0, .ref v), (1, .int (q_i p0)), (2, .int (q_i p1)), (3, .int (q_i v43_3))]) cx dX10_greatestLateness_43 hl (k := 4) rfl (by decide) rfl (fun ls hl => ?_)
        refine lv_goto (tgt := 5) cx.1 cx.2.1 dX10_greatestLateness_46 (by decide) ?_
        exact ih5 v43_3 (by omega) (by omega) (v5_4 + 1) (by omega) (by omega) (by omega) H locs hB ls (lv_sub hl [1, 2, 3, 4, 0] rfl)
      refine lv_iload cx.1 cx.2.1 dX10_greatestLateness_5 (lv_at hl 4 rfl) ?_
      refine q_ald_n cx dX10_greatestLateness_7 rfl (lv_at hl 0 rfl) ?_
      obtain ⟨x161, ex161⟩ : ∃ zz, q_is (q_z f v 3) zz := ⟨_, q_isr _⟩
      refine q_gX10_35_15 cx hB hv kv ex161 dX10_greatestLateness_8 (fun lb162 ub162 => ?_)
      refine q_icge (tgt := 49) cx ⟨by omega, by omega⟩ ⟨by omega, by omega⟩ dX10_greatestLateness_11 (by decide) (fun c163 => ?_) (fun c163 => ?_)
      · refine q_ild_n cx dX10_greatestLateness_49 rfl (lv_at hl 3 rfl) ?_
        refine q_iret cx hr hlk hB dX10_greatestLateness_50 ⟨by omega, by omega⟩ ?_
        exact ⟨rfl, (by omega), (by omega)⟩
      · refine q_ald_n cx dX10_greatestLateness_14 rfl (lv_at hl 0 rfl) ?_
        refine q_ild_n cx dX10_greatestLateness_15 rfl (lv_at hl 1 rfl) ?_
        refine q_cVr (As := [.int (q_i p0)]) (rest := []) cx hB (fun _ h => h) hN hv kv (by decide) rfl (g_X10_nodeAt_3 l g hN hB.2.1 v hv kv p0 (by omega) (by omega)) q_cX10_66 q_dX10_nodeAt (by decide) rfl rfl hl.1 rfl (Nat.le_of_ble_eq_true rfl) dX10_greatestLateness_16 (fun y165 H locs f164 h166 hF hB => ?_)
        obtain ⟨rfl, hy165, ky165⟩ := h166
        obtain ⟨x167, ex167⟩ : ∃ zz, q_is (q_z f y165 5) zz := ⟨_, q_isr _⟩
        refine q_gX10_104_19 cx hB hy165 ky165 ex167 dX10_greatestLateness_19 (fun lb168 ub168 => ?_)
        refine lv_iload cx.1 cx.2.1 dX10_greatestLateness_22 (lv_at hl 4 rfl) ?_
        refine q_cSi (As := [.int (q_i x167), .int (q_i v5_4)]) (rest := []) cx hB (fun _ h => h) hN (g_X10_has l g hN hB.2.1 x167 (by omega) (by omega) v5_4 (by omega) (by omega)) q_cX10_181 q_dX10_has (by decide) rfl rfl hl.1 rfl (Nat.le_of_ble_eq_true rfl) dX10_greatestLateness_24 (fun y170 H locs f169 ry170 h171 hF hB => ?_)
        obtain ⟨rfl, ly170, uy170⟩ := h171
        refine q_ifeq (tgt := 43) cx ⟨by omega, by omega⟩ dX10_greatestLateness_27 (by decide) (fun c172 => ?_) (fun c172 => ?_)
        · exact J43 v5_3 (by omega) (by omega) (by omega) H locs hB ls (lv_sub hl [0, 1, 2, 3, 4] rfl)
        · refine q_ild_n cx dX10_greatestLateness_30 rfl (lv_at hl 3 rfl) ?_
          refine q_ald_n cx dX10_greatestLateness_31 rfl (lv_at hl 0 rfl) ?_
          refine q_ild_n cx dX10_greatestLateness_32 rfl (lv_at hl 1 rfl) ?_
          refine q_ild_n cx dX10_greatestLateness_33 rfl (lv_at hl 2 rfl) ?_
          refine lv_iload cx.1 cx.2.1 dX10_greatestLateness_34 (lv_at hl 4 rfl) ?_
          refine q_cVi (As := [.int (q_i p0), .int (q_i p1), .int (q_i v5_4)]) (rest := [.int (q_i v5_3)]) cx hB (fun _ h => h) hN hv kv (by decide) rfl (g_X10_lateness_3 l g hN hB.2.1 v hv kv p0 (by omega) (by omega) p1 (by omega) (by omega) v5_4 (by omega) (by omega)) q_cX10_222 q_dX10_lateness (by decide) rfl rfl hl.1 rfl (Nat.le_of_ble_eq_true rfl) dX10_greatestLateness_36 (fun y174 H locs f173 ry174 h175 hF hB => ?_)
          obtain ⟨rfl, ly174, uy174⟩ := h175
          refine q_mmax (rest := []) cx hl.1 q_h658 q_h659 q_h157 q_h660 (by decide) (Nat.le_of_ble_eq_true rfl) (by decide) (by decide) ⟨by omega, by omega⟩ ⟨by omega, by omega⟩ dX10_greatestLateness_39 (fun y176 ay176 by176 ey176 => ?_)
          refine lv_istore_n (lv' := [(3, .int (q_i y176)), (0, .ref v), (1, .int (q_i p0)), (2, .int (q_i p1)), (4, .int (q_i v5_4))]) cx.1 cx.2.1 dX10_greatestLateness_42 rfl hl (by decide) rfl (fun ls hl => ?_)
          exact J43 y176 (by omega) (by omega) (by omega) H locs hB ls (lv_sub hl [1, 2, 3, 0, 4] rfl)
  obtain ⟨H, hH⟩ : ∃ H : Heap, H = s.heap := ⟨_, rfl⟩
  obtain ⟨locs, hlocs⟩ : ∃ z : List Loc, z = [] := ⟨_, rfl⟩
  rw [← hH, ← hlocs] at hB
  rw [← hH, ← hlocs]
  refine q_iconst cx dX10_greatestLateness_0 ?_
  refine lv_istore_n (lv' := [(3, .int (q_i 0)), (0, .ref v), (1, .int (q_i p0)), (2, .int (q_i p1))]) cx.1 cx.2.1 dX10_greatestLateness_1 rfl hl (by decide) rfl (fun ls hl => ?_)
  refine q_iconst cx dX10_greatestLateness_2 ?_
  refine lv_istore (lv' := [(4, .int (q_i 0)), (3, .int (q_i 0)), (0, .ref v), (1, .int (q_i p0)), (2, .int (q_i p1))]) cx.1 cx.2.1 dX10_greatestLateness_3 hl (by decide) rfl (fun ls hl => ?_)
  exact J5 ((Int.toNat (2147483647 - 0)) + 1) 0 (by decide) (by decide) 0 (by decide) (by decide) (Nat.lt_succ_self _) H locs hB ls (lv_sub hl [2, 3, 4, 1, 0] rfl)
