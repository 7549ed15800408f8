set_option maxHeartbeats 4000000 in
set_option maxRecDepth 100000 in
theorem g_X10_awakeAfter_4 (l : Launch) (g : q_G) {K : Nat → Nat} {L : List Nat} (hN : L.Nodup) {f : Nat → va_E} (hT : q_Ty g K L f) (v : Nat) (hv : v ∈ L) (kv : K v = 16) (p0 : Int) (lp0 : (-2147483648) ≤ p0) (up0 : p0 ≤ 2147483647) : q_Ct l g K L yX10_awakeAfter cX10_awakeAfter 4 (some .int) 3 69 [.ref v, .int (q_i p0)] f [] (q_Pi (fun (z : Int) (f1 : Nat → va_E) => f = f1)) := by
  refine q_ofb (by decide +kernel) hN hT (Nat.le_of_ble_eq_true rfl) ?_
  intro p e s m below meth c ls cx hr hlk hB hl
  have hl : lv_has ls 4 [(0, .ref v), (1, .int (q_i p0))] := hl
  have J4 : ∀ (n : Nat) (v4_2 : Int) (lv4_2 : (-2147483648) ≤ v4_2) (uv4_2 : v4_2 ≤ 2147483647) (v4_3 : Int) (lv4_3 : 0 ≤ v4_3) (uv4_3 : v4_3 ≤ 10) (hmu : (Int.toNat (2147483647 - v4_3)) < n) (H : Heap) (locs : List Loc) (hB : q_B g K L (fun q => q ∈ L) [] f f s H locs) (ls : Array Slot) (hl : lv_has ls 4 [(0, .ref v), (1, .int (q_i p0)), (2, .int (q_i v4_2)), (3, .int (q_i v4_3))]), W p l e { frames := 3, cells := 0, slots := 0, locals := 69 } s m ([.ref v, .int (q_i p0)] : List Value).toArray below meth c H locs 0 0 (MQ below (q_Q g K L [] f (q_Pi (fun (z : Int) (f1 : Nat → va_E) => f = f1))) ([.ref v, .int (q_i p0)] : List Value).toArray s 0 0 (fun q => q ∈ L)) (F0 m 4 ls []) := by
    intro n
    induction n with
    | zero =>
      intro v4_2 lv4_2 uv4_2 v4_3 lv4_3 uv4_3 hmu
      exact absurd hmu (Nat.not_lt_zero _)
    | succ n ih4 =>
      intro v4_2 lv4_2 uv4_2 v4_3 lv4_3 uv4_3 hmu H locs hB ls hl
      have J35 : ∀ (v35_2 : Int) (lv35_2 : (-2147483648) ≤ v35_2) (uv35_2 : v35_2 ≤ 2147483647) (buv4_3 : v4_3 ≤ 9) (H : Heap) (locs : List Loc) (hB : q_B g K L (fun q => q ∈ L) [] f f s H locs) (ls : Array Slot) (hl : lv_has ls 4 [(0, .ref v), (1, .int (q_i p0)), (2, .int (q_i v35_2)), (3, .int (q_i v4_3))]), W p l e { frames := 3, cells := 0, slots := 0, locals := 69 } s m ([.ref v, .int (q_i p0)] : List Value).toArray below meth c H locs 0 0 (MQ below (q_Q g K L [] f (q_Pi (fun (z : Int) (f1 : Nat → va_E) => f = f1))) ([.ref v, .int (q_i p0)] : List Value).toArray s 0 0 (fun q => q ∈ L)) (F0 m 35 ls []) := by
        intro v35_2 lv35_2 uv35_2 buv4_3 H locs hB ls hl
        refine q_iinc (lv' := [(3, .int (q_i (v4_3 + 1))), (0, .ref v), (1, .int (q_i p0)), (2, .int (q_i v35_2))]) cx dX10_awakeAfter_35 hl (k := 3) rfl (by decide) rfl (fun ls hl => ?_)
        refine lv_goto (tgt := 4) cx.1 cx.2.1 dX10_awakeAfter_38 (by decide) ?_
        exact ih4 v35_2 (by omega) (by omega) (v4_3 + 1) (by omega) (by omega) (by omega) H locs hB ls (lv_sub hl [1, 2, 3, 0] rfl)
      refine q_ild_n cx dX10_awakeAfter_4 rfl (lv_at hl 3 rfl) ?_
      refine q_ald_n cx dX10_awakeAfter_5 rfl (lv_at hl 0 rfl) ?_
      obtain ⟨x141, ex141⟩ : ∃ zz, q_is (q_z f v 3) zz := ⟨_, q_isr _⟩
      refine q_gX10_35_16 cx hB hv kv ex141 dX10_awakeAfter_6 (fun lb142 ub142 => ?_)
      refine q_icge (tgt := 41) cx ⟨by omega, by omega⟩ ⟨by omega, by omega⟩ dX10_awakeAfter_9 (by decide) (fun c143 => ?_) (fun c143 => ?_)
      · refine q_ild_n cx dX10_awakeAfter_41 rfl (lv_at hl 2 rfl) ?_
        refine q_iret cx hr hlk hB dX10_awakeAfter_42 ⟨by omega, by omega⟩ ?_
        exact rfl
      · refine q_ald_n cx dX10_awakeAfter_12 rfl (lv_at hl 0 rfl) ?_
        refine q_ild_n cx dX10_awakeAfter_13 rfl (lv_at hl 3 rfl) ?_
        refine q_ald_n cx dX10_awakeAfter_14 rfl (lv_at hl 0 rfl) ?_
        refine q_ild_n cx dX10_awakeAfter_15 rfl (lv_at hl 3 rfl) ?_
        refine q_cVr (As := [.int (q_i v4_3)]) (rest := [.int (q_i v4_3), .ref v]) cx hB (fun _ h => h) hN hv kv (by decide) rfl (g_X10_nodeAt_4 l g hN hB.2.1 v hv kv v4_3 (by omega) (by omega)) q_cX10_66 q_dX10_nodeAt (by decide) rfl rfl hl.1 rfl (Nat.le_of_ble_eq_true rfl) dX10_awakeAfter_16 (fun y145 H locs f144 h146 hF hB => ?_)
        obtain ⟨rfl, hy145, ky145⟩ := h146
        obtain ⟨x147, ex147⟩ : ∃ zz, q_is (q_z f y145 3) zz := ⟨_, q_isr _⟩
        refine q_gX10_98_20 cx hB hy145 ky145 ex147 dX10_awakeAfter_19 (fun lb148 ub148 => ?_)
        refine q_ild_n cx dX10_awakeAfter_22 rfl (lv_at hl 1 rfl) ?_
        refine q_cVi (As := [.int (q_i v4_3), .int (q_i x147), .int (q_i p0)]) (rest := []) cx hB (fun _ h => h) hN hv kv (by decide) rfl (g_X10_wakesAfter_4 l g hN hB.2.1 v hv kv v4_3 (by omega) (by omega) x147 (by omega) (by omega) p0 (by omega) (by omega)) q_cX10_214 q_dX10_wakesAfter (by decide) rfl rfl hl.1 rfl (Nat.le_of_ble_eq_true rfl) dX10_awakeAfter_23 (fun y150 H locs f149 ry150 h151 hF hB => ?_)
        obtain ⟨rfl, ly150, uy150⟩ := h151
        refine q_ifeq (tgt := 35) cx ⟨by omega, by omega⟩ dX10_awakeAfter_26 (by decide) (fun c152 => ?_) (fun c152 => ?_)
        · exact J35 v4_2 (by omega) (by omega) (by omega) H locs hB ls (lv_sub hl [0, 1, 2, 3] rfl)
        · refine q_ild_n cx dX10_awakeAfter_29 rfl (lv_at hl 2 rfl) ?_
          refine q_iconst cx dX10_awakeAfter_30 ?_
          refine q_ild_n cx dX10_awakeAfter_31 rfl (lv_at hl 3 rfl) ?_
          refine q_ishl cx dX10_awakeAfter_32 (fun y153 ry153 ey153 => ?_)
          refine q_ior cx dX10_awakeAfter_33 (fun y154 ry154 ey154 => ?_)
          refine lv_istore_n (lv' := [(2, .int (q_i y154)), (0, .ref v), (1, .int (q_i p0)), (3, .int (q_i v4_3))]) cx.1 cx.2.1 dX10_awakeAfter_34 rfl hl (by decide) rfl (fun ls hl => ?_)
          exact J35 y154 (by omega) (by omega) (by omega) H locs hB ls (lv_sub hl [1, 2, 0, 3] rfl)
  obtain ⟨H, hH⟩ : ∃ H : Heap, H = s.heap := ⟨_, rfl⟩
  obtain ⟨locs, hlocs⟩ : ∃ z : List Loc, z = [] := ⟨_, rfl⟩
  rw [← hH, ← hlocs] at hB
  rw [← hH, ← hlocs]
  refine q_iconst cx dX10_awakeAfter_0 ?_
  refine lv_istore_n (lv' := [(2, .int (q_i 0)), (0, .ref v), (1, .int (q_i p0))]) cx.1 cx.2.1 dX10_awakeAfter_1 rfl hl (by decide) rfl (fun ls hl => ?_)
  refine q_iconst cx dX10_awakeAfter_2 ?_
  refine lv_istore_n (lv' := [(3, .int (q_i 0)), (2, .int (q_i 0)), (0, .ref v), (1, .int (q_i p0))]) cx.1 cx.2.1 dX10_awakeAfter_3 rfl hl (by decide) rfl (fun ls hl => ?_)
  exact J4 ((Int.toNat (2147483647 - 0)) + 1) 0 (by decide) (by decide) 0 (by decide) (by decide) (Nat.lt_succ_self _) H locs hB ls (lv_sub hl [2, 3, 1, 0] rfl)
set_option maxHeartbeats 4000000 in
set_option maxRecDepth 100000 in
theorem g_X10_meetingIn (l : Launch) (g : q_G) {K : Nat → Nat} {L : List Nat} (hN : L.Nodup) {f : Nat → va_E} (hT : q_Ty g K L f) (v : Nat) (hv : v ∈ L) (kv : K v = 10) (p0 : Int) (lp0 : (-2147483648) ≤ p0) (up0 : p0 ≤ 2147483647) (p1 : Int) (lp1 : (-2147483648) ≤ p1) (up1 : p1 ≤ 2147483647) (p2 : Int) (lp2 : (-2147483648) ≤ p2) (up2 : p2 ≤ 2147483647) : q_Ct l g K L yX10_meetingIn cX10_meetingIn 5 (some .int) 3 69 [.ref v, .int (q_i p0), .int (q_i p1), .int (q_i p2)] f [] (q_Pi (fun (z : Int) (f1 : Nat → va_E) => f = f1 ∧ (-1) ≤ z ∧ z ≤ 60)) := by
  refine q_ofb (by decide +kernel) hN hT (Nat.le_of_ble_eq_true rfl) ?_
  intro p e s m below meth c ls cx hr hlk hB hl
  have hl : lv_has ls 5 [(0, .ref v), (1, .int (q_i p0)), (2, .int (q_i p1)), (3, .int (q_i p2))] := hl
  have J3 : ∀ (n : Nat) (v3_4 : Int) (lv3_4 : 1 ≤ v3_4) (uv3_4 : v3_4 ≤ 61) (hmu : (Int.toNat (2147483647 - v3_4)) < n) (H : Heap) (locs : List Loc) (hB : q_B g K L (fun q => q ∈ L) [] f f s H locs) (ls : Array Slot) (hl : lv_has ls 5 [(0, .ref v), (1, .int (q_i p0)), (2, .int (q_i p1)), (3, .int (q_i p2)), (4, .int (q_i v3_4))]), W p l e { frames := 3, cells := 0, slots := 0, locals := 69 } s m ([.ref v, .int (q_i p0), .int (q_i p1), .int (q_i p2)] : List Value).toArray below meth c H locs 0 0 (MQ below (q_Q g K L [] f (q_Pi (fun (z : Int) (f1 : Nat → va_E) => f = f1 ∧ (-1) ≤ z ∧ z ≤ 60))) ([.ref v, .int (q_i p0), .int (q_i p1), .int (q_i p2)] : List Value).toArray s 0 0 (fun q => q ∈ L)) (F0 m 3 ls []) := by
    intro n
    induction n with
    | zero =>
      intro v3_4 lv3_4 uv3_4 hmu
      exact absurd hmu (Nat.not_lt_zero _)
    | succ n ih3 =>
      intro v3_4 lv3_4 uv3_4 hmu H locs hB ls hl
      have J44 : ∀ (buv3_4 : v3_4 ≤ 60) (H : Heap) (locs : List Loc) (hB : q_B g K L (fun q => q ∈ L) [] f f s H locs) (ls : Array Slot) (hl : lv_has ls 5 [(0, .ref v), (1, .int (q_i p0)), (2, .int (q_i p1)), (3, .int (q_i p2)), (4, .int (q_i v3_4))]), W p l e { frames := 3, cells := 0, slots := 0, locals := 69 } s m ([.ref v, .int (q_i p0), .int (q_i p1), .int (q_i p2)] : List Value).toArray below meth c H locs 0 0 (MQ below (q_Q g K L [] f (q_Pi (fun (z : Int) (f1 : Nat → va_E) => f = f1 ∧ (-1) ≤ z ∧ z ≤ 60))) ([.ref v, .int (q_i p0), .int (q_i p1), .int (q_i p2)] : List Value).toArray s 0 0 (fun q => q ∈ L)) (F0 m 44 ls []) := by
        intro buv3_4 H locs hB ls hl
        refine q_iinc (lv' := [(4, .int (q_i (v3_4 + 1))), (0, .ref v), (1, .int (q_i p0)), (2, .int (q_i p1)), (3, .int (q_i p2))]) cx dX10_meetingIn_44 hl (k := 4) rfl (by decide) rfl (fun ls hl => ?_)
        refine lv_goto (tgt := 3) cx.1 cx.2.1 dX10_meetingIn_47 (by decide) ?_
        exact ih3 (v3_4 + 1) (by omega) (by omega) (by omega) H locs hB ls (lv_sub hl [1, 2, 3, 4, 0] rfl)
      refine lv_iload cx.1 cx.2.1 dX10_meetingIn_3 (lv_at hl 4 rfl) ?_
      refine q_ald_n cx dX10_meetingIn_5 rfl (lv_at hl 0 rfl) ?_
      obtain ⟨x321, ex321⟩ : ∃ zz, q_is (q_z f v 6) zz := ⟨_, q_isr _⟩
      refine q_gX10_45 cx hB hv kv ex321 dX10_meetingIn_6 (fun lb322 ub322 => ?_)
      refine q_icgt (tgt := 50) cx ⟨by omega, by omega⟩ ⟨by omega, by omega⟩ dX10_meetingIn_9 (by decide) (fun c323 => ?_) (fun c323 => ?_)
      · refine q_iconst cx dX10_meetingIn_50 ?_
        refine q_iret cx hr hlk hB dX10_meetingIn_51 ⟨by decide, by decide⟩ ?_
        exact ⟨rfl, (by decide), (by decide)⟩
      · refine q_ald_n cx dX10_meetingIn_12 rfl (lv_at hl 0 rfl) ?_
        refine q_ild_n cx dX10_meetingIn_13 rfl (lv_at hl 1 rfl) ?_
        refine q_ild_n cx dX10_meetingIn_14 rfl (lv_at hl 2 rfl) ?_
        refine lv_iload cx.1 cx.2.1 dX10_meetingIn_15 (lv_at hl 4 rfl) ?_
        refine q_cVi (As := [.int (q_i p0), .int (q_i p1), .int (q_i v3_4)]) (rest := []) cx hB (fun _ h => h) hN hv kv (by decide) rfl (g_X10_wakesAfter l g hN hB.2.1 v hv kv p0 (by omega) (by omega) p1 (by omega) (by omega) v3_4 (by omega) (by omega)) q_cX10_214 q_dX10_wakesAfter (by decide) rfl rfl hl.1 rfl (Nat.le_of_ble_eq_true rfl) dX10_meetingIn_17 (fun y325 H locs f324 ry325 h326 hF hB => ?_)
        obtain ⟨rfl, ly325, uy325⟩ := h326
        refine q_ifeq (tgt := 44) cx ⟨by omega, by omega⟩ dX10_meetingIn_20 (by decide) (fun c327 => ?_) (fun c327 => ?_)
        · exact J44 (by omega) H locs hB ls (lv_sub hl [0, 1, 2, 3, 4] rfl)
        · refine q_ald_n cx dX10_meetingIn_23 rfl (lv_at hl 0 rfl) ?_
          refine q_ild_n cx dX10_meetingIn_24 rfl (lv_at hl 3 rfl) ?_
          refine q_ald_n cx dX10_meetingIn_25 rfl (lv_at hl 0 rfl) ?_
          refine q_ild_n cx dX10_meetingIn_26 rfl (lv_at hl 3 rfl) ?_
          refine q_cVr (As := [.int (q_i p2)]) (rest := [.int (q_i p2), .ref v]) cx hB (fun _ h => h) hN hv kv (by decide) rfl (g_X10_nodeAt l g hN hB.2.1 v hv kv p2 (by omega) (by omega)) q_cX10_66 q_dX10_nodeAt (by decide) rfl rfl hl.1 rfl (Nat.le_of_ble_eq_true rfl) dX10_meetingIn_27 (fun y329 H locs f328 h330 hF hB => ?_)
          obtain ⟨rfl, hy329, ky329⟩ := h330
          obtain ⟨x331, ex331⟩ : ∃ zz, q_is (q_z f y329 3) zz := ⟨_, q_isr _⟩
          refine q_gX10_98 cx hB hy329 ky329 ex331 dX10_meetingIn_30 (fun lb332 ub332 => ?_)
          refine lv_iload cx.1 cx.2.1 dX10_meetingIn_33 (lv_at hl 4 rfl) ?_
          refine q_cVi (As := [.int (q_i p2), .int (q_i x331), .int (q_i v3_4)]) (rest := []) cx hB (fun _ h => h) hN hv kv (by decide) rfl (g_X10_wakesAfter l g hN hB.2.1 v hv kv p2 (by omega) (by omega) x331 (by omega) (by omega) v3_4 (by omega) (by omega)) q_cX10_214 q_dX10_wakesAfter (by decide) rfl rfl hl.1 rfl (Nat.le_of_ble_eq_true rfl) dX10_meetingIn_35 (fun y334 H locs f333 ry334 h335 hF hB => ?_)
          obtain ⟨rfl, ly334, uy334⟩ := h335
          refine q_ifeq (tgt := 44) cx ⟨by omega, by omega⟩ dX10_meetingIn_38 (by decide) (fun c336 => ?_) (fun c336 => ?_)
          · exact J44 (by omega) H locs hB ls (lv_sub hl [0, 1, 2, 3, 4] rfl)
          · refine lv_iload cx.1 cx.2.1 dX10_meetingIn_41 (lv_at hl 4 rfl) ?_
            refine q_iret cx hr hlk hB dX10_meetingIn_43 ⟨by omega, by omega⟩ ?_
            exact ⟨rfl, (by omega), (by omega)⟩
  obtain ⟨H, hH⟩ : ∃ H : Heap, H = s.heap := ⟨_, rfl⟩
  obtain ⟨locs, hlocs⟩ : ∃ z : List Loc, z = [] := ⟨_, rfl⟩
  rw [← hH, ← hlocs] at hB
  rw [← hH, ← hlocs]
  refine q_iconst cx dX10_meetingIn_0 ?_
  refine lv_istore (lv' := [(4, .int (q_i 1)), (0, .ref v), (1, .int (q_i p0)), (2, .int (q_i p1)), (3, .int (q_i p2))]) cx.1 cx.2.1 dX10_meetingIn_1 hl (by decide) rfl (fun ls hl => ?_)
  exact J3 ((Int.toNat (2147483647 - 1)) + 1) 1 (by decide) (by decide) (Nat.lt_succ_self _) H locs hB ls (lv_sub hl [1, 2, 3, 4, 0] rfl)
set_option maxHeartbeats 4000000 in
set_option maxRecDepth 100000 in
theorem g_X10_meetingIn_1 (l : Launch) (g : q_G) {K : Nat → Nat} {L : List Nat} (hN : L.Nodup) {f : Nat → va_E} (hT : q_Ty g K L f) (v : Nat) (hv : v ∈ L) (kv : K v = 13) (p0 : Int) (lp0 : (-2147483648) ≤ p0) (up0 : p0 ≤ 2147483647) (p1 : Int) (lp1 : (-2147483648) ≤ p1) (up1 : p1 ≤ 2147483647) (p2 : Int) (lp2 : (-2147483648) ≤ p2) (up2 : p2 ≤ 2147483647) : q_Ct l g K L yX10_meetingIn cX10_meetingIn 5 (some .int) 3 69 [.ref v, .int (q_i p0), .int (q_i p1), .int (q_i p2)] f [] (q_Pi (fun (z : Int) (f1 : Nat → va_E) => f = f1 ∧ (-1) ≤ z ∧ z ≤ 60)) := by
  refine q_ofb (by decide +kernel) hN hT (Nat.le_of_ble_eq_true rfl) ?_
  intro p e s m below meth c ls cx hr hlk hB hl
  have hl : lv_has ls 5 [(0, .ref v), (1, .int (q_i p0)), (2, .int (q_i p1)), (3, .int (q_i p2))] := hl
  have J3 : ∀ (n : Nat) (v3_4 : Int) (lv3_4 : 1 ≤ v3_4) (uv3_4 : v3_4 ≤ 61) (hmu : (Int.toNat (2147483647 - v3_4)) < n) (H : Heap) (locs : List Loc) (hB : q_B g K L (fun q => q ∈ L) [] f f s H locs) (ls : Array Slot) (hl : lv_has ls 5 [(0, .ref v), (1, .int (q_i p0)), (2, .int (q_i p1)), (3, .int (q_i p2)), (4, .int (q_i v3_4))]), W p l e { frames := 3, cells := 0, slots := 0, locals := 69 } s m ([.ref v, .int (q_i p0), .int (q_i p1), .int (q_i p2)] : List Value).toArray below meth c H locs 0 0 (MQ below (q_Q g K L [] f (q_Pi (fun (z : Int) (f1 : Nat → va_E) => f = f1 ∧ (-1) ≤ z ∧ z ≤ 60))) ([.ref v, .int (q_i p0), .int (q_i p1), .int (q_i p2)] : List Value).toArray s 0 0 (fun q => q ∈ L)) (F0 m 3 ls []) := by
    intro n
    induction n with
    | zero =>
      intro v3_4 lv3_4 uv3_4 hmu
      exact absurd hmu (Nat.not_lt_zero _)
    | succ n ih3 =>
      intro v3_4 lv3_4 uv3_4 hmu H locs hB ls hl
      have J44 : ∀ (buv3_4 : v3_4 ≤ 60) (H : Heap) (locs : List Loc) (hB : q_B g K L (fun q => q ∈ L) [] f f s H locs) (ls : Array Slot) (hl : lv_has ls 5 [(0, .ref v), (1, .int (q_i p0)), (2, .int (q_i p1)), (3, .int (q_i p2)), (4, .int (q_i v3_4))]), W p l e { frames := 3, cells := 0, slots := 0, locals := 69 } s m ([.ref v, .int (q_i p0), .int (q_i p1), .int (q_i p2)] : List Value).toArray below meth c H locs 0 0 (MQ below (q_Q g K L [] f (q_Pi (fun (z : Int) (f1 : Nat → va_E) => f = f1 ∧ (-1) ≤ z ∧ z ≤ 60))) ([.ref v, .int (q_i p0), .int (q_i p1), .int (q_i p2)] : List Value).toArray s 0 0 (fun q => q ∈ L)) (F0 m 44 ls []) := by
        intro buv3_4 H locs hB ls hl
        refine q_iinc (lv' := [(4, .int (q_i (v3_4 + 1))), (0, .ref v), (1, .int (q_i p0)), (2, .int (q_i p1)), (3, .int (q_i p2))]) cx dX10_meetingIn_44 hl (k := 4) rfl (by decide) rfl (fun ls hl => ?_)
        refine lv_goto (tgt := 3) cx.1 cx.2.1 dX10_meetingIn_47 (by decide) ?_
        exact ih3 (v3_4 + 1) (by omega) (by omega) (by omega) H locs hB ls (lv_sub hl [1, 2, 3, 4, 0] rfl)
      refine lv_iload cx.1 cx.2.1 dX10_meetingIn_3 (lv_at hl 4 rfl) ?_
      refine q_ald_n cx dX10_meetingIn_5 rfl (lv_at hl 0 rfl) ?_
      obtain ⟨x321, ex321⟩ : ∃ zz, q_is (q_z f v 6) zz := ⟨_, q_isr _⟩
      refine q_gX10_45_13 cx hB hv kv ex321 dX10_meetingIn_6 (fun lb322 ub322 => ?_)
      refine q_icgt (tgt := 50) cx ⟨by omega, by omega⟩ ⟨by omega, by omega⟩ dX10_meetingIn_9 (by decide) (fun c323 => ?_) (fun c323 => ?_)
      · refine q_iconst cx dX10_meetingIn_50 ?_
        refine q_iret cx hr hlk hB dX10_meetingIn_51 ⟨by decide, by decide⟩ ?_
        exact ⟨rfl, (by decide), (by decide)⟩
      · refine q_ald_n cx dX10_meetingIn_12 rfl (lv_at hl 0 rfl) ?_
        refine q_ild_n cx dX10_meetingIn_13 rfl (lv_at hl 1 rfl) ?_
        refine q_ild_n cx dX10_meetingIn_14 rfl (lv_at hl 2 rfl) ?_
        refine lv_iload cx.1 cx.2.1 dX10_meetingIn_15 (lv_at hl 4 rfl) ?_
        refine q_cVi (As := [.int (q_i p0), .int (q_i p1), .int (q_i v3_4)]) (rest := []) cx hB (fun _ h => h) hN hv kv (by decide) rfl (g_X10_wakesAfter_1 l g hN hB.2.1 v hv kv p0 (by omega) (by omega) p1 (by omega) (by omega) v3_4 (by omega) (by omega)) q_cX10_214 q_dX10_wakesAfter (by decide) rfl rfl hl.1 rfl (Nat.le_of_ble_eq_true rfl) dX10_meetingIn_17 (fun y325 H locs f324 ry325 h326 hF hB => ?_)
        obtain ⟨rfl, ly325, uy325⟩ := h326
        refine q_ifeq (tgt := 44) cx ⟨by omega, by omega⟩ dX10_meetingIn_20 (by decide) (fun c327 => ?_) (fun c327 => ?_)
        · exact J44 (by omega) H locs hB ls (lv_sub hl [0, 1, 2, 3, 4] rfl)
        · refine q_ald_n cx dX10_meetingIn_23 rfl (lv_at hl 0 rfl) ?_
          refine q_ild_n cx dX10_meetingIn_24 rfl (lv_at hl 3 rfl) ?_
          refine q_ald_n cx dX10_meetingIn_25 rfl (lv_at hl 0 rfl) ?_
          refine q_ild_n cx dX10_meetingIn_26 rfl (lv_at hl 3 rfl) ?_
          refine q_cVr (As := [.int (q_i p2)]) (rest := [.int (q_i p2), .ref v]) cx hB (fun _ h => h) hN hv kv (by decide) rfl (g_X10_nodeAt_1 l g hN hB.2.1 v hv kv p2 (by omega) (by omega)) q_cX10_66 q_dX10_nodeAt (by decide) rfl rfl hl.1 rfl (Nat.le_of_ble_eq_true rfl) dX10_meetingIn_27 (fun y329 H locs f328 h330 hF hB => ?_)
          obtain ⟨rfl, hy329, ky329⟩ := h330
          obtain ⟨x331, ex331⟩ : ∃ zz, q_is (q_z f y329 3) zz := ⟨_, q_isr _⟩
          refine q_gX10_98_17 cx hB hy329 ky329 ex331 dX10_meetingIn_30 (fun lb332 ub332 => ?_)
          refine lv_iload cx.1 cx.2.1 dX10_meetingIn_33 (lv_at hl 4 rfl) ?_
          refine q_cVi (As := [.int (q_i p2), .int (q_i x331), .int (q_i v3_4)]) (rest := []) cx hB (fun _ h => h) hN hv kv (by decide) rfl (g_X10_wakesAfter_1 l g hN hB.2.1 v hv kv p2 (by omega) (by omega) x331 (by omega) (by omega) v3_4 (by omega) (by omega)) q_cX10_214 q_dX10_wakesAfter (by decide) rfl rfl hl.1 rfl (Nat.le_of_ble_eq_true rfl) dX10_meetingIn_35 (fun y334 H locs f333 ry334 h335 hF hB => ?_)
          obtain ⟨rfl, ly334, uy334⟩ := h335
          refine q_ifeq (tgt := 44) cx ⟨by omega, by omega⟩ dX10_meetingIn_38 (by decide) (fun c336 => ?_) (fun c336 => ?_)
          · exact J44 (by omega) H locs hB ls (lv_sub hl [0, 1, 2, 3, 4] rfl)
          · refine lv_iload cx.1 cx.2.1 dX10_meetingIn_41 (lv_at hl 4 rfl) ?_
            refine q_iret cx hr hlk hB dX10_meetingIn_43 ⟨by omega, by omega⟩ ?_
            exact ⟨rfl, (by omega), (by omega)⟩
  obtain ⟨H, hH⟩ : ∃ H : Heap, H = s.heap := ⟨_, rfl⟩
  obtain ⟨locs, hlocs⟩ : ∃ z : List Loc, z = [] := ⟨_, rfl⟩
  rw [← hH, ← hlocs] at hB
  rw [← hH, ← hlocs]
  refine q_iconst cx dX10_meetingIn_0 ?_
  refine lv_istore (lv' := [(4, .int (q_i 1)), (0, .ref v), (1, .int (q_i p0)), (2, .int (q_i p1)), (3, .int (q_i p2))]) cx.1 cx.2.1 dX10_meetingIn_1 hl (by decide) rfl (fun ls hl => ?_)
  exact J3 ((Int.toNat (2147483647 - 1)) + 1) 1 (by decide) (by decide) (Nat.lt_succ_self _) H locs hB ls (lv_sub hl [1, 2, 3, 4, 0] rfl)
set_option maxHeartbeats 4000000 in
set_option maxRecDepth 100000 in
theorem g_X10_meetingIn_2 (l : Launch) (g : q_G) {K : Nat → Nat} {L : List Nat} (hN : L.Nodup) {f : Nat → va_E} (hT : q_Ty g K L f) (v : Nat) (hv : v ∈ L) (kv : K v = 14) (p0 : Int) (lp0 : (-2147483648) ≤ p0) (up0 : p0 ≤ 2147483647) (p1 : Int) (lp1 : (-2147483648) ≤ p1) (up1 : p1 ≤ 2147483647) (p2 : Int) (lp2 : (-2147483648) ≤ p2) (up2 : p2 ≤ 2147483647) : q_Ct l g K L yX10_meetingIn cX10_meetingIn 5 (some .int) 3 69 [.ref v, .int (q_i p0), .int (q_i p1), .int (q_i p2)] f [] (q_Pi (fun (z : Int) (f1 : Nat → va_E) => f = f1 ∧ (-1) ≤ z ∧ z ≤ 60)) := by
  refine q_ofb (by decide +kernel) hN hT (Nat.le_of_ble_eq_true rfl) ?_
  intro p e s m below meth c ls cx hr hlk hB hl
  have hl : lv_has ls 5 [(0, .ref v), (1, .int (q_i p0)), (2, .int (q_i p1)), (3, .int (q_i p2))] := hl
  have J3 : ∀ (n : Nat) (v3_4 : Int) (lv3_4 : 1 ≤ v3_4) (uv3_4 : v3_4 ≤ 61) (hmu : (Int.toNat (2147483647 - v3_4)) < n) (H : Heap) (locs : List Loc) (hB : q_B g K L (fun q => q ∈ L) [] f f s H locs) (ls : Array Slot) (hl : lv_has ls 5 [(0, .ref v), (1, .int (q_i p0)), (2, .int (q_i p1)), (3, .int (q_i p2)), (4, .int (q_i v3_4))]), W p l e { frames := 3, cells := 0, slots := 0, locals := 69 } s m ([.ref v, .int (q_i p0), .int (q_i p1), .int (q_i p2)] : List Value).toArray below meth c H locs 0 0 (MQ below (q_Q g K L [] f (q_Pi (fun (z : Int) (f1 : Nat → va_E) => f = f1 ∧ (-1) ≤ z ∧ z ≤ 60))) ([.ref v, .int (q_i p0), .int (q_i p1), .int (q_i p2)] : List Value).toArray s 0 0 (fun q => q ∈ L)) (F0 m 3 ls []) := by
    intro n
    induction n with
    | zero =>
      intro v3_4 lv3_4 uv3_4 hmu
      exact absurd hmu (Nat.not_lt_zero _)
    | succ n ih3 =>
      intro v3_4 lv3_4 uv3_4 hmu H locs hB ls hl
      have J44 : ∀ (buv3_4 : v3_4 ≤ 60) (H : Heap) (locs : List Loc) (hB : q_B g K L (fun q => q ∈ L) [] f f s H locs) (ls : Array Slot) (hl : lv_has ls 5 [(0, .ref v), (1, .int (q_i p0)), (2, .int (q_i p1)), (3, .int (q_i p2)), (4, .int (q_i v3_4))]), W p l e { frames := 3, cells := 0, slots := 0, locals := 69 } s m ([.ref v, .int (q_i p0), .int (q_i p1), .int (q_i p2)] : List Value).toArray below meth c H locs 0 0 (MQ below (q_Q g K L [] f (q_Pi (fun (z : Int) (f1 : Nat → va_E) => f = f1 ∧ (-1) ≤ z ∧ z ≤ 60))) ([.ref v, .int (q_i p0), .int (q_i p1), .int (q_i p2)] : List Value).toArray s 0 0 (fun q => q ∈ L)) (F0 m 44 ls []) := by
        intro buv3_4 H locs hB ls hl
        refine q_iinc (lv' := [(4, .int (q_i (v3_4 + 1))), (0, .ref v), (1, .int (q_i p0)), (2, .int (q_i p1)), (3, .int (q_i p2))]) cx dX10_meetingIn_44 hl (k := 4) rfl (by decide) rfl (fun ls hl => ?_)
        refine lv_goto (tgt := 3) cx.1 cx.2.1 dX10_meetingIn_47 (by decide) ?_
        exact ih3 (v3_4 + 1) (by omega) (by omega) (by omega) H locs hB ls (lv_sub hl [1, 2, 3, 4, 0] rfl)
      refine lv_iload cx.1 cx.2.1 dX10_meetingIn_3 (lv_at hl 4 rfl) ?_
      refine q_ald_n cx dX10_meetingIn_5 rfl (lv_at hl 0 rfl) ?_
      obtain ⟨x321, ex321⟩ : ∃ zz, q_is (q_z f v 6) zz := ⟨_, q_isr _⟩
      refine q_gX10_45_14 cx hB hv kv ex321 dX10_meetingIn_6 (fun lb322 ub322 => ?_)
      refine q_icgt (tgt := 50) cx ⟨by omega, by omega⟩ ⟨by omega, by omega⟩ dX10_meetingIn_9 (by decide) (fun c323 => ?_) (fun c323 => ?_)
      · refine q_iconst cx dX10_meetingIn_50 ?_
        refine q_iret cx hr hlk hB dX10_meetingIn_51 ⟨by decide, by decide⟩ ?_
        exact ⟨rfl, (by decide), (by decide)⟩
      · refine q_ald_n cx dX10_meetingIn_12 rfl (lv_at hl 0 rfl) ?_
        refine q_ild_n cx dX10_meetingIn_13 rfl (lv_at hl 1 rfl) ?_
        refine q_ild_n cx dX10_meetingIn_14 rfl (lv_at hl 2 rfl) ?_
        refine lv_iload cx.1 cx.2.1 dX10_meetingIn_15 (lv_at hl 4 rfl) ?_
        refine q_cVi (As := [.int (q_i p0), .int (q_i p1), .int (q_i v3_4)]) (rest := []) cx hB (fun _ h => h) hN hv kv (by decide) rfl (g_X10_wakesAfter_2 l g hN hB.2.1 v hv kv p0 (by omega) (by omega) p1 (by omega) (by omega) v3_4 (by omega) (by omega)) q_cX10_214 q_dX10_wakesAfter (by decide) rfl rfl hl.1 rfl (Nat.le_of_ble_eq_true rfl) dX10_meetingIn_17 (fun y325 H locs f324 ry325 h326 hF hB => ?_)
        obtain ⟨rfl, ly325, uy325⟩ := h326
        refine q_ifeq (tgt := 44) cx ⟨by omega, by omega⟩ dX10_meetingIn_20 (by decide) (fun c327 => ?_) (fun c327 => ?_)
        · exact J44 (by omega) H locs hB ls (lv_sub hl [0, 1, 2, 3, 4] rfl)
        · refine q_ald_n cx dX10_meetingIn_23 rfl (lv_at hl 0 rfl) ?_
          refine q_ild_n cx dX10_meetingIn_24 rfl (lv_at hl 3 rfl) ?_
          refine q_ald_n cx dX10_meetingIn_25 rfl (lv_at hl 0 rfl) ?_
          refine q_ild_n cx dX10_meetingIn_26 rfl (lv_at hl 3 rfl) ?_
          refine q_cVr (As := [.int (q_i p2)]) (rest := [.int (q_i p2), .ref v]) cx hB (fun _ h => h) hN hv kv (by decide) rfl (g_X10_nodeAt_2 l g hN hB.2.1 v hv kv p2 (by omega) (by omega)) q_cX10_66 q_dX10_nodeAt (by decide) rfl rfl hl.1 rfl (Nat.le_of_ble_eq_true rfl) dX10_meetingIn_27 (fun y329 H locs f328 h330 hF hB => ?_)
          obtain ⟨rfl, hy329, ky329⟩ := h330
          obtain ⟨x331, ex331⟩ : ∃ zz, q_is (q_z f y329 3) zz := ⟨_, q_isr _⟩
          refine q_gX10_98_18 cx hB hy329 ky329 ex331 dX10_meetingIn_30 (fun lb332 ub332 => ?_)
          refine lv_iload cx.1 cx.2.1 dX10_meetingIn_33 (lv_at hl 4 rfl) ?_
          refine q_cVi (As := [.int (q_i p2), .int (q_i x331), .int (q_i v3_4)]) (rest := []) cx hB (fun _ h => h) hN hv kv (by decide) rfl (g_X10_wakesAfter_2 l g hN hB.2.1 v hv kv p2 (by omega) (by omega) x331 (by omega) (by omega) v3_4 (by omega) (by omega)) q_cX10_214 q_dX10_wakesAfter (by decide) rfl rfl hl.1 rfl (Nat.le_of_ble_eq_true rfl) dX10_meetingIn_35 (fun y334 H locs f333 ry334 h335 hF hB => ?_)
          obtain ⟨rfl, ly334, uy334⟩ := h335
          refine q_ifeq (tgt := 44) cx ⟨by omega, by omega⟩ dX10_meetingIn_38 (by decide) (fun c336 => ?_) (fun c336 => ?_)
          · exact J44 (by omega) H locs hB ls (lv_sub hl [0, 1, 2, 3, 4] rfl)
          · refine lv_iload cx.1 cx.2.1 dX10_meetingIn_41 (lv_at hl 4 rfl) ?_
            refine q_iret cx hr hlk hB dX10_meetingIn_43 ⟨by omega, by omega⟩ ?_
            exact ⟨rfl, (by omega), (by omega)⟩
  obtain ⟨H, hH⟩ : ∃ H : Heap, H = s.heap := ⟨_, rfl⟩
  obtain ⟨locs, hlocs⟩ : ∃ z : List Loc, z = [] := ⟨_, rfl⟩
  rw [← hH, ← hlocs] at hB
  rw [← hH, ← hlocs]
  refine q_iconst cx dX10_meetingIn_0 ?_
  refine lv_istore (lv' := [(4, .int (q_i 1)), (0, .ref v), (1, .int (q_i p0)), (2, .int (q_i p1)), (3, .int (q_i p2))]) cx.1 cx.2.1 dX10_meetingIn_1 hl (by decide) rfl (fun ls hl => ?_)
  exact J3 ((Int.toNat (2147483647 - 1)) + 1) 1 (by decide) (by decide) (Nat.lt_succ_self _) H locs hB ls (lv_sub hl [1, 2, 3, 4, 0] rfl)
set_option maxHeartbeats 4000000 in
set_option maxRecDepth 100000 in
theorem g_X10_meetingIn_3 (l : Launch) (g : q_G) {K : Nat → Nat} {L : List Nat} (hN : L.Nodup) {f : Nat → va_E} (hT : q_Ty g K L f) (v : Nat) (hv : v ∈ L) (kv : K v = 15) (p0 : Int) (lp0 : (-2147483648) ≤ p0) (up0 : p0 ≤ 2147483647) (p1 : Int) (lp1 : (-2147483648) ≤ p1) (up1 : p1 ≤ 2147483647) (p2 : Int) (lp2 : (-2147483648) ≤ p2) (up2 : p2 ≤ 2147483647) : q_Ct l g K L yX10_meetingIn cX10_meetingIn 5 (some .int) 3 69 [.ref v, .int (q_i p0), .int (q_i p1), .int (q_i p2)] f [] (q_Pi (fun (z : Int) (f1 : Nat → va_E) => f = f1 ∧ (-1) ≤ z ∧ z ≤ 60)) := by
  refine q_ofb (by decide +kernel) hN hT (Nat.le_of_ble_eq_true rfl) ?_
  intro p e s m below meth c ls cx hr hlk hB hl
  have hl : lv_has ls 5 [(0, .ref v), (1, .int (q_i p0)), (2, .int (q_i p1)), (3, .int (q_i p2))] := hl
  have J3 : ∀ (n : Nat) (v3_4 : Int) (lv3_4 : 1 ≤ v3_4) (uv3_4 : v3_4 ≤ 61) (hmu : (Int.toNat (2147483647 - v3_4)) < n) (H : Heap) (locs : List Loc) (hB : q_B g K L (fun q => q ∈ L) [] f f s H locs) (ls : Array Slot) (hl : lv_has ls 5 [(0, .ref v), (1, .int (q_i p0)), (2, .int (q_i p1)), (3, .int (q_i p2)), (4, .int (q_i v3_4))]), W p l e { frames := 3, cells := 0, slots := 0, locals := 69 } s m ([.ref v, .int (q_i p0), .int (q_i p1), .int (q_i p2)] : List Value).toArray below meth c H locs 0 0 (MQ below (q_Q g K L [] f (q_Pi (fun (z : Int) (f1 : Nat → va_E) => f = f1 ∧ (-1) ≤ z ∧ z ≤ 60))) ([.ref v, .int (q_i p0), .int (q_i p1), .int (q_i p2)] : List Value).toArray s 0 0 (fun q => q ∈ L)) (F0 m 3 ls []) := by
    intro n
    induction n with
    | zero =>
      intro v3_4 lv3_4 uv3_4 hmu
      exact absurd hmu (Nat.not_lt_zero _)
    | succ n ih3 =>
      intro v3_4 lv3_4 uv3_4 hmu H locs hB ls hl
      have J44 : ∀ (buv3_4 : v3_4 ≤ 60) (H : Heap) (locs : List Loc) (hB : q_B g K L (fun q => q ∈ L) [] f f s H locs) (ls : Array Slot) (hl : lv_has ls 5 [(0, .ref v), (1, .int (q_i p0)), (2, .int (q_i p1)), (3, .int (q_i p2)), (4, .int (q_i v3_4))]), W p l e { frames := 3, cells := 0, slots := 0, locals := 69 } s m ([.ref v, .int (q_i p0), .int (q_i p1), .int (q_i p2)] : List Value).toArray below meth c H locs 0 0 (MQ below (q_Q g K L [] f (q_Pi (fun (z : Int) (f1 : Nat → va_E) => f = f1 ∧ (-1) ≤ z ∧ z ≤ 60))) ([.ref v, .int (q_i p0), .int (q_i p1), .int (q_i p2)] : List Value).toArray s 0 0 (fun q => q ∈ L)) (F0 m 44 ls []) := by
        intro buv3_4 H locs hB ls hl
        refine q_iinc (lv' := [(4, .int (q_i (v3_4 + 1))), (0, .ref v), (1, .int (q_i p0)), (2, .int (q_i p1)), (3, .int (q_i p2))]) cx dX10_meetingIn_44 hl (k := 4) rfl (by decide) rfl (fun ls hl => ?_)
        refine lv_goto (tgt := 3) cx.1 cx.2.1 dX10_meetingIn_47 (by decide) ?_
        exact ih3 (v3_4 + 1) (by omega) (by omega) (by omega) H locs hB ls (lv_sub hl [1, 2, 3, 4, 0] rfl)
      refine lv_iload cx.1 cx.2.1 dX10_meetingIn_3 (lv_at hl 4 rfl) ?_
      refine q_ald_n cx dX10_meetingIn_5 rfl (lv_at hl 0 rfl) ?_
      obtain ⟨x321, ex321⟩ : ∃ zz, q_is (q_z f v 6) zz := ⟨_, q_isr _⟩
      refine q_gX10_45_15 cx hB hv kv ex321 dX10_meetingIn_6 (fun lb322 ub322 => ?_)
      refine q_icgt (tgt := 50) cx ⟨by omega, by omega⟩ ⟨by omega, by omega⟩ dX10_meetingIn_9 (by decide) (fun c323 => ?_) (fun c323 => ?_)
      · refine q_iconst cx dX10_meetingIn_50 ?_
        refine q_iret cx hr hlk hB dX10_meetingIn_51 ⟨by decide, by decide⟩ ?_
        exact ⟨rfl, (by decide), (by decide)⟩
      · refine q_ald_n cx dX10_meetingIn_12 rfl (lv_at hl 0 rfl) ?_
        refine q_ild_n cx dX10_meetingIn_13 rfl (lv_at hl 1 rfl) ?_
        refine q_ild_n cx dX10_meetingIn_14 rfl (lv_at hl 2 rfl) ?_
        refine lv_iload cx.1 cx.2.1 dX10_meetingIn_15 (lv_at hl 4 rfl) ?_
        refine q_cVi (As := [.int (q_i p0), .int (q_i p1), .int (q_i v3_4)]) (rest := []) cx hB (fun _ h => h) hN hv kv (by decide) rfl (g_X10_wakesAfter_3 l g hN hB.2.1 v hv kv p0 (by omega) (by omega) p1 (by omega) (by omega) v3_4 (by omega) (by omega)) q_cX10_214 q_dX10_wakesAfter (by decide) rfl rfl hl.1 rfl (Nat.le_of_ble_eq_true rfl) dX10_meetingIn_17 (fun y325 H locs f324 ry325 h326 hF hB => ?_)
        obtain ⟨rfl, ly325, uy325⟩ := h326
        refine q_ifeq (tgt := 44) cx ⟨by omega, by omega⟩ dX10_meetingIn_20 (by decide) (fun c327 => ?_) (fun c327 => ?_)
        · exact J44 (by omega) H locs hB ls (lv_sub hl [0, 1, 2, 3, 4] rfl)
        · refine q_ald_n cx dX10_meetingIn_23 rfl (lv_at hl 0 rfl) ?_
          refine q_ild_n cx dX10_meetingIn_24 rfl (lv_at hl 3 rfl) ?_
          refine q_ald_n cx dX10_meetingIn_25 rfl (lv_at hl 0 rfl) ?_
          refine q_ild_n cx dX10_meetingIn_26 rfl (lv_at hl 3 rfl) ?_
          refine q_cVr (As := [.int (q_i p2)]) (rest := [.int (q_i p2), .ref v]) cx hB (fun _ h => h) hN hv kv (by decide) rfl (g_X10_nodeAt_3 l g hN hB.2.1 v hv kv p2 (by omega) (by omega)) q_cX10_66 q_dX10_nodeAt (by decide) rfl rfl hl.1 rfl (Nat.le_of_ble_eq_true rfl) dX10_meetingIn_27 (fun y329 H locs f328 h330 hF hB => ?_)
          obtain ⟨rfl, hy329, ky329⟩ := h330
          obtain ⟨x331, ex331⟩ : ∃ zz, q_is (q_z f y329 3) zz := ⟨_, q_isr _⟩
          refine q_gX10_98_19 cx hB hy329 ky329 ex331 dX10_meetingIn_30 (fun lb332 ub332 => ?_)
          refine lv_iload cx.1 cx.2.1 dX10_meetingIn_33 (lv_at hl 4 rfl) ?_
          refine q_cVi (As := [.int (q_i p2), .int (q_i x331), .int (q_i v3_4)]) (rest := []) cx hB (fun _ h => h) hN hv kv (by decide) rfl (g_X10_wakesAfter_3 l g hN hB.2.1 v hv kv p2 (by omega) (by omega) x331 (by omega) (by omega) v3_4 (by omega) (by omega)) q_cX10_214 q_dX10_wakesAfter (by decide) rfl rfl hl.1 rfl (Nat.le_of_ble_eq_true rfl) dX10_meetingIn_35 (fun y334 H locs f333 ry334 h335 hF hB => ?_)
          obtain ⟨rfl, ly334, uy334⟩ := h335
          refine q_ifeq (tgt := 44) cx ⟨by omega, by omega⟩ dX10_meetingIn_38 (by decide) (fun c336 => ?_) (fun c336 => ?_)
          · exact J44 (by omega) H locs hB ls (lv_sub hl [0, 1, 2, 3, 4] rfl)
          · refine lv_iload cx.1 cx.2.1 dX10_meetingIn_41 (lv_at hl 4 rfl) ?_
            refine q_iret cx hr hlk hB dX10_meetingIn_43 ⟨by omega, by omega⟩ ?_
            exact ⟨rfl, (by omega), (by omega)⟩
  obtain ⟨H, hH⟩ : ∃ H : Heap, H = s.heap := ⟨_, rfl⟩
  obtain ⟨locs, hlocs⟩ : ∃ z : List Loc, z = [] := ⟨_, rfl⟩
  rw [← hH, ← hlocs] at hB
  rw [← hH, ← hlocs]
  refine q_iconst cx dX10_meetingIn_0 ?_
  refine lv_istore (lv' := [(4, .int (q_i 1)), (0, .ref v), (1, .int (q_i p0)), (2, .int (q_i p1)), (3, .int (q_i p2))]) cx.1 cx.2.1 dX10_meetingIn_1 hl (by decide) rfl (fun ls hl => ?_)
  exact J3 ((Int.toNat (2147483647 - 1)) + 1) 1 (by decide) (by decide) (Nat.lt_succ_self _) H locs hB ls (lv_sub hl [1, 2, 3, 4, 0] rfl)
set_option maxHeartbeats 4000000 in
set_option maxRecDepth 100000 in
theorem g_X10_meetingIn_4 (l : Launch) (g : q_G) {K : Nat → Nat} {L : List Nat} (hN : L.Nodup) {f : Nat → va_E} (hT : q_Ty g K L f) (v : Nat) (hv : v ∈ L) (kv : K v = 16) (p0 : Int) (lp0 : (-2147483648) ≤ p0) (up0 : p0 ≤ 2147483647) (p1 : Int) (lp1 : (-2147483648) ≤ p1) (up1 : p1 ≤ 2147483647) (p2 : Int) (lp2 : (-2147483648) ≤ p2) (up2 : p2 ≤ 2147483647) : q_Ct l g K L yX10_meetingIn cX10_meetingIn 5 (some .int) 3 69 [.ref v, .int (q_i p0), .int (q_i p1), .int (q_i p2)] f [] (q_Pi (fun (z : Int) (f1 : Nat → va_E) => f = f1 ∧ (-1) ≤ z ∧ z ≤ 60)) := by
  refine q_ofb (by decide +kernel) hN hT (Nat.le_of_ble_eq_true rfl) ?_
  intro p e s m below meth c ls cx hr hlk hB hl
  have hl : lv_has ls 5 [(0, .ref v), (1, .int (q_i p0)), (2, .int (q_i p1)), (3, .int (q_i p2))] := hl
  have J3 : ∀ (n : Nat) (v3_4 : Int) (lv3_4 : 1 ≤ v3_4) (uv3_4 : v3_4 ≤ 61) (hmu : (Int.toNat (2147483647 - v3_4)) < n) (H : Heap) (locs : List Loc) (hB : q_B g K L (fun q => q ∈ L) [] f f s H locs) (ls : Array Slot) (hl : lv_has ls 5 [(0, .ref v), (1, .int (q_i p0)), (2, .int (q_i p1)), (3, .int (q_i p2)), (4, .int (q_i v3_4))]), W p l e { frames := 3, cells := 0, slots := 0, locals := 69 } s m ([.ref v, .int (q_i p0), .int (q_i p1), .int (q_i p2)] : List Value).toArray below meth c H locs 0 0 (MQ below (q_Q g K L [] f (q_Pi (fun (z : Int) (f1 : Nat → va_E) => f = f1 ∧ (-1) ≤ z ∧ z ≤ 60))) ([.ref v, .int (q_i p0), .int (q_i p1), .int (q_i p2)] : List Value).toArray s 0 0 (fun q => q ∈ L)) (F0 m 3 ls []) := by
    intro n
    induction n with
    | zero =>
      intro v3_4 lv3_4 uv3_4 hmu
      exact absurd hmu (Nat.not_lt_zero _)
    | succ n ih3 =>
      intro v3_4 lv3_4 uv3_4 hmu H locs hB ls hl
      have J44 : ∀ (buv3_4 : v3_4 ≤ 60) (H : Heap) (locs : List Loc) (hB : q_B g K L (fun q => q ∈ L) [] f f s H locs) (ls : Array Slot) (hl : lv_has ls 5 [(0, .ref v), (1, .int (q_i p0)), (2, .int (q_i p1)), (3, .int (q_i p2)), (4, .int (q_i v3_4))]), W p l e { frames := 3, cells := 0, slots := 0, locals := 69 } s m ([.ref v, .int (q_i p0), .int (q_i p1), .int (q_i p2)] : List Value).toArray below meth c H locs 0 0 (MQ below (q_Q g K L [] f (q_Pi (fun (z : Int) (f1 : Nat → va_E) => f = f1 ∧ (-1) ≤ z ∧ z ≤ 60))) ([.ref v, .int (q_i p0), .int (q_i p1), .int (q_i p2)] : List Value).toArray s 0 0 (fun q => q ∈ L)) (F0 m 44 ls []) := by
        intro buv3_4 H locs hB ls hl
        refine q_iinc (lv' := [(4, .int (q_i (v3_4 + 1))), (0, .ref v), (1, .int (q_i p0)), (2, .int (q_i p1)), (3, .int (q_i p2))]) cx dX10_meetingIn_44 hl (k := 4) rfl (by decide) rfl (fun ls hl => ?_)
        refine lv_goto (tgt := 3) cx.1 cx.2.1 dX10_meetingIn_47 (by decide) ?_
        exact ih3 (v3_4 + 1) (by omega) (by omega) (by omega) H locs hB ls (lv_sub hl [1, 2, 3, 4, 0] rfl)
      refine lv_iload cx.1 cx.2.1 dX10_meetingIn_3 (lv_at hl 4 rfl) ?_
      refine q_ald_n cx dX10_meetingIn_5 rfl (lv_at hl 0 rfl) ?_
      obtain ⟨x321, ex321⟩ : ∃ zz, q_is (q_z f v 6) zz := ⟨_, q_isr _⟩
      refine q_gX10_45_16 cx hB hv kv ex321 dX10_meetingIn_6 (fun lb322 ub322 => ?_)
      refine q_icgt (tgt := 50) cx ⟨by omega, by omega⟩ ⟨by omega, by omega⟩ dX10_meetingIn_9 (by decide) (fun c323 => ?_) (fun c323 => ?_)
      · refine q_iconst cx dX10_meetingIn_50 ?_
        refine q_iret cx hr hlk hB dX10_meetingIn_51 ⟨by decide, by decide⟩ ?_
        exact ⟨rfl, (by decide), (by decide)⟩
      · refine q_ald_n cx dX10_meetingIn_12 rfl (lv_at hl 0 rfl) ?_
        refine q_ild_n cx dX10_meetingIn_13 rfl (lv_at hl 1 rfl) ?_
        refine q_ild_n cx dX10_meetingIn_14 rfl (lv_at hl 2 rfl) ?_
        refine lv_iload cx.1 cx.2.1 dX10_meetingIn_15 (lv_at hl 4 rfl) ?_
        refine q_cVi (As := [.int (q_i p0), .int (q_i p1), .int (q_i v3_4)]) (rest := []) cx hB (fun _ h => h) hN hv kv (by decide) rfl (g_X10_wakesAfter_4 l g hN hB.2.1 v hv kv p0 (by omega) (by omega) p1 (by omega) (by omega) v3_4 (by omega) (by omega)) q_cX10_214 q_dX10_wakesAfter (by decide) rfl rfl hl.1 rfl (Nat.le_of_ble_eq_true rfl) dX10_meetingIn_17 (fun y325 H locs f324 ry325 h326 hF hB => ?_)
        obtain ⟨rfl, ly325, uy325⟩ := h326
        refine q_ifeq (tgt := 44) cx ⟨by omega, by omega⟩ dX10_meetingIn_20 (by decide) (fun c327 => ?_) (fun c327 => ?_)
        · exact J44 (by omega) H locs hB ls (lv_sub hl [0, 1, 2, 3, 4] rfl)
        · refine q_ald_n cx dX10_meetingIn_23 rfl (lv_at hl 0 rfl) ?_
          refine q_ild_n cx dX10_meetingIn_24 rfl (lv_at hl 3 rfl) ?_
          refine q_ald_n cx dX10_meetingIn_25 rfl (lv_at hl 0 rfl) ?_
          refine q_ild_n cx dX10_meetingIn_26 rfl (lv_at hl 3 rfl) ?_
          refine q_cVr (As := [.int (q_i p2)]) (rest := [.int (q_i p2), .ref v]) cx hB (fun _ h => h) hN hv kv (by decide) rfl (g_X10_nodeAt_4 l g hN hB.2.1 v hv kv p2 (by omega) (by omega)) q_cX10_66 q_dX10_nodeAt (by decide) rfl rfl hl.1 rfl (Nat.le_of_ble_eq_true rfl) dX10_meetingIn_27 (fun y329 H locs f328 h330 hF hB => ?_)
          obtain ⟨rfl, hy329, ky329⟩ := h330
          obtain ⟨x331, ex331⟩ : ∃ zz, q_is (q_z f y329 3) zz := ⟨_, q_isr _⟩
          refine q_gX10_98_20 cx hB hy329 ky329 ex331 dX10_meetingIn_30 (fun lb332 ub332 => ?_)
          refine lv_iload cx.1 cx.2.1 dX10_meetingIn_33 (lv_at hl 4 rfl) ?_
          refine q_cVi (As := [.int (q_i p2), .int (q_i x331), .int (q_i v3_4)]) (rest := []) cx hB (fun _ h => h) hN hv kv (by decide) rfl (g_X10_wakesAfter_4 l g hN hB.2.1 v hv kv p2 (by omega) (by omega) x331 (by omega) (by omega) v3_4 (by omega) (by omega)) q_cX10_214 q_dX10_wakesAfter (by decide) rfl rfl hl.1 rfl (Nat.le_of_ble_eq_true rfl) dX10_meetingIn_35 (fun y334 H locs f333 ry334 h335 hF hB => ?_)
          obtain ⟨rfl, ly334, uy334⟩ := h335
          refine q_ifeq (tgt := 44) cx ⟨by omega, by omega⟩ dX10_meetingIn_38 (by decide) (fun c336 => ?_) (fun c336 => ?_)
          · exact J44 (by omega) H locs hB ls (lv_sub hl [0, 1, 2, 3, 4] rfl)
          · refine lv_iload cx.1 cx.2.1 dX10_meetingIn_41 (lv_at hl 4 rfl) ?_
            refine q_iret cx hr hlk hB dX10_meetingIn_43 ⟨by omega, by omega⟩ ?_
            exact ⟨rfl, (by omega), (by omega)⟩
  obtain ⟨H, hH⟩ : ∃ H : Heap, H = s.heap := ⟨_, rfl⟩
  obtain ⟨locs, hlocs⟩ : ∃ z : List Loc, z = [] := ⟨_, rfl⟩
  rw [← hH, ← hlocs] at hB
  rw [← hH, ← hlocs]
  refine q_iconst cx dX10_meetingIn_0 ?_
  refine lv_istore (lv' := [(4, .int (q_i 1)), (0, .ref v), (1, .int (q_i p0)), (2, .int (q_i p1)), (3, .int (q_i p2))]) cx.1 cx.2.1 dX10_meetingIn_1 hl (by decide) rfl (fun ls hl => ?_)
  exact J3 ((Int.toNat (2147483647 - 1)) + 1) 1 (by decide) (by decide) (Nat.lt_succ_self _) H locs hB ls (lv_sub hl [1, 2, 3, 4, 0] rfl)
set_option maxHeartbeats 4000000 in
set_option maxRecDepth 100000 in
theorem g_X10_lateness (l : Launch) (g : q_G) {K : Nat → Nat} {L : List Nat} (hN : L.Nodup) {f : Nat → va_E} (hT : q_Ty g K L f) (v : Nat) (hv : v ∈ L) (kv : K v = 10) (p0 : Int) (lp0 : (-2147483648) ≤ p0) (up0 : p0 ≤ 2147483647) (p1 : Int) (lp1 : (-2147483648) ≤ p1) (up1 : p1 ≤ 2147483647) (p2 : Int) (lp2 : (-2147483648) ≤ p2) (up2 : p2 ≤ 2147483647) : q_Ct l g K L yX10_lateness cX10_lateness 5 (some .int) 4 93 [.ref v, .int (q_i p0), .int (q_i p1), .int (q_i p2)] f [] (q_Pi (fun (z : Int) (f1 : Nat → va_E) => f = f1 ∧ 0 ≤ z ∧ z ≤ 61)) := by
  refine q_ofb (by decide +kernel) hN hT (Nat.le_of_ble_eq_true rfl) ?_
  intro p e s m below meth c ls cx hr hlk hB hl
  have hl : lv_has ls 5 [(0, .ref v), (1, .int (q_i p0)), (2, .int (q_i p1)), (3, .int (q_i p2))] := hl
  have J26 : ∀ (t26_0 : Int) (lt26_0 : 0 ≤ t26_0) (ut26_0 : t26_0 ≤ 61) (H : Heap) (locs : List Loc) (hB : q_B g K L (fun q => q ∈ L) [] f f s H locs) (ls : Array Slot) (hl : lv_has ls 5 []), W p l e { frames := 4, cells := 0, slots := 0, locals := 93 } s m ([.ref v, .int (q_i p0), .int (q_i p1), .int (q_i p2)] : List Value).toArray below meth c H locs 0 0 (MQ below (q_Q g K L [] f (q_Pi (fun (z : Int) (f1 : Nat → va_E) => f = f1 ∧ 0 ≤ z ∧ z ≤ 61))) ([.ref v, .int (q_i p0), .int (q_i p1), .int (q_i p2)] : List Value).toArray s 0 0 (fun q => q ∈ L)) (F0 m 26 ls [.int (q_i t26_0)]) := by
    intro t26_0 lt26_0 ut26_0 H locs hB ls hl
    refine q_iret cx hr hlk hB dX10_lateness_26 ⟨by omega, by omega⟩ ?_
    exact ⟨rfl, (by omega), (by omega)⟩
  obtain ⟨H, hH⟩ : ∃ H : Heap, H = s.heap := ⟨_, rfl⟩
  obtain ⟨locs, hlocs⟩ : ∃ z : List Loc, z = [] := ⟨_, rfl⟩
  rw [← hH, ← hlocs] at hB
  rw [← hH, ← hlocs]
  refine q_ald_n cx dX10_lateness_0 rfl (lv_at hl 0 rfl) ?_
  refine q_ild_n cx dX10_lateness_1 rfl (lv_at hl 1 rfl) ?_
  refine q_ild_n cx dX10_lateness_2 rfl (lv_at hl 2 rfl) ?_
  refine q_ild_n cx dX10_lateness_3 rfl (lv_at hl 3 rfl) ?_
  refine q_cVi (As := [.int (q_i p0), .int (q_i p1), .int (q_i p2)]) (rest := []) cx hB (fun _ h => h) hN hv kv (by decide) rfl (g_X10_meetingIn l g hN hB.2.1 v hv kv p0 (by omega) (by omega) p1 (by omega) (by omega) p2 (by omega) (by omega)) q_cX10_218 q_dX10_meetingIn (by decide) rfl rfl hl.1 rfl (Nat.le_of_ble_eq_true rfl) dX10_lateness_4 (fun y8 H locs f7 ry8 h9 hF hB => ?_)
  obtain ⟨rfl, ly8, uy8⟩ := h9
  refine lv_istore (lv' := [(4, .int (q_i y8)), (0, .ref v), (1, .int (q_i p0)), (2, .int (q_i p1)), (3, .int (q_i p2))]) cx.1 cx.2.1 dX10_lateness_7 hl (by decide) rfl (fun ls hl => ?_)
  refine lv_iload cx.1 cx.2.1 dX10_lateness_9 (lv_at hl 0 rfl) ?_
  refine q_iconst cx dX10_lateness_11 ?_
  refine q_icne (tgt := 24) cx ⟨by omega, by omega⟩ ⟨by decide, by decide⟩ dX10_lateness_12 (by decide) (fun c10 => ?_) (fun c10 => ?_)
  · refine lv_iload cx.1 cx.2.1 dX10_lateness_24 (lv_at hl 0 rfl) ?_
    exact J26 y8 (by omega) (by omega) H locs hB ls (lv_sub hl [] rfl)
  · refine q_ald_n cx dX10_lateness_15 rfl (lv_at hl 1 rfl) ?_
    obtain ⟨x11, ex11⟩ : ∃ zz, q_is (q_z f v 6) zz := ⟨_, q_isr _⟩
    refine q_gX10_45 cx hB hv kv ex11 dX10_lateness_16 (fun lb12 ub12 => ?_)
    refine q_iconst cx dX10_lateness_19 ?_
    refine q_iadd cx dX10_lateness_20 ?_
    refine lv_goto (tgt := 26) cx.1 cx.2.1 dX10_lateness_21 (by decide) ?_
    exact J26 (x11 + 1) (by omega) (by omega) H locs hB ls (lv_sub hl [] rfl)
set_option maxHeartbeats 4000000 in
set_option maxRecDepth 100000 in
theorem g_X10_lateness_1 (l : Launch) (g : q_G) {K : Nat → Nat} {L : List Nat} (hN : L.Nodup) {f : Nat → va_E} (hT : q_Ty g K L f) (v : Nat) (hv : v ∈ L) (kv : K v = 13) (p0 : Int) (lp0 : (-2147483648) ≤ p0) (up0 : p0 ≤ 2147483647) (p1 : Int) (lp1 : (-2147483648) ≤ p1) (up1 : p1 ≤ 2147483647) (p2 : Int) (lp2 : (-2147483648) ≤ p2) (up2 : p2 ≤ 2147483647) : q_Ct l g K L yX10_lateness cX10_lateness 5 (some .int) 4 93 [.ref v, .int (q_i p0), .int (q_i p1), .int (q_i p2)] f [] (q_Pi (fun (z : Int) (f1 : Nat → va_E) => f = f1 ∧ 0 ≤ z ∧ z ≤ 61)) := by
  refine q_ofb (by decide +kernel) hN hT (Nat.le_of_ble_eq_true rfl) ?_
  intro p e s m below meth c ls cx hr hlk hB hl
  have hl : lv_has ls 5 [(0, .ref v), (1, .int (q_i p0)), (2, .int (q_i p1)), (3, .int (q_i p2))] := hl
  have J26 : ∀ (t26_0 : Int) (lt26_0 : 0 ≤ t26_0) (ut26_0 : t26_0 ≤ 61) (H : Heap) (locs : List Loc) (hB : q_B g K L (fun q => q ∈ L) [] f f s H locs) (ls : Array Slot) (hl : lv_has ls 5 []), W p l e { frames := 4, cells := 0, slots := 0, locals := 93 } s m ([.ref v, .int (q_i p0), .int (q_i p1), .int (q_i p2)] : List Value).toArray below meth c H locs 0 0 (MQ below (q_Q g K L [] f (q_Pi (fun (z : Int) (f1 : Nat → va_E) => f = f1 ∧ 0 ≤ z ∧ z ≤ 61))) ([.ref v, .int (q_i p0), .int (q_i p1), .int (q_i p2)] : List Value).toArray s 0 0 (fun q => q ∈ L)) (F0 m 26 ls [.int (q_i t26_0)]) := by
    intro t26_0 lt26_0 ut26_0 H locs hB ls hl
    refine q_iret cx hr hlk hB dX10_lateness_26 ⟨by omega, by omega⟩ ?_
    exact ⟨rfl, (by omega), (by omega)⟩
  obtain ⟨H, hH⟩ : ∃ H : Heap, H = s.heap := ⟨_, rfl⟩
  obtain ⟨locs, hlocs⟩ : ∃ z : List Loc, z = [] := ⟨_, rfl⟩
  rw [← hH, ← hlocs] at hB
  rw [← hH, ← hlocs]
  refine q_ald_n cx dX10_lateness_0 rfl (lv_at hl 0 rfl) ?_
  refine q_ild_n cx dX10_lateness_1 rfl (lv_at hl 1 rfl) ?_
  refine q_ild_n cx dX10_lateness_2 rfl (lv_at hl 2 rfl) ?_
  refine q_ild_n cx dX10_lateness_3 rfl (lv_at hl 3 rfl) ?_
  refine q_cVi (As := [.int (q_i p0), .int (q_i p1), .int (q_i p2)]) (rest := []) cx hB (fun _ h => h) hN hv kv (by decide) rfl (g_X10_meetingIn_1 l g hN hB.2.1 v hv kv p0 (by omega) (by omega) p1 (by omega) (by omega) p2 (by omega) (by omega)) q_cX10_218 q_dX10_meetingIn (by decide) rfl rfl hl.1 rfl (Nat.le_of_ble_eq_true rfl) dX10_lateness_4 (fun y8 H locs f7 ry8 h9 hF hB => ?_)
  obtain ⟨rfl, ly8, uy8⟩ := h9
  refine lv_istore (lv' := [(4, .int (q_i y8)), (0, .ref v), (1, .int (q_i p0)), (2, .int (q_i p1)), (3, .int (q_i p2))]) cx.1 cx.2.1 dX10_lateness_7 hl (by decide) rfl (fun ls hl => ?_)
  refine lv_iload cx.1 cx.2.1 dX10_lateness_9 (lv_at hl 0 rfl) ?_
  refine q_iconst cx dX10_lateness_11 ?_
  refine q_icne (tgt := 24) cx ⟨by omega, by omega⟩ ⟨by decide, by decide⟩ dX10_lateness_12 (by decide) (fun c10 => ?_) (fun c10 => ?_)
  · refine lv_iload cx.1 cx.2.1 dX10_lateness_24 (lv_at hl 0 rfl) ?_
    exact J26 y8 (by omega) (by omega) H locs hB ls (lv_sub hl [] rfl)
  · refine q_ald_n cx dX10_lateness_15 rfl (lv_at hl 1 rfl) ?_
    obtain ⟨x11, ex11⟩ : ∃ zz, q_is (q_z f v 6) zz := ⟨_, q_isr _⟩
    refine q_gX10_45_13 cx hB hv kv ex11 dX10_lateness_16 (fun lb12 ub12 => ?_)
    refine q_iconst cx dX10_lateness_19 ?_
    refine q_iadd cx dX10_lateness_20 ?_
    refine lv_goto (tgt := 26) cx.1 cx.2.1 dX10_lateness_21 (by decide) ?_
    exact J26 (x11 + 1) (by omega) (by omega) H locs hB ls (lv_sub hl [] rfl)
set_option maxHeartbeats 4000000 in
set_option maxRecDepth 100000 in
theorem g_X10_lateness_2 (l : Launch) (g : q_G) {K : Nat → Nat} {L : List Nat} (hN : L.Nodup) {f : Nat → va_E} (hT : q_Ty g K L f) (v : Nat) (hv : v ∈ L) (kv : K v = 14) (p0 : Int) (lp0 : (-2147483648) ≤ p0) (up0 : p0 ≤ 2147483647) (p1 : Int) (lp1 : (-2147483648) ≤ p1) (up1 : p1 ≤ 2147483647) (p2 : Int) (lp2 : (-2147483648) ≤ p2) (up2 : p2 ≤ 2147483647) : q_Ct l g K L yX10_lateness cX10_lateness 5 (some .int) 4 93 [.ref v, .int (q_i p0), .int (q_i p1), .int (q_i p2)] f [] (q_Pi (fun (z : Int) (f1 : Nat → va_E) => f = f1 ∧ 0 ≤ z ∧ z ≤ 61)) := by
  refine q_ofb (by decide +kernel) hN hT (Nat.le_of_ble_eq_true rfl) ?_
  intro p e s m below meth c ls cx hr hlk hB hl
  have hl : lv_has ls 5 [(0, .ref v), (1, .int (q_i p0)), (2, .int (q_i p1)), (3, .int (q_i p2))] := hl
  have J26 : ∀ (t26_0 : Int) (lt26_0 : 0 ≤ t26_0) (ut26_0 : t26_0 ≤ 61) (H : Heap) (locs : List Loc) (hB : q_B g K L (fun q => q ∈ L) [] f f s H locs) (ls : Array Slot) (hl : lv_has ls 5 []), W p l e { frames := 4, cells := 0, slots := 0, locals := 93 } s m ([.ref v, .int (q_i p0), .int (q_i p1), .int (q_i p2)] : List Value).toArray below meth c H locs 0 0 (MQ below (q_Q g K L [] f (q_Pi (fun (z : Int) (f1 : Nat → va_E) => f = f1 ∧ 0 ≤ z ∧ z ≤ 61))) ([.ref v, .int (q_i p0), .int (q_i p1), .int (q_i p2)] : List Value).toArray s 0 0 (fun q => q ∈ L)) (F0 m 26 ls [.int (q_i t26_0)]) := by
    intro t26_0 lt26_0 ut26_0 H locs hB ls hl
    refine q_iret cx hr hlk hB dX10_lateness_26 ⟨by omega, by omega⟩ ?_
    exact ⟨rfl, (by omega), (by omega)⟩
  obtain ⟨H, hH⟩ : ∃ H : Heap, H = s.heap := ⟨_, rfl⟩
  obtain ⟨locs, hlocs⟩ : ∃ z : List Loc, z = [] := ⟨_, rfl⟩
  rw [← hH, ← hlocs] at hB
  rw [← hH, ← hlocs]
  refine q_ald_n cx dX10_lateness_0 rfl (lv_at hl 0 rfl) ?_
  refine q_ild_n cx dX10_lateness_1 rfl (lv_at hl 1 rfl) ?_
  refine q_ild_n cx dX10_lateness_2 rfl (lv_at hl 2 rfl) ?_
  refine q_ild_n cx dX10_lateness_3 rfl (lv_at hl 3 rfl) ?_
  refine q_cVi (As := [.int (q_i p0), .int (q_i p1), .int (q_i p2)]) (rest := []) cx hB (fun _ h => h) hN hv kv (by decide) rfl (g_X10_meetingIn_2 l g hN hB.2.1 v hv kv p0 (by omega) (by omega) p1 (by omega) (by omega) p2 (by omega) (by omega)) q_cX10_218 q_dX10_meetingIn (by decide) rfl rfl hl.1 rfl (Nat.le_of_ble_eq_true rfl) dX10_lateness_4 (fun y8 H locs f7 ry8 h9 hF hB => ?_)
  obtain ⟨rfl, ly8, uy8⟩ := h9
  refine lv_istore (lv' := [(4, .int (q_i y8)), (0, .ref v), (1, .int (q_i p0)), (2, .int (q_i p1)), (3, .int (q_i p2))]) cx.1 cx.2.1 dX10_lateness_7 hl (by decide) rfl (fun ls hl => ?_)
  refine lv_iload cx.1 cx.2.1 dX10_lateness_9 (lv_at hl 0 rfl) ?_
  refine q_iconst cx dX10_lateness_11 ?_
  refine q_icne (tgt := 24) cx ⟨by omega, by omega⟩ ⟨by decide, by decide⟩ dX10_lateness_12 (by decide) (fun c10 => ?_) (fun c10 => ?_)
  · refine lv_iload cx.1 cx.2.1 dX10_lateness_24 (lv_at hl 0 rfl) ?_
    exact J26 y8 (by omega) (by omega) H locs hB ls (lv_sub hl [] rfl)
  · refine q_ald_n cx dX10_lateness_15 rfl (lv_at hl 1 rfl) ?_
    obtain ⟨x11, ex11⟩ : ∃ zz, q_is (q_z f v 6) zz := ⟨_, q_isr _⟩
    refine q_gX10_45_14 cx hB hv kv ex11 dX10_lateness_16 (fun lb12 ub12 => ?_)
    refine q_iconst cx dX10_lateness_19 ?_
    refine q_iadd cx dX10_lateness_20 ?_
    refine lv_goto (tgt := 26) cx.1 cx.2.1 dX10_lateness_21 (by decide) ?_
    exact J26 (x11 + 1) (by omega) (by omega) H locs hB ls (lv_sub hl [] rfl)
set_option maxHeartbeats 4000000 in
set_option maxRecDepth 100000 in
theorem g_X10_lateness_3 (l : Launch) (g : q_G) {K : Nat → Nat} {L : List Nat} (hN : L.Nodup) {f : Nat → va_E} (hT : q_Ty g K L f) (v : Nat) (hv : v ∈ L) (kv : K v = 15) (p0 : Int) (lp0 : (-2147483648) ≤ p0) (up0 : p0 ≤ 2147483647) (p1 : Int) (lp1 : (-2147483648) ≤ p1) (up1 : p1 ≤ 2147483647) (p2 : Int) (lp2 : (-2147483648) ≤ p2) (up2 : p2 ≤ 2147483647) : q_Ct l g K L yX10_lateness cX10_lateness 5 (some .int) 4 93 [.ref v, .int (q_i p0), .int (q_i p1), .int (q_i p2)] f [] (q_Pi (fun (z : Int) (f1 : Nat → va_E) => f = f1 ∧ 0 ≤ z ∧ z ≤ 61)) := by
  refine q_ofb (by decide +kernel) hN hT (Nat.le_of_ble_eq_true rfl) ?_
  intro p e s m below meth c ls cx hr hlk hB hl
  have hl : lv_has ls 5 [(0, .ref v), (1, .int (q_i p0)), (2, .int (q_i p1)), (3, .int (q_i p2))] := hl
  have J26 : ∀ (t26_0 : Int) (lt26_0 : 0 ≤ t26_0) (ut26_0 : t26_0 ≤ 61) (H : Heap) (locs : List Loc) (hB : q_B g K L (fun q => q ∈ L) [] f f s H locs) (ls : Array Slot) (hl : lv_has ls 5 []), W p l e { frames := 4, cells := 0, slots := 0, locals := 93 } s m ([.ref v, .int (q_i p0), .int (q_i p1), .int (q_i p2)] : List Value).toArray below meth c H locs 0 0 (MQ below (q_Q g K L [] f (q_Pi (fun (z : Int) (f1 : Nat → va_E) => f = f1 ∧ 0 ≤ z ∧ z ≤ 61))) ([.ref v, .int (q_i p0), .int (q_i p1), .int (q_i p2)] : List Value).toArray s 0 0 (fun q => q ∈ L)) (F0 m 26 ls [.int (q_i t26_0)]) := by
    intro t26_0 lt26_0 ut26_0 H locs hB ls hl
    refine q_iret cx hr hlk hB dX10_lateness_26 ⟨by omega, by omega⟩ ?_
    exact ⟨rfl, (by omega), (by omega)⟩
  obtain ⟨H, hH⟩ : ∃ H : Heap, H = s.heap := ⟨_, rfl⟩
  obtain ⟨locs, hlocs⟩ : ∃ z : List Loc, z = [] := ⟨_, rfl⟩
  rw [← hH, ← hlocs] at hB
  rw [← hH, ← hlocs]
  refine q_ald_n cx dX10_lateness_0 rfl (lv_at hl 0 rfl) ?_
  refine q_ild_n cx dX10_lateness_1 rfl (lv_at hl 1 rfl) ?_
  refine q_ild_n cx dX10_lateness_2 rfl (lv_at hl 2 rfl) ?_
  refine q_ild_n cx dX10_lateness_3 rfl (lv_at hl 3 rfl) ?_
  refine q_cVi (As := [.int (q_i p0), .int (q_i p1), .int (q_i p2)]) (rest := []) cx hB (fun _ h => h) hN hv kv (by decide) rfl (g_X10_meetingIn_3 l g hN hB.2.1 v hv kv p0 (by omega) (by omega) p1 (by omega) (by omega) p2 (by omega) (by omega)) q_cX10_218 q_dX10_meetingIn (by decide) rfl rfl hl.1 rfl (Nat.le_of_ble_eq_true rfl) dX10_lateness_4 (fun y8 H locs f7 ry8 h9 hF hB => ?_)
  obtain ⟨rfl, ly8, uy8⟩ := h9
  refine lv_istore (lv' := [(4, .int (q_i y8)), (0, .ref v), (1, .int (q_i p0)), (2, .int (q_i p1)), (3, .int (q_i p2))]) cx.1 cx.2.1 dX10_lateness_7 hl (by decide) rfl (fun ls hl => ?_)
  refine lv_iload cx.1 cx.2.1 dX10_lateness_9 (lv_at hl 0 rfl) ?_
  refine q_iconst cx dX10_lateness_11 ?_
  refine q_icne (tgt := 24) cx ⟨by omega, by omega⟩ ⟨by decide, by decide⟩ dX10_lateness_12 (by decide) (fun c10 => ?_) (fun c10 => ?_)
  · refine lv_iload cx.1 cx.2.1 dX10_lateness_24 (lv_at hl 0 rfl) ?_
    exact J26 y8 (by omega) (by omega) H locs hB ls (lv_sub hl [] rfl)
  · refine q_ald_n cx dX10_lateness_15 rfl (lv_at hl 1 rfl) ?_
    obtain ⟨x11, ex11⟩ : ∃ zz, q_is (q_z f v 6) zz := ⟨_, q_isr _⟩
    refine q_gX10_45_15 cx hB hv kv ex11 dX10_lateness_16 (fun lb12 ub12 => ?_)
    refine q_iconst cx dX10_lateness_19 ?_
    refine q_iadd cx dX10_lateness_20 ?_
    refine lv_goto (tgt := 26) cx.1 cx.2.1 dX10_lateness_21 (by decide) ?_
    exact J26 (x11 + 1) (by omega) (by omega) H locs hB ls (lv_sub hl [] rfl)
set_option maxHeartbeats 4000000 in
set_option maxRecDepth 100000 in
theorem g_X10_lateness_4 (l : Launch) (g : q_G) {K : Nat → Nat} {L : List Nat} (hN : L.Nodup) {f : Nat → va_E} (hT : q_Ty g K L f) (v : Nat) (hv : v ∈ L) (kv : K v = 16) (p0 : Int) (lp0 : (-2147483648) ≤ p0) (up0 : p0 ≤ 2147483647) (p1 : Int) (lp1 : (-2147483648) ≤ p1) (up1 : p1 ≤ 2147483647) (p2 : Int) (lp2 : (-2147483648) ≤ p2) (up2 : p2 ≤ 2147483647) : q_Ct l g K L yX10_lateness cX10_lateness 5 (some .int) 4 93 [.ref v, .int (q_i p0), .int (q_i p1), .int (q_i p2)] f [] (q_Pi (fun (z : Int) (f1 : Nat → va_E) => f = f1 ∧ 0 ≤ z ∧ z ≤ 61)) := by
  refine q_ofb (by decide +kernel) hN hT (Nat.le_of_ble_eq_true rfl) ?_
  intro p e s m below meth c ls cx hr hlk hB hl
  have hl : lv_has ls 5 [(0, .ref v), (1, .int (q_i p0)), (2, .int (q_i p1)), (3, .int (q_i p2))] := hl
  have J26 : ∀ (t26_0 : Int) (lt26_0 : 0 ≤ t26_0) (ut26_0 : t26_0 ≤ 61) (H : Heap) (locs : List Loc) (hB : q_B g K L (fun q => q ∈ L) [] f f s H locs) (ls : Array Slot) (hl : lv_has ls 5 []), W p l e { frames := 4, cells := 0, slots := 0, locals := 93 } s m ([.ref v, .int (q_i p0), .int (q_i p1), .int (q_i p2)] : List Value).toArray below meth c H locs 0 0 (MQ below (q_Q g K L [] f (q_Pi (fun (z : Int) (f1 : Nat → va_E) => f = f1 ∧ 0 ≤ z ∧ z ≤ 61))) ([.ref v, .int (q_i p0), .int (q_i p1), .int (q_i p2)] : List Value).toArray s 0 0 (fun q => q ∈ L)) (F0 m 26 ls [.int (q_i t26_0)]) := by
    intro t26_0 lt26_0 ut26_0 H locs hB ls hl
    refine q_iret cx hr hlk hB dX10_lateness_26 ⟨by omega, by omega⟩ ?_
    exact ⟨rfl, (by omega), (by omega)⟩
  obtain ⟨H, hH⟩ : ∃ H : Heap, H = s.heap := ⟨_, rfl⟩
  obtain ⟨locs, hlocs⟩ : ∃ z : List Loc, z = [] := ⟨_, rfl⟩
  rw [← hH, ← hlocs] at hB
  rw [← hH, ← hlocs]
  refine q_ald_n cx dX10_lateness_0 rfl (lv_at hl 0 rfl) ?_
  refine q_ild_n cx dX10_lateness_1 rfl (lv_at hl 1 rfl) ?_
  refine q_ild_n cx dX10_lateness_2 rfl (lv_at hl 2 rfl) ?_
  refine q_ild_n cx dX10_lateness_3 rfl (lv_at hl 3 rfl) ?_
  refine q_cVi (As := [.int (q_i p0), .int (q_i p1), .int (q_i p2)]) (rest := []) cx hB (fun _ h => h) hN hv kv (by decide) rfl (g_X10_meetingIn_4 l g hN hB.2.1 v hv kv p0 (by omega) (by omega) p1 (by omega) (by omega) p2 (by omega) (by omega)) q_cX10_218 q_dX10_meetingIn (by decide) rfl rfl hl.1 rfl (Nat.le_of_ble_eq_true rfl) dX10_lateness_4 (fun y8 H locs f7 ry8 h9 hF hB => ?_)
  obtain ⟨rfl, ly8, uy8⟩ := h9
  refine lv_istore (lv' := [(4, .int (q_i y8)), (0, .ref v), (1, .int (q_i p0)), (2, .int (q_i p1)), (3, .int (q_i p2))]) cx.1 cx.2.1 dX10_lateness_7 hl (by decide) rfl (fun ls hl => ?_)
  refine lv_iload cx.1 cx.2.1 dX10_lateness_9 (lv_at hl 0 rfl) ?_
  refine q_iconst cx dX10_lateness_11 ?_
  refine q_icne (tgt := 24) cx ⟨by omega, by omega⟩ ⟨by decide, by decide⟩ dX10_lateness_12 (by decide) (fun c10 => ?_) (fun c10 => ?_)
  · refine lv_iload cx.1 cx.2.1 dX10_lateness_24 (lv_at hl 0 rfl) ?_
    exact J26 y8 (by omega) (by omega) H locs hB ls (lv_sub hl [] rfl)
  · refine q_ald_n cx dX10_lateness_15 rfl (lv_at hl 1 rfl) ?_
    obtain ⟨x11, ex11⟩ : ∃ zz, q_is (q_z f v 6) zz := ⟨_, q_isr _⟩
    refine q_gX10_45_16 cx hB hv kv ex11 dX10_lateness_16 (fun lb12 ub12 => ?_)
    refine q_iconst cx dX10_lateness_19 ?_
    refine q_iadd cx dX10_lateness_20 ?_
    refine lv_goto (tgt := 26) cx.1 cx.2.1 dX10_lateness_21 (by decide) ?_
    exact J26 (x11 + 1) (by omega) (by omega) H locs hB ls (lv_sub hl [] rfl)
set_option maxHeartbeats 4000000 in
set_option maxRecDepth 100000 in
theorem g_X10_latestMeetingLink (l : Launch) (g : q_G) {K : Nat → Nat} {L : List Nat} (hN : L.Nodup) {f : Nat → va_E} (hT : q_Ty g K L f) (v : Nat) (hv : v ∈ L) (kv : K v = 10) : q_Ct l g K L yX10_latestMeetingLink cX10_latestMeetingLink 6 (some .int) 5 117 [.ref v] f [] (q_Pi (fun (z : Int) (f1 : Nat → va_E) => f = f1 ∧ (-1) ≤ z ∧ z ≤ 15)) := by
  refine q_ofb (by decide +kernel) hN hT (Nat.le_of_ble_eq_true rfl) ?_
  intro p e s m below meth c ls cx hr hlk hB hl
  have hl : lv_has ls 6 [(0, .ref v)] := hl
  have J6 : ∀ (n : Nat) (v6_1 : Int) (lv6_1 : (-1) ≤ v6_1) (uv6_1 : v6_1 ≤ 15) (v6_2 : Int) (lv6_2 : 0 ≤ v6_2) (uv6_2 : v6_2 ≤ 61) (v6_3 : Int) (lv6_3 : 0 ≤ v6_3) (uv6_3 : v6_3 ≤ 16) (hmu : (Int.toNat (2147483647 - v6_3)) < n) (H : Heap) (locs : List Loc) (hB : q_B g K L (fun q => q ∈ L) [] f f s H locs) (ls : Array Slot) (hl : lv_has ls 6 [(0, .ref v), (1, .int (q_i v6_1)), (2, .int (q_i v6_2)), (3, .int (q_i v6_3))]), W p l e { frames := 5, cells := 0, slots := 0, locals := 117 } s m ([.ref v] : List Value).toArray below meth c H locs 0 0 (MQ below (q_Q g K L [] f (q_Pi (fun (z : Int) (f1 : Nat → va_E) => f = f1 ∧ (-1) ≤ z ∧ z ≤ 15))) ([.ref v] : List Value).toArray s 0 0 (fun q => q ∈ L)) (F0 m 6 ls []) := by
    intro n
    induction n with
    | zero =>
      intro v6_1 lv6_1 uv6_1 v6_2 lv6_2 uv6_2 v6_3 lv6_3 uv6_3 hmu
      exact absurd hmu (Nat.not_lt_zero _)
    | succ n ih6 =>
      intro v6_1 lv6_1 uv6_1 v6_2 lv6_2 uv6_2 v6_3 lv6_3 uv6_3 hmu H locs hB ls hl
      have J60 : ∀ (v60_1 : Int) (lv60_1 : (-1) ≤ v60_1) (uv60_1 : v60_1 ≤ 15) (v60_2 : Int) (lv60_2 : 0 ≤ v60_2) (uv60_2 : v60_2 ≤ 61) (buv6_3 : v6_3 ≤ 15) (H : Heap) (locs : List Loc) (hB : q_B g K L (fun q => q ∈ L) [] f f s H locs) (ls : Array Slot) (hl : lv_has ls 6 [(0, .ref v), (1, .int (q_i v60_1)), (2, .int (q_i v60_2)), (3, .int (q_i v6_3))]), W p l e { frames := 5, cells := 0, slots := 0, locals := 117 } s m ([.ref v] : List Value).toArray below meth c H locs 0 0 (MQ below (q_Q g K L [] f (q_Pi (fun (z : Int) (f1 : Nat → va_E) => f = f1 ∧ (-1) ≤ z ∧ z ≤ 15))) ([.ref v] : List Value).toArray s 0 0 (fun q => q ∈ L)) (F0 m 60 ls []) := by
        intro v60_1 lv60_1 uv60_1 v60_2 lv60_2 uv60_2 buv6_3 H locs hB ls hl
        refine q_iinc (lv' := [(3, .int (q_i (v6_3 + 1))), (0, .ref v), (1, .int (q_i v60_1)), (2, .int (q_i v60_2))]) cx dX10_latestMeetingLink_60 hl (k := 3) rfl (by decide) rfl (fun ls hl => ?_)
        refine lv_goto (tgt := 6) cx.1 cx.2.1 dX10_latestMeetingLink_63 (by decide) ?_
        exact ih6 v60_1 (by omega) (by omega) v60_2 (by omega) (by omega) (v6_3 + 1) (by omega) (by omega) (by omega) H locs hB ls (lv_sub hl [1, 2, 3, 0] rfl)
      refine q_ild_n cx dX10_latestMeetingLink_6 rfl (lv_at hl 3 rfl) ?_
      refine q_ald_n cx dX10_latestMeetingLink_7 rfl (lv_at hl 0 rfl) ?_
      obtain ⟨x309, ex309⟩ : ∃ zz, q_is (q_z f v 4) zz := ⟨_, q_isr _⟩
      refine q_gX10_39 cx hB hv kv ex309 dX10_latestMeetingLink_8 (fun lb310 ub310 => ?_)
      refine q_icge (tgt := 66) cx ⟨by omega, by omega⟩ ⟨by omega, by omega⟩ dX10_latestMeetingLink_11 (by decide) (fun c311 => ?_) (fun c311 => ?_)
      · refine q_ild_n cx dX10_latestMeetingLink_66 rfl (lv_at hl 1 rfl) ?_
        refine q_iret cx hr hlk hB dX10_latestMeetingLink_67 ⟨by omega, by omega⟩ ?_
        exact ⟨rfl, (by omega), (by omega)⟩
      · refine q_ald_n cx dX10_latestMeetingLink_14 rfl (lv_at hl 0 rfl) ?_
        refine q_ild_n cx dX10_latestMeetingLink_15 rfl (lv_at hl 3 rfl) ?_
        refine q_cVr (As := [.int (q_i v6_3)]) (rest := []) cx hB (fun _ h => h) hN hv kv (by decide) rfl (g_X10_linkAt l g hN hB.2.1 v hv kv v6_3 (by omega) (by omega)) q_cX10_74 q_dX10_linkAt (by decide) rfl rfl hl.1 rfl (Nat.le_of_ble_eq_true rfl) dX10_latestMeetingLink_16 (fun y313 H locs f312 h314 hF hB => ?_)
        obtain ⟨rfl, hy313, ky313⟩ := h314
        obtain ⟨x315, ex315⟩ : ∃ zz, q_is (q_z f y313 0) zz := ⟨_, q_isr _⟩
        refine q_gX10_116 cx hB hy313 ky313 ex315 dX10_latestMeetingLink_19 (fun lb316 ub316 => ?_)
        refine lv_istore (lv' := [(4, .int (q_i x315)), (0, .ref v), (1, .int (q_i v6_1)), (2, .int (q_i v6_2)), (3, .int (q_i v6_3))]) cx.1 cx.2.1 dX10_latestMeetingLink_22 hl (by decide) rfl (fun ls hl => ?_)
        refine q_ald_n cx dX10_latestMeetingLink_24 rfl (lv_at hl 1 rfl) ?_
        refine lv_iload cx.1 cx.2.1 dX10_latestMeetingLink_25 (lv_at hl 0 rfl) ?_
        refine q_ald_n cx dX10_latestMeetingLink_27 rfl (lv_at hl 1 rfl) ?_
        refine lv_iload cx.1 cx.2.1 dX10_latestMeetingLink_28 (lv_at hl 0 rfl) ?_
        refine q_cVr (As := [.int (q_i x315)]) (rest := [.int (q_i x315), .ref v]) cx hB (fun _ h => h) hN hv kv (by decide) rfl (g_X10_nodeAt l g hN hB.2.1 v hv kv x315 (by omega) (by omega)) q_cX10_66 q_dX10_nodeAt (by decide) rfl rfl hl.1 rfl (Nat.le_of_ble_eq_true rfl) dX10_latestMeetingLink_30 (fun y318 H locs f317 h319 hF hB => ?_)
        obtain ⟨rfl, hy318, ky318⟩ := h319
        obtain ⟨x320, ex320⟩ : ∃ zz, q_is (q_z f y318 3) zz := ⟨_, q_isr _⟩
        refine q_gX10_98 cx hB hy318 ky318 ex320 dX10_latestMeetingLink_33 (fun lb321 ub321 => ?_)
        refine q_ald_n cx dX10_latestMeetingLink_36 rfl (lv_at hl 1 rfl) ?_
        refine q_ild_n cx dX10_latestMeetingLink_37 rfl (lv_at hl 4 rfl) ?_
        refine q_cVr (As := [.int (q_i v6_3)]) (rest := [.int (q_i x320), .int (q_i x315), .ref v]) cx hB (fun _ h => h) hN hv kv (by decide) rfl (g_X10_linkAt l g hN hB.2.1 v hv kv v6_3 (by omega) (by omega)) q_cX10_74 q_dX10_linkAt (by decide) rfl rfl hl.1 rfl (Nat.le_of_ble_eq_true rfl) dX10_latestMeetingLink_38 (fun y323 H locs f322 h324 hF hB => ?_)
        obtain ⟨rfl, hy323, ky323⟩ := h324
        obtain ⟨x325, ex325⟩ : ∃ zz, q_is (q_z f y323 1) zz := ⟨_, q_isr _⟩
        refine q_gX10_119 cx hB hy323 ky323 ex325 dX10_latestMeetingLink_41 (fun lb326 ub326 => ?_)
        refine q_cVi (As := [.int (q_i x315), .int (q_i x320), .int (q_i x325)]) (rest := []) cx hB (fun _ h => h) hN hv kv (by decide) rfl (g_X10_lateness l g hN hB.2.1 v hv kv x315 (by omega) (by omega) x320 (by omega) (by omega) x325 (by omega) (by omega)) q_cX10_222 q_dX10_lateness (by decide) rfl rfl hl.1 rfl (Nat.le_of_ble_eq_true rfl) dX10_latestMeetingLink_44 (fun y328 H locs f327 ry328 h329 hF hB => ?_)
        obtain ⟨rfl, ly328, uy328⟩ := h329
        refine lv_istore (lv' := [(5, .int (q_i y328)), (4, .int (q_i x315)), (0, .ref v), (1, .int (q_i v6_1)), (2, .int (q_i v6_2)), (3, .int (q_i v6_3))]) cx.1 cx.2.1 dX10_latestMeetingLink_47 hl (by decide) rfl (fun ls hl => ?_)
        refine lv_iload cx.1 cx.2.1 dX10_latestMeetingLink_49 (lv_at hl 0 rfl) ?_
        refine q_ild_n cx dX10_latestMeetingLink_51 rfl (lv_at hl 4 rfl) ?_
        refine q_icle (tgt := 60) cx ⟨by omega, by omega⟩ ⟨by omega, by omega⟩ dX10_latestMeetingLink_52 (by decide) (fun c330 => ?_) (fun c330 => ?_)
        · exact J60 v6_1 (by omega) (by omega) v6_2 (by omega) (by omega) (by omega) H locs hB ls (lv_sub hl [2, 3, 4, 5] rfl)
        · refine q_ild_n cx dX10_latestMeetingLink_55 rfl (lv_at hl 5 rfl) ?_
          refine lv_istore_n (lv' := [(1, .int (q_i v6_3)), (5, .int (q_i y328)), (4, .int (q_i x315)), (0, .ref v), (2, .int (q_i v6_2)), (3, .int (q_i v6_3))]) cx.1 cx.2.1 dX10_latestMeetingLink_56 rfl hl (by decide) rfl (fun ls hl => ?_)
          refine lv_iload cx.1 cx.2.1 dX10_latestMeetingLink_57 (lv_at hl 1 rfl) ?_
          refine lv_istore_n (lv' := [(2, .int (q_i y328)), (1, .int (q_i v6_3)), (5, .int (q_i y328)), (4, .int (q_i x315)), (0, .ref v), (3, .int (q_i v6_3))]) cx.1 cx.2.1 dX10_latestMeetingLink_59 rfl hl (by decide) rfl (fun ls hl => ?_)
          exact J60 v6_3 (by omega) (by omega) y328 (by omega) (by omega) (by omega) H locs hB ls (lv_sub hl [4, 1, 0, 5] rfl)
  obtain ⟨H, hH⟩ : ∃ H : Heap, H = s.heap := ⟨_, rfl⟩
  obtain ⟨locs, hlocs⟩ : ∃ z : List Loc, z = [] := ⟨_, rfl⟩
  rw [← hH, ← hlocs] at hB
  rw [← hH, ← hlocs]
  refine q_iconst cx dX10_latestMeetingLink_0 ?_
  refine lv_istore_n (lv' := [(1, .int (q_i (-1))), (0, .ref v)]) cx.1 cx.2.1 dX10_latestMeetingLink_1 rfl hl (by decide) rfl (fun ls hl => ?_)
  refine q_iconst cx dX10_latestMeetingLink_2 ?_
  refine lv_istore_n (lv' := [(2, .int (q_i 0)), (1, .int (q_i (-1))), (0, .ref v)]) cx.1 cx.2.1 dX10_latestMeetingLink_3 rfl hl (by decide) rfl (fun ls hl => ?_)
  refine q_iconst cx dX10_latestMeetingLink_4 ?_
  refine lv_istore_n (lv' := [(3, .int (q_i 0)), (2, .int (q_i 0)), (1, .int (q_i (-1))), (0, .ref v)]) cx.1 cx.2.1 dX10_latestMeetingLink_5 rfl hl (by decide) rfl (fun ls hl => ?_)
  exact J6 ((Int.toNat (2147483647 - 0)) + 1) (-1) (by decide) (by decide) 0 (by decide) (by decide) 0 (by decide) (by decide) (Nat.lt_succ_self _) H locs hB ls (lv_sub hl [3, 2, 1, 0] rfl)
set_option maxHeartbeats 4000000 in
set_option maxRecDepth 100000 in
theorem g_X10_latestMeetingLink_1 (l : Launch) (g : q_G) {K : Nat → Nat} {L : List Nat} (hN : L.Nodup) {f : Nat → va_E} (hT : q_Ty g K L f) (v : Nat) (hv : v ∈ L) (kv : K v = 13) : q_Ct l g K L yX10_latestMeetingLink cX10_latestMeetingLink 6 (some .int) 5 117 [.ref v] f [] (q_Pi (fun (z : Int) (f1 : Nat → va_E) => f = f1 ∧ (-1) ≤ z ∧ z ≤ 15)) := by
  refine q_ofb (by decide +kernel) hN hT (Nat.le_of_ble_eq_true rfl) ?_
  intro p e s m below meth c ls cx hr hlk hB hl
  have hl : lv_has ls 6 [(0, .ref v)] := hl
  have J6 : ∀ (n : Nat) (v6_1 : Int) (lv6_1 : (-1) ≤ v6_1) (uv6_1 : v6_1 ≤ 15) (v6_2 : Int) (lv6_2 : 0 ≤ v6_2) (uv6_2 : v6_2 ≤ 61) (v6_3 : Int) (lv6_3 : 0 ≤ v6_3) (uv6_3 : v6_3 ≤ 16) (hmu : (Int.toNat (2147483647 - v6_3)) < n) (H : Heap) (locs : List Loc) (hB : q_B g K L (fun q => q ∈ L) [] f f s H locs) (ls : Array Slot) (hl : lv_has ls 6 [(0, .ref v), (1, .int (q_i v6_1)), (2, .int (q_i v6_2)), (3, .int (q_i v6_3))]), W p l e { frames := 5, cells := 0, slots := 0, locals := 117 } s m ([.ref v] : List Value).toArray below meth c H locs 0 0 (MQ below (q_Q g K L [] f (q_Pi (fun (z : Int) (f1 : Nat → va_E) => f = f1 ∧ (-1) ≤ z ∧ z ≤ 15))) ([.ref v] : List Value).toArray s 0 0 (fun q => q ∈ L)) (F0 m 6 ls []) := by
    intro n
    induction n with
    | zero =>
      intro v6_1 lv6_1 uv6_1 v6_2 lv6_2 uv6_2 v6_3 lv6_3 uv6_3 hmu
      exact absurd hmu (Nat.not_lt_zero _)
    | succ n ih6 =>
      intro v6_1 lv6_1 uv6_1 v6_2 lv6_2 uv6_2 v6_3 lv6_3 uv6_3 hmu H locs hB ls hl
      have J60 : ∀ (v60_1 : Int) (lv60_1 : (-1) ≤ v60_1) (uv60_1 : v60_1 ≤ 15) (v60_2 : Int) (lv60_2 : 0 ≤ v60_2) (uv60_2 : v60_2 ≤ 61) (buv6_3 : v6_3 ≤ 15) (H : Heap) (locs : List Loc) (hB : q_B g K L (fun q => q ∈ L) [] f f s H locs) (ls : Array Slot) (hl : lv_has ls 6 [(0, .ref v), (1, .int (q_i v60_1)), (2, .int (q_i v60_2)), (3, .int (q_i v6_3))]), W p l e { frames := 5, cells := 0, slots := 0, locals := 117 } s m ([.ref v] : List Value).toArray below meth c H locs 0 0 (MQ below (q_Q g K L [] f (q_Pi (fun (z : Int) (f1 : Nat → va_E) => f = f1 ∧ (-1) ≤ z ∧ z ≤ 15))) ([.ref v] : List Value).toArray s 0 0 (fun q => q ∈ L)) (F0 m 60 ls []) := by
        intro v60_1 lv60_1 uv60_1 v60_2 lv60_2 uv60_2 buv6_3 H locs hB ls hl
        refine q_iinc (lv' := [(3, .int (q_i (v6_3 + 1))), (0, .ref v), (1, .int (q_i v60_1)), (2, .int (q_i v60_2))]) cx dX10_latestMeetingLink_60 hl (k := 3) rfl (by decide) rfl (fun ls hl => ?_)
        refine lv_goto (tgt := 6) cx.1 cx.2.1 dX10_latestMeetingLink_63 (by decide) ?_
        exact ih6 v60_1 (by omega) (by omega) v60_2 (by omega) (by omega) (v6_3 + 1) (by omega) (by omega) (by omega) H locs hB ls (lv_sub hl [1, 2, 3, 0] rfl)
      refine q_ild_n cx dX10_latestMeetingLink_6 rfl (lv_at hl 3 rfl) ?_
      refine q_ald_n cx dX10_latestMeetingLink_7 rfl (lv_at hl 0 rfl) ?_
      obtain ⟨x309, ex309⟩ : ∃ zz, q_is (q_z f v 4) zz := ⟨_, q_isr _⟩
      refine q_gX10_39_13 cx hB hv kv ex309 dX10_latestMeetingLink_8 (fun lb310 ub310 => ?_)
      refine q_icge (tgt := 66) cx ⟨by omega, by omega⟩ ⟨by omega, by omega⟩ dX10_latestMeetingLink_11 (by decide) (fun c311 => ?_) (fun c311 => ?_)
      · refine q_ild_n cx dX10_latestMeetingLink_66 rfl (lv_at hl 1 rfl) ?_
        refine q_iret cx hr hlk hB dX10_latestMeetingLink_67 ⟨by omega, by omega⟩ ?_
        exact ⟨rfl, (by omega), (by omega)⟩
      · refine q_ald_n cx dX10_latestMeetingLink_14 rfl (lv_at hl 0 rfl) ?_
        refine q_ild_n cx dX10_latestMeetingLink_15 rfl (lv_at hl 3 rfl) ?_
        refine q_cVr (As := [.int (q_i v6_3)]) (rest := []) cx hB (fun _ h => h) hN hv kv (by decide) rfl (g_X10_linkAt_1 l g hN hB.2.1 v hv kv v6_3 (by omega) (by omega)) q_cX10_74 q_dX10_linkAt (by decide) rfl rfl hl.1 rfl (Nat.le_of_ble_eq_true rfl) dX10_latestMeetingLink_16 (fun y313 H locs f312 h314 hF hB => ?_)
        obtain ⟨rfl, hy313, ky313⟩ := h314
        obtain ⟨x315, ex315⟩ : ∃ zz, q_is (q_z f y313 0) zz := ⟨_, q_isr _⟩
        refine q_gX10_116_21 cx hB hy313 ky313 ex315 dX10_latestMeetingLink_19 (fun lb316 ub316 => ?_)
        refine lv_istore (lv' := [(4, .int (q_i x315)), (0, .ref v), (1, .int (q_i v6_1)), (2, .int (q_i v6_2)), (3, .int (q_i v6_3))]) cx.1 cx.2.1 dX10_latestMeetingLink_22 hl (by decide) rfl (fun ls hl => ?_)
        refine q_ald_n cx dX10_latestMeetingLink_24 rfl (lv_at hl 1 rfl) ?_
        refine lv_iload cx.1 cx.2.1 dX10_latestMeetingLink_25 (lv_at hl 0 rfl) ?_
        refine q_ald_n cx dX10_latestMeetingLink_27 rfl (lv_at hl 1 rfl) ?_
        refine lv_iload cx.1 cx.2.1 dX10_latestMeetingLink_28 (lv_at hl 0 rfl) ?_
        refine q_cVr (As := [.int (q_i x315)]) (rest := [.int (q_i x315), .ref v]) cx hB (fun _ h => h) hN hv kv (by decide) rfl (g_X10_nodeAt_1 l g hN hB.2.1 v hv kv x315 (by omega) (by omega)) q_cX10_66 q_dX10_nodeAt (by decide) rfl rfl hl.1 rfl (Nat.le_of_ble_eq_true rfl) dX10_latestMeetingLink_30 (fun y318 H locs f317 h319 hF hB => ?_)
        obtain ⟨rfl, hy318, ky318⟩ := h319
        obtain ⟨x320, ex320⟩ : ∃ zz, q_is (q_z f y318 3) zz := ⟨_, q_isr _⟩
        refine q_gX10_98_17 cx hB hy318 ky318 ex320 dX10_latestMeetingLink_33 (fun lb321 ub321 => ?_)
        refine q_ald_n cx dX10_latestMeetingLink_36 rfl (lv_at hl 1 rfl) ?_
        refine q_ild_n cx dX10_latestMeetingLink_37 rfl (lv_at hl 4 rfl) ?_
        refine q_cVr (As := [.int (q_i v6_3)]) (rest := [.int (q_i x320), .int (q_i x315), .ref v]) cx hB (fun _ h => h) hN hv kv (by decide) rfl (g_X10_linkAt_1 l g hN hB.2.1 v hv kv v6_3 (by omega) (by omega)) q_cX10_74 q_dX10_linkAt (by decide) rfl rfl hl.1 rfl (Nat.le_of_ble_eq_true rfl) dX10_latestMeetingLink_38 (fun y323 H locs f322 h324 hF hB => ?_)
        obtain ⟨rfl, hy323, ky323⟩ := h324
        obtain ⟨x325, ex325⟩ : ∃ zz, q_is (q_z f y323 1) zz := ⟨_, q_isr _⟩
        refine q_gX10_119_21 cx hB hy323 ky323 ex325 dX10_latestMeetingLink_41 (fun lb326 ub326 => ?_)
        refine q_cVi (As := [.int (q_i x315), .int (q_i x320), .int (q_i x325)]) (rest := []) cx hB (fun _ h => h) hN hv kv (by decide) rfl (g_X10_lateness_1 l g hN hB.2.1 v hv kv x315 (by omega) (by omega) x320 (by omega) (by omega) x325 (by omega) (by omega)) q_cX10_222 q_dX10_lateness (by decide) rfl rfl hl.1 rfl (Nat.le_of_ble_eq_true rfl) dX10_latestMeetingLink_44 (fun y328 H locs f327 ry328 h329 hF hB => ?_)
        obtain ⟨rfl, ly328, uy328⟩ := h329
        refine lv_istore (lv' := [(5, .int (q_i y328)), (4, .int (q_i x315)), (0, .ref v), (1, .int (q_i v6_1)), (2, .int (q_i v6_2)), (3, .int (q_i v6_3))]) cx.1 cx.2.1 dX10_latestMeetingLink_47 hl (by decide) rfl (fun ls hl => ?_)
        refine lv_iload cx.1 cx.2.1 dX10_latestMeetingLink_49 (lv_at hl 0 rfl) ?_
        refine q_ild_n cx dX10_latestMeetingLink_51 rfl (lv_at hl 4 rfl) ?_
        refine q_icle (tgt := 60) cx ⟨by omega, by omega⟩ ⟨by omega, by omega⟩ dX10_latestMeetingLink_52 (by decide) (fun c330 => ?_) (fun c330 => ?_)
        · exact J60 v6_1 (by omega) (by omega) v6_2 (by omega) (by omega) (by omega) H locs hB ls (lv_sub hl [2, 3, 4, 5] rfl)
        · refine q_ild_n cx dX10_latestMeetingLink_55 rfl (lv_at hl 5 rfl) ?_
          refine lv_istore_n (lv' := [(1, .int (q_i v6_3)), (5, .int (q_i y328)), (4, .int (q_i x315)), (0, .ref v), (2, .int (q_i v6_2)), (3, .int (q_i v6_3))]) cx.1 cx.2.1 dX10_latestMeetingLink_56 rfl hl (by decide) rfl (fun ls hl => ?_)
          refine lv_iload cx.1 cx.2.1 dX10_latestMeetingLink_57 (lv_at hl 1 rfl) ?_
          refine lv_istore_n (lv' := [(2, .int (q_i y328)), (1, .int (q_i v6_3)), (5, .int (q_i y328)), (4, .int (q_i x315)), (0, .ref v), (3, .int (q_i v6_3))]) cx.1 cx.2.1 dX10_latestMeetingLink_59 rfl hl (by decide) rfl (fun ls hl => ?_)
          exact J60 v6_3 (by omega) (by omega) y328 (by omega) (by omega) (by omega) H locs hB ls (lv_sub hl [4, 1, 0, 5] rfl)
  obtain ⟨H, hH⟩ : ∃ H : Heap, H = s.heap := ⟨_, rfl⟩
  obtain ⟨locs, hlocs⟩ : ∃ z : List Loc, z = [] := ⟨_, rfl⟩
  rw [← hH, ← hlocs] at hB
  rw [← hH, ← hlocs]
  refine q_iconst cx dX10_latestMeetingLink_0 ?_
  refine lv_istore_n (lv' := [(1, .int (q_i (-1))), (0, .ref v)]) cx.1 cx.2.1 dX10_latestMeetingLink_1 rfl hl (by decide) rfl (fun ls hl => ?_)
  refine q_iconst cx dX10_latestMeetingLink_2 ?_
  refine lv_istore_n (lv' := [(2, .int (q_i 0)), (1, .int (q_i (-1))), (0, .ref v)]) cx.1 cx.2.1 dX10_latestMeetingLink_3 rfl hl (by decide) rfl (fun ls hl => ?_)
  refine q_iconst cx dX10_latestMeetingLink_4 ?_
  refine lv_istore_n (lv' := [(3, .int (q_i 0)), (2, .int (q_i 0)), (1, .int (q_i (-1))), (0, .ref v)]) cx.1 cx.2.1 dX10_latestMeetingLink_5 rfl hl (by decide) rfl (fun ls hl => ?_)
  exact J6 ((Int.toNat (2147483647 - 0)) + 1) (-1) (by decide) (by decide) 0 (by decide) (by decide) 0 (by decide) (by decide) (Nat.lt_succ_self _) H locs hB ls (lv_sub hl [3, 2, 1, 0] rfl)
