set_option maxHeartbeats 4000000 in
set_option maxRecDepth 100000 in
theorem g_X10_passMessages_4 (l : Launch) (g : q_G) {K : Nat → Nat} {L : List Nat} (hN : L.Nodup) {f : Nat → va_E} (hT : q_Ty g K L f) (v : Nat) (hv : v ∈ L) (kv : K v = 16) (p0 : Int) (lp0 : 0 ≤ p0) (up0 : p0 ≤ 1) : q_Ct l g K L yX10_passMessages cX10_passMessages 5 (some .int) 3 77 [.ref v, .int (q_i p0)] f [(16, 14, 15), (20, 4, 4), (20, 7, 8), (28, 2, 3), (28, 5, 6)] (q_Pi (fun (z : Int) (f1 : Nat → va_E) => True)) := by
  refine q_ofb (by decide +kernel) hN hT (Nat.le_of_ble_eq_true rfl) ?_
  intro p e s m below meth c ls cx hr hlk hB hl
  have hl : lv_has ls 5 [(0, .ref v), (1, .int (q_i p0))] := hl
  have J4 : ∀ (n : Nat) (f4 : Nat → va_E) (v4_2 : Int) (lv4_2 : (-2147483648) ≤ v4_2) (uv4_2 : v4_2 ≤ 2147483647) (v4_3 : Int) (lv4_3 : 0 ≤ v4_3) (uv4_3 : v4_3 ≤ 61) (hmu : (Int.toNat (2147483647 - v4_3)) < n) (H : Heap) (locs : List Loc) (hB : q_B g K L (fun q => q ∈ L) [(16, 14, 15), (20, 4, 4), (20, 7, 8), (28, 2, 3), (28, 5, 6)] f f4 s H locs) (ls : Array Slot) (hl : lv_has ls 5 [(0, .ref v), (1, .int (q_i p0)), (2, .int (q_i v4_2)), (3, .int (q_i v4_3))]), W p l e { frames := 3, cells := 0, slots := 0, locals := 77 } s m ([.ref v, .int (q_i p0)] : List Value).toArray below meth c H locs 0 0 (MQ below (q_Q g K L [(16, 14, 15), (20, 4, 4), (20, 7, 8), (28, 2, 3), (28, 5, 6)] f (q_Pi (fun (z : Int) (f1 : Nat → va_E) => True))) ([.ref v, .int (q_i p0)] : List Value).toArray s 0 0 (fun q => q ∈ L)) (F0 m 4 ls []) := by
    intro n
    induction n with
    | zero =>
      intro f4 v4_2 lv4_2 uv4_2 v4_3 lv4_3 uv4_3 hmu
      exact absurd hmu (Nat.not_lt_zero _)
    | succ n ih4 =>
      intro f4 v4_2 lv4_2 uv4_2 v4_3 lv4_3 uv4_3 hmu H locs hB ls hl
      have J59 : ∀ (f59 : Nat → va_E) (v59_2 : Int) (lv59_2 : (-2147483648) ≤ v59_2) (uv59_2 : v59_2 ≤ 2147483647) (buv4_3 : v4_3 ≤ 60) (H : Heap) (locs : List Loc) (hB : q_B g K L (fun q => q ∈ L) [(16, 14, 15), (20, 4, 4), (20, 7, 8), (28, 2, 3), (28, 5, 6)] f f59 s H locs) (ls : Array Slot) (hl : lv_has ls 5 [(0, .ref v), (1, .int (q_i p0)), (2, .int (q_i v59_2)), (3, .int (q_i v4_3))]), W p l e { frames := 3, cells := 0, slots := 0, locals := 77 } s m ([.ref v, .int (q_i p0)] : List Value).toArray below meth c H locs 0 0 (MQ below (q_Q g K L [(16, 14, 15), (20, 4, 4), (20, 7, 8), (28, 2, 3), (28, 5, 6)] f (q_Pi (fun (z : Int) (f1 : Nat → va_E) => True))) ([.ref v, .int (q_i p0)] : List Value).toArray s 0 0 (fun q => q ∈ L)) (F0 m 59 ls []) := by
        intro f59 v59_2 lv59_2 uv59_2 buv4_3 H locs hB ls hl
        refine q_iinc (lv' := [(3, .int (q_i (v4_3 + 1))), (0, .ref v), (1, .int (q_i p0)), (2, .int (q_i v59_2))]) cx dX10_passMessages_59 hl (k := 3) rfl (by decide) rfl (fun ls hl => ?_)
        refine lv_goto (tgt := 4) cx.1 cx.2.1 dX10_passMessages_62 (by decide) ?_
        exact ih4 f59 v59_2 (by omega) (by omega) (v4_3 + 1) (by omega) (by omega) (by omega) H locs hB ls (lv_sub hl [1, 2, 3, 0] rfl)
      have J57 : ∀ (f57 : Nat → va_E) (t57_0 : Int) (lt57_0 : 0 ≤ t57_0) (ut57_0 : t57_0 ≤ 1) (buv4_3 : v4_3 ≤ 60) (H : Heap) (locs : List Loc) (hB : q_B g K L (fun q => q ∈ L) [(16, 14, 15), (20, 4, 4), (20, 7, 8), (28, 2, 3), (28, 5, 6)] f f57 s H locs) (ls : Array Slot) (hl : lv_has ls 5 [(0, .ref v), (1, .int (q_i p0)), (3, .int (q_i v4_3))]), W p l e { frames := 3, cells := 0, slots := 0, locals := 77 } s m ([.ref v, .int (q_i p0)] : List Value).toArray below meth c H locs 0 0 (MQ below (q_Q g K L [(16, 14, 15), (20, 4, 4), (20, 7, 8), (28, 2, 3), (28, 5, 6)] f (q_Pi (fun (z : Int) (f1 : Nat → va_E) => True))) ([.ref v, .int (q_i p0)] : List Value).toArray s 0 0 (fun q => q ∈ L)) (F0 m 57 ls [.int (q_i t57_0), .int (q_i v4_2)]) := by
        intro f57 t57_0 lt57_0 ut57_0 buv4_3 H locs hB ls hl
        refine q_iadd cx dX10_passMessages_57 ?_
        refine q_any (fun y831 ry831 ey831 => ?_)
        refine lv_istore_n (lv' := [(2, .int (q_i y831)), (0, .ref v), (1, .int (q_i p0)), (3, .int (q_i v4_3))]) cx.1 cx.2.1 dX10_passMessages_58 rfl hl (by decide) rfl (fun ls hl => ?_)
        exact J59 f57 y831 (by omega) (by omega) (by omega) H locs hB ls (lv_sub hl [1, 2, 0, 3] rfl)
      refine q_ild_n cx dX10_passMessages_4 rfl (lv_at hl 3 rfl) ?_
      refine q_ald_n cx dX10_passMessages_5 rfl (lv_at hl 0 rfl) ?_
      obtain ⟨x832, ex832⟩ : ∃ zz, q_is (q_z f4 v 5) zz := ⟨_, q_isr _⟩
      refine q_gX10_42_16 cx hB hv kv ex832 dX10_passMessages_6 (fun lb833 ub833 => ?_)
      refine q_icge (tgt := 65) cx ⟨by omega, by omega⟩ ⟨by omega, by omega⟩ dX10_passMessages_9 (by decide) (fun c834 => ?_) (fun c834 => ?_)
      · refine q_ild_n cx dX10_passMessages_65 rfl (lv_at hl 2 rfl) ?_
        refine q_iret cx hr hlk hB dX10_passMessages_66 ⟨by omega, by omega⟩ ?_
        trivial
      · refine q_ald_n cx dX10_passMessages_12 rfl (lv_at hl 0 rfl) ?_
        refine q_ild_n cx dX10_passMessages_13 rfl (lv_at hl 3 rfl) ?_
        refine q_cVr (As := [.int (q_i v4_3)]) (rest := []) cx hB (fun _ h => h) hN hv kv (by decide) rfl (g_X10_messageAt_4 l g hN hB.2.1 v hv kv v4_3 (by omega) (by omega)) q_cX10_81 q_dX10_messageAt (by decide) rfl rfl hl.1 rfl (Nat.le_of_ble_eq_true rfl) dX10_passMessages_14 (fun y836 H locs f835 h837 hF hB => ?_)
        obtain ⟨rfl, hy836, ky836⟩ := h837
        refine lv_astore (lv' := [(4, .ref y836), (0, .ref v), (1, .int (q_i p0)), (2, .int (q_i v4_2)), (3, .int (q_i v4_3))]) cx.1 cx.2.1 dX10_passMessages_17 hl (by decide) rfl (fun ls hl => ?_)
        refine lv_aload cx.1 cx.2.1 dX10_passMessages_19 (lv_at hl 0 rfl) ?_
        obtain ⟨x838, ex838⟩ : ∃ zz, q_is (q_z f4 y836 3) zz := ⟨_, q_isr _⟩
        refine q_gX10_140_28 cx hB hy836 ky836 ex838 dX10_passMessages_21 (fun lb839 ub839 => ?_)
        refine q_ifne (tgt := 59) cx ⟨by omega, by omega⟩ dX10_passMessages_24 (by decide) (fun c840 => ?_) (fun c840 => ?_)
        · exact J59 f4 v4_2 (by omega) (by omega) (by omega) H locs hB ls (lv_sub hl [1, 2, 3, 4] rfl)
        · refine lv_aload cx.1 cx.2.1 dX10_passMessages_27 (lv_at hl 0 rfl) ?_
          obtain ⟨x841, ex841⟩ : ∃ zz, q_is (q_z f4 y836 7) zz := ⟨_, q_isr _⟩
          refine q_gX10_152_28 cx hB hy836 ky836 ex841 dX10_passMessages_29 (fun lb842 ub842 => ?_)
          refine q_ild_n cx dX10_passMessages_32 rfl (lv_at hl 2 rfl) ?_
          refine q_icne (tgt := 59) cx ⟨by omega, by omega⟩ ⟨by omega, by omega⟩ dX10_passMessages_33 (by decide) (fun c843 => ?_) (fun c843 => ?_)
          · exact J59 f4 v4_2 (by omega) (by omega) (by omega) H locs hB ls (lv_sub hl [1, 2, 3, 4] rfl)
          · refine q_ald_n cx dX10_passMessages_36 rfl (lv_at hl 1 rfl) ?_
            refine lv_aload cx.1 cx.2.1 dX10_passMessages_37 (lv_at hl 0 rfl) ?_
            refine q_cVv (As := [.ref y836]) (rest := []) cx hB (fun _ h => h) hN hv kv (by decide) rfl (g_X10_tryToPass_4 l g hN hB.2.1 v hv kv y836 hy836 ky836) q_cX10_271 q_dX10_tryToPass (by decide) rfl rfl hl.1 rfl (Nat.le_of_ble_eq_true rfl) dX10_passMessages_39 (fun H locs f844 h846 hF hB => ?_)
            refine q_ild_n cx dX10_passMessages_42 rfl (lv_at hl 3 rfl) ?_
            refine lv_aload cx.1 cx.2.1 dX10_passMessages_43 (lv_at hl 0 rfl) ?_
            obtain ⟨x847, ex847⟩ : ∃ zz, q_is (q_z f844 y836 3) zz := ⟨_, q_isr _⟩
            refine q_gX10_140_28 cx hB hy836 ky836 ex847 dX10_passMessages_45 (fun lb848 ub848 => ?_)
            refine q_iconst cx dX10_passMessages_48 ?_
            refine q_icne (tgt := 56) cx ⟨by omega, by omega⟩ ⟨by decide, by decide⟩ dX10_passMessages_49 (by decide) (fun c849 => ?_) (fun c849 => ?_)
            · refine q_iconst cx dX10_passMessages_56 ?_
              exact J57 f844 0 (by decide) (by decide) (by omega) H locs hB ls (lv_sub hl [1, 2, 4] rfl)
            · refine q_iconst cx dX10_passMessages_52 ?_
              refine lv_goto (tgt := 57) cx.1 cx.2.1 dX10_passMessages_53 (by decide) ?_
              exact J57 f844 1 (by decide) (by decide) (by omega) H locs hB ls (lv_sub hl [1, 2, 4] rfl)
  obtain ⟨H, hH⟩ : ∃ H : Heap, H = s.heap := ⟨_, rfl⟩
  obtain ⟨locs, hlocs⟩ : ∃ z : List Loc, z = [] := ⟨_, rfl⟩
  rw [← hH, ← hlocs] at hB
  rw [← hH, ← hlocs]
  refine q_iconst cx dX10_passMessages_0 ?_
  refine lv_istore_n (lv' := [(2, .int (q_i 0)), (0, .ref v), (1, .int (q_i p0))]) cx.1 cx.2.1 dX10_passMessages_1 rfl hl (by decide) rfl (fun ls hl => ?_)
  refine q_iconst cx dX10_passMessages_2 ?_
  refine lv_istore_n (lv' := [(3, .int (q_i 0)), (2, .int (q_i 0)), (0, .ref v), (1, .int (q_i p0))]) cx.1 cx.2.1 dX10_passMessages_3 rfl hl (by decide) rfl (fun ls hl => ?_)
  exact J4 ((Int.toNat (2147483647 - 0)) + 1) f 0 (by decide) (by decide) 0 (by decide) (by decide) (Nat.lt_succ_self _) H locs hB ls (lv_sub hl [2, 3, 1, 0] rfl)
set_option maxHeartbeats 4000000 in
set_option maxRecDepth 100000 in
theorem g_X10_loseMessages (l : Launch) (g : q_G) {K : Nat → Nat} {L : List Nat} (hN : L.Nodup) {f : Nat → va_E} (hT : q_Ty g K L f) (v : Nat) (hv : v ∈ L) (kv : K v = 10) : q_Ct l g K L yX10_loseMessages cX10_loseMessages 3 none 2 42 [.ref v] f [(4, 3, 3)] (q_Pv (fun (f1 : Nat → va_E) => True)) := by
  refine q_ofb (by decide +kernel) hN hT (Nat.le_of_ble_eq_true rfl) ?_
  intro p e s m below meth c ls cx hr hlk hB hl
  have hl : lv_has ls 3 [(0, .ref v)] := hl
  have J2 : ∀ (n : Nat) (f2 : Nat → va_E) (v2_1 : Int) (lv2_1 : 0 ≤ v2_1) (uv2_1 : v2_1 ≤ 61) (hmu : (Int.toNat (2147483647 - v2_1)) < n) (H : Heap) (locs : List Loc) (hB : q_B g K L (fun q => q ∈ L) [(4, 3, 3)] f f2 s H locs) (ls : Array Slot) (hl : lv_has ls 3 [(0, .ref v), (1, .int (q_i v2_1))]), W p l e { frames := 2, cells := 0, slots := 0, locals := 42 } s m ([.ref v] : List Value).toArray below meth c H locs 0 0 (MQ below (q_Q g K L [(4, 3, 3)] f (q_Pv (fun (f1 : Nat → va_E) => True))) ([.ref v] : List Value).toArray s 0 0 (fun q => q ∈ L)) (F0 m 2 ls []) := by
    intro n
    induction n with
    | zero =>
      intro f2 v2_1 lv2_1 uv2_1 hmu
      exact absurd hmu (Nat.not_lt_zero _)
    | succ n ih2 =>
      intro f2 v2_1 lv2_1 uv2_1 hmu H locs hB ls hl
      have J39 : ∀ (f39 : Nat → va_E) (buv2_1 : v2_1 ≤ 60) (H : Heap) (locs : List Loc) (hB : q_B g K L (fun q => q ∈ L) [(4, 3, 3)] f f39 s H locs) (ls : Array Slot) (hl : lv_has ls 3 [(0, .ref v), (1, .int (q_i v2_1))]), W p l e { frames := 2, cells := 0, slots := 0, locals := 42 } s m ([.ref v] : List Value).toArray below meth c H locs 0 0 (MQ below (q_Q g K L [(4, 3, 3)] f (q_Pv (fun (f1 : Nat → va_E) => True))) ([.ref v] : List Value).toArray s 0 0 (fun q => q ∈ L)) (F0 m 39 ls []) := by
        intro f39 buv2_1 H locs hB ls hl
        refine q_iinc (lv' := [(1, .int (q_i (v2_1 + 1))), (0, .ref v)]) cx dX10_loseMessages_39 hl (k := 1) rfl (by decide) rfl (fun ls hl => ?_)
        refine lv_goto (tgt := 2) cx.1 cx.2.1 dX10_loseMessages_42 (by decide) ?_
        exact ih2 f39 (v2_1 + 1) (by omega) (by omega) (by omega) H locs hB ls (lv_sub hl [1, 0] rfl)
      refine q_ild_n cx dX10_loseMessages_2 rfl (lv_at hl 1 rfl) ?_
      refine q_ald_n cx dX10_loseMessages_3 rfl (lv_at hl 0 rfl) ?_
      obtain ⟨x358, ex358⟩ : ∃ zz, q_is (q_z f2 v 5) zz := ⟨_, q_isr _⟩
      refine q_gX10_42 cx hB hv kv ex358 dX10_loseMessages_4 (fun lb359 ub359 => ?_)
      refine q_icge (tgt := 45) cx ⟨by omega, by omega⟩ ⟨by omega, by omega⟩ dX10_loseMessages_7 (by decide) (fun c360 => ?_) (fun c360 => ?_)
      · refine q_vret cx hr hlk hB dX10_loseMessages_45 ?_
        trivial
      · refine q_ald_n cx dX10_loseMessages_10 rfl (lv_at hl 0 rfl) ?_
        refine q_ild_n cx dX10_loseMessages_11 rfl (lv_at hl 1 rfl) ?_
        refine q_cVr (As := [.int (q_i v2_1)]) (rest := []) cx hB (fun _ h => h) hN hv kv (by decide) rfl (g_X10_messageAt l g hN hB.2.1 v hv kv v2_1 (by omega) (by omega)) q_cX10_81 q_dX10_messageAt (by decide) rfl rfl hl.1 rfl (Nat.le_of_ble_eq_true rfl) dX10_loseMessages_12 (fun y362 H locs f361 h363 hF hB => ?_)
        obtain ⟨rfl, hy362, ky362⟩ := h363
        refine lv_astore_n (lv' := [(2, .ref y362), (0, .ref v), (1, .int (q_i v2_1))]) cx.1 cx.2.1 dX10_loseMessages_15 rfl hl (by decide) rfl (fun ls hl => ?_)
        refine q_ald_n cx dX10_loseMessages_16 rfl (lv_at hl 0 rfl) ?_
        obtain ⟨x364, ex364⟩ : ∃ zz, q_is (q_z f2 y362 3) zz := ⟨_, q_isr _⟩
        refine q_gX10_140 cx hB hy362 ky362 ex364 dX10_loseMessages_17 (fun lb365 ub365 => ?_)
        refine q_ifne (tgt := 39) cx ⟨by omega, by omega⟩ dX10_loseMessages_20 (by decide) (fun c366 => ?_) (fun c366 => ?_)
        · exact J39 f2 (by omega) H locs hB ls (lv_sub hl [1, 2] rfl)
        · refine q_ald_n cx dX10_loseMessages_23 rfl (lv_at hl 1 rfl) ?_
          refine q_ald_n cx dX10_loseMessages_24 rfl (lv_at hl 0 rfl) ?_
          obtain ⟨x367, ex367⟩ : ∃ zz, q_is (q_z f2 y362 2) zz := ⟨_, q_isr _⟩
          refine q_gX10_137 cx hB hy362 ky362 ex367 dX10_loseMessages_25 (fun lb368 ub368 => ?_)
          refine q_cVi (As := [.int (q_i x367)]) (rest := []) cx hB (fun _ h => h) hN hv kv (by decide) rfl (g_X10_isOut l g hN hB.2.1 v hv kv x367 (by omega) (by omega)) q_cX10_160 q_dX10_isOut (by decide) rfl rfl hl.1 rfl (Nat.le_of_ble_eq_true rfl) dX10_loseMessages_28 (fun y370 H locs f369 ry370 h371 hF hB => ?_)
          obtain ⟨rfl, ly370, uy370⟩ := h371
          refine q_ifeq (tgt := 39) cx ⟨by omega, by omega⟩ dX10_loseMessages_31 (by decide) (fun c372 => ?_) (fun c372 => ?_)
          · exact J39 f2 (by omega) H locs hB ls (lv_sub hl [1, 2] rfl)
          · refine q_ald_n cx dX10_loseMessages_34 rfl (lv_at hl 0 rfl) ?_
            refine q_iconst cx dX10_loseMessages_35 ?_
            refine q_pX10_140 cx hB hy362 ky362 ⟨by decide, by decide⟩ (by decide) (by decide) rfl dX10_loseMessages_36 (fun H locs f373 ef373 z374 hB => ?_)
            exact J39 f373 (by omega) H locs hB ls (lv_sub hl [1, 2] rfl)
  obtain ⟨H, hH⟩ : ∃ H : Heap, H = s.heap := ⟨_, rfl⟩
  obtain ⟨locs, hlocs⟩ : ∃ z : List Loc, z = [] := ⟨_, rfl⟩
  rw [← hH, ← hlocs] at hB
  rw [← hH, ← hlocs]
  refine q_iconst cx dX10_loseMessages_0 ?_
  refine lv_istore_n (lv' := [(1, .int (q_i 0)), (0, .ref v)]) cx.1 cx.2.1 dX10_loseMessages_1 rfl hl (by decide) rfl (fun ls hl => ?_)
  exact J2 ((Int.toNat (2147483647 - 0)) + 1) f 0 (by decide) (by decide) (Nat.lt_succ_self _) H locs hB ls (lv_sub hl [1, 0] rfl)
set_option maxHeartbeats 4000000 in
set_option maxRecDepth 100000 in
theorem g_X10_loseMessages_1 (l : Launch) (g : q_G) {K : Nat → Nat} {L : List Nat} (hN : L.Nodup) {f : Nat → va_E} (hT : q_Ty g K L f) (v : Nat) (hv : v ∈ L) (kv : K v = 13) : q_Ct l g K L yX10_loseMessages cX10_loseMessages 3 none 2 42 [.ref v] f [(25, 3, 3)] (q_Pv (fun (f1 : Nat → va_E) => True)) := by
  refine q_ofb (by decide +kernel) hN hT (Nat.le_of_ble_eq_true rfl) ?_
  intro p e s m below meth c ls cx hr hlk hB hl
  have hl : lv_has ls 3 [(0, .ref v)] := hl
  have J2 : ∀ (n : Nat) (f2 : Nat → va_E) (v2_1 : Int) (lv2_1 : 0 ≤ v2_1) (uv2_1 : v2_1 ≤ 61) (hmu : (Int.toNat (2147483647 - v2_1)) < n) (H : Heap) (locs : List Loc) (hB : q_B g K L (fun q => q ∈ L) [(25, 3, 3)] f f2 s H locs) (ls : Array Slot) (hl : lv_has ls 3 [(0, .ref v), (1, .int (q_i v2_1))]), W p l e { frames := 2, cells := 0, slots := 0, locals := 42 } s m ([.ref v] : List Value).toArray below meth c H locs 0 0 (MQ below (q_Q g K L [(25, 3, 3)] f (q_Pv (fun (f1 : Nat → va_E) => True))) ([.ref v] : List Value).toArray s 0 0 (fun q => q ∈ L)) (F0 m 2 ls []) := by
    intro n
    induction n with
    | zero =>
      intro f2 v2_1 lv2_1 uv2_1 hmu
      exact absurd hmu (Nat.not_lt_zero _)
    | succ n ih2 =>
      intro f2 v2_1 lv2_1 uv2_1 hmu H locs hB ls hl
      have J39 : ∀ (f39 : Nat → va_E) (buv2_1 : v2_1 ≤ 60) (H : Heap) (locs : List Loc) (hB : q_B g K L (fun q => q ∈ L) [(25, 3, 3)] f f39 s H locs) (ls : Array Slot) (hl : lv_has ls 3 [(0, .ref v), (1, .int (q_i v2_1))]), W p l e { frames := 2, cells := 0, slots := 0, locals := 42 } s m ([.ref v] : List Value).toArray below meth c H locs 0 0 (MQ below (q_Q g K L [(25, 3, 3)] f (q_Pv (fun (f1 : Nat → va_E) => True))) ([.ref v] : List Value).toArray s 0 0 (fun q => q ∈ L)) (F0 m 39 ls []) := by
        intro f39 buv2_1 H locs hB ls hl
        refine q_iinc (lv' := [(1, .int (q_i (v2_1 + 1))), (0, .ref v)]) cx dX10_loseMessages_39 hl (k := 1) rfl (by decide) rfl (fun ls hl => ?_)
        refine lv_goto (tgt := 2) cx.1 cx.2.1 dX10_loseMessages_42 (by decide) ?_
        exact ih2 f39 (v2_1 + 1) (by omega) (by omega) (by omega) H locs hB ls (lv_sub hl [1, 0] rfl)
      refine q_ild_n cx dX10_loseMessages_2 rfl (lv_at hl 1 rfl) ?_
      refine q_ald_n cx dX10_loseMessages_3 rfl (lv_at hl 0 rfl) ?_
      obtain ⟨x358, ex358⟩ : ∃ zz, q_is (q_z f2 v 5) zz := ⟨_, q_isr _⟩
      refine q_gX10_42_13 cx hB hv kv ex358 dX10_loseMessages_4 (fun lb359 ub359 => ?_)
      refine q_icge (tgt := 45) cx ⟨by omega, by omega⟩ ⟨by omega, by omega⟩ dX10_loseMessages_7 (by decide) (fun c360 => ?_) (fun c360 => ?_)
      · refine q_vret cx hr hlk hB dX10_loseMessages_45 ?_
        trivial
      · refine q_ald_n cx dX10_loseMessages_10 rfl (lv_at hl 0 rfl) ?_
        refine q_ild_n cx dX10_loseMessages_11 rfl (lv_at hl 1 rfl) ?_
        refine q_cVr (As := [.int (q_i v2_1)]) (rest := []) cx hB (fun _ h => h) hN hv kv (by decide) rfl (g_X10_messageAt_1 l g hN hB.2.1 v hv kv v2_1 (by omega) (by omega)) q_cX10_81 q_dX10_messageAt (by decide) rfl rfl hl.1 rfl (Nat.le_of_ble_eq_true rfl) dX10_loseMessages_12 (fun y362 H locs f361 h363 hF hB => ?_)
        obtain ⟨rfl, hy362, ky362⟩ := h363
        refine lv_astore_n (lv' := [(2, .ref y362), (0, .ref v), (1, .int (q_i v2_1))]) cx.1 cx.2.1 dX10_loseMessages_15 rfl hl (by decide) rfl (fun ls hl => ?_)
        refine q_ald_n cx dX10_loseMessages_16 rfl (lv_at hl 0 rfl) ?_
        obtain ⟨x364, ex364⟩ : ∃ zz, q_is (q_z f2 y362 3) zz := ⟨_, q_isr _⟩
        refine q_gX10_140_25 cx hB hy362 ky362 ex364 dX10_loseMessages_17 (fun lb365 ub365 => ?_)
        refine q_ifne (tgt := 39) cx ⟨by omega, by omega⟩ dX10_loseMessages_20 (by decide) (fun c366 => ?_) (fun c366 => ?_)
        · exact J39 f2 (by omega) H locs hB ls (lv_sub hl [1, 2] rfl)
        · refine q_ald_n cx dX10_loseMessages_23 rfl (lv_at hl 1 rfl) ?_
          refine q_ald_n cx dX10_loseMessages_24 rfl (lv_at hl 0 rfl) ?_
          obtain ⟨x367, ex367⟩ : ∃ zz, q_is (q_z f2 y362 2) zz := ⟨_, q_isr _⟩
          refine q_gX10_137_25 cx hB hy362 ky362 ex367 dX10_loseMessages_25 (fun lb368 ub368 => ?_)
          refine q_cVi (As := [.int (q_i x367)]) (rest := []) cx hB (fun _ h => h) hN hv kv (by decide) rfl (g_X10_isOut_1 l g hN hB.2.1 v hv kv x367 (by omega) (by omega)) q_cX10_160 q_dX10_isOut (by decide) rfl rfl hl.1 rfl (Nat.le_of_ble_eq_true rfl) dX10_loseMessages_28 (fun y370 H locs f369 ry370 h371 hF hB => ?_)
          obtain ⟨rfl, ly370, uy370⟩ := h371
          refine q_ifeq (tgt := 39) cx ⟨by omega, by omega⟩ dX10_loseMessages_31 (by decide) (fun c372 => ?_) (fun c372 => ?_)
          · exact J39 f2 (by omega) H locs hB ls (lv_sub hl [1, 2] rfl)
          · refine q_ald_n cx dX10_loseMessages_34 rfl (lv_at hl 0 rfl) ?_
            refine q_iconst cx dX10_loseMessages_35 ?_
            refine q_pX10_140_25 cx hB hy362 ky362 ⟨by decide, by decide⟩ (by decide) (by decide) rfl dX10_loseMessages_36 (fun H locs f373 ef373 z374 hB => ?_)
            exact J39 f373 (by omega) H locs hB ls (lv_sub hl [1, 2] rfl)
  obtain ⟨H, hH⟩ : ∃ H : Heap, H = s.heap := ⟨_, rfl⟩
  obtain ⟨locs, hlocs⟩ : ∃ z : List Loc, z = [] := ⟨_, rfl⟩
  rw [← hH, ← hlocs] at hB
  rw [← hH, ← hlocs]
  refine q_iconst cx dX10_loseMessages_0 ?_
  refine lv_istore_n (lv' := [(1, .int (q_i 0)), (0, .ref v)]) cx.1 cx.2.1 dX10_loseMessages_1 rfl hl (by decide) rfl (fun ls hl => ?_)
  exact J2 ((Int.toNat (2147483647 - 0)) + 1) f 0 (by decide) (by decide) (Nat.lt_succ_self _) H locs hB ls (lv_sub hl [1, 0] rfl)
set_option maxHeartbeats 4000000 in
set_option maxRecDepth 100000 in
theorem g_X10_loseMessages_2 (l : Launch) (g : q_G) {K : Nat → Nat} {L : List Nat} (hN : L.Nodup) {f : Nat → va_E} (hT : q_Ty g K L f) (v : Nat) (hv : v ∈ L) (kv : K v = 14) : q_Ct l g K L yX10_loseMessages cX10_loseMessages 3 none 2 42 [.ref v] f [(26, 3, 3)] (q_Pv (fun (f1 : Nat → va_E) => True)) := by
  refine q_ofb (by decide +kernel) hN hT (Nat.le_of_ble_eq_true rfl) ?_
  intro p e s m below meth c ls cx hr hlk hB hl
  have hl : lv_has ls 3 [(0, .ref v)] := hl
  have J2 : ∀ (n : Nat) (f2 : Nat → va_E) (v2_1 : Int) (lv2_1 : 0 ≤ v2_1) (uv2_1 : v2_1 ≤ 61) (hmu : (Int.toNat (2147483647 - v2_1)) < n) (H : Heap) (locs : List Loc) (hB : q_B g K L (fun q => q ∈ L) [(26, 3, 3)] f f2 s H locs) (ls : Array Slot) (hl : lv_has ls 3 [(0, .ref v), (1, .int (q_i v2_1))]), W p l e { frames := 2, cells := 0, slots := 0, locals := 42 } s m ([.ref v] : List Value).toArray below meth c H locs 0 0 (MQ below (q_Q g K L [(26, 3, 3)] f (q_Pv (fun (f1 : Nat → va_E) => True))) ([.ref v] : List Value).toArray s 0 0 (fun q => q ∈ L)) (F0 m 2 ls []) := by
    intro n
    induction n with
    | zero =>
      intro f2 v2_1 lv2_1 uv2_1 hmu
      exact absurd hmu (Nat.not_lt_zero _)
    | succ n ih2 =>
      intro f2 v2_1 lv2_1 uv2_1 hmu H locs hB ls hl
      have J39 : ∀ (f39 : Nat → va_E) (buv2_1 : v2_1 ≤ 60) (H : Heap) (locs : List Loc) (hB : q_B g K L (fun q => q ∈ L) [(26, 3, 3)] f f39 s H locs) (ls : Array Slot) (hl : lv_has ls 3 [(0, .ref v), (1, .int (q_i v2_1))]), W p l e { frames := 2, cells := 0, slots := 0, locals := 42 } s m ([.ref v] : List Value).toArray below meth c H locs 0 0 (MQ below (q_Q g K L [(26, 3, 3)] f (q_Pv (fun (f1 : Nat → va_E) => True))) ([.ref v] : List Value).toArray s 0 0 (fun q => q ∈ L)) (F0 m 39 ls []) := by
        intro f39 buv2_1 H locs hB ls hl
        refine q_iinc (lv' := [(1, .int (q_i (v2_1 + 1))), (0, .ref v)]) cx dX10_loseMessages_39 hl (k := 1) rfl (by decide) rfl (fun ls hl => ?_)
        refine lv_goto (tgt := 2) cx.1 cx.2.1 dX10_loseMessages_42 (by decide) ?_
        exact ih2 f39 (v2_1 + 1) (by omega) (by omega) (by omega) H locs hB ls (lv_sub hl [1, 0] rfl)
      refine q_ild_n cx dX10_loseMessages_2 rfl (lv_at hl 1 rfl) ?_
      refine q_ald_n cx dX10_loseMessages_3 rfl (lv_at hl 0 rfl) ?_
      obtain ⟨x358, ex358⟩ : ∃ zz, q_is (q_z f2 v 5) zz := ⟨_, q_isr _⟩
      refine q_gX10_42_14 cx hB hv kv ex358 dX10_loseMessages_4 (fun lb359 ub359 => ?_)
      refine q_icge (tgt := 45) cx ⟨by omega, by omega⟩ ⟨by omega, by omega⟩ dX10_loseMessages_7 (by decide) (fun c360 => ?_) (fun c360 => ?_)
      · refine q_vret cx hr hlk hB dX10_loseMessages_45 ?_
        trivial
      · refine q_ald_n cx dX10_loseMessages_10 rfl (lv_at hl 0 rfl) ?_
        refine q_ild_n cx dX10_loseMessages_11 rfl (lv_at hl 1 rfl) ?_
        refine q_cVr (As := [.int (q_i v2_1)]) (rest := []) cx hB (fun _ h => h) hN hv kv (by decide) rfl (g_X10_messageAt_2 l g hN hB.2.1 v hv kv v2_1 (by omega) (by omega)) q_cX10_81 q_dX10_messageAt (by decide) rfl rfl hl.1 rfl (Nat.le_of_ble_eq_true rfl) dX10_loseMessages_12 (fun y362 H locs f361 h363 hF hB => ?_)
        obtain ⟨rfl, hy362, ky362⟩ := h363
        refine lv_astore_n (lv' := [(2, .ref y362), (0, .ref v), (1, .int (q_i v2_1))]) cx.1 cx.2.1 dX10_loseMessages_15 rfl hl (by decide) rfl (fun ls hl => ?_)
        refine q_ald_n cx dX10_loseMessages_16 rfl (lv_at hl 0 rfl) ?_
        obtain ⟨x364, ex364⟩ : ∃ zz, q_is (q_z f2 y362 3) zz := ⟨_, q_isr _⟩
        refine q_gX10_140_26 cx hB hy362 ky362 ex364 dX10_loseMessages_17 (fun lb365 ub365 => ?_)
        refine q_ifne (tgt := 39) cx ⟨by omega, by omega⟩ dX10_loseMessages_20 (by decide) (fun c366 => ?_) (fun c366 => ?_)
        · exact J39 f2 (by omega) H locs hB ls (lv_sub hl [1, 2] rfl)
        · refine q_ald_n cx dX10_loseMessages_23 rfl (lv_at hl 1 rfl) ?_
          refine q_ald_n cx dX10_loseMessages_24 rfl (lv_at hl 0 rfl) ?_
          obtain ⟨x367, ex367⟩ : ∃ zz, q_is (q_z f2 y362 2) zz := ⟨_, q_isr _⟩
          refine q_gX10_137_26 cx hB hy362 ky362 ex367 dX10_loseMessages_25 (fun lb368 ub368 => ?_)
          refine q_cVi (As := [.int (q_i x367)]) (rest := []) cx hB (fun _ h => h) hN hv kv (by decide) rfl (g_X10_isOut_2 l g hN hB.2.1 v hv kv x367 (by omega) (by omega)) q_cX10_160 q_dX10_isOut (by decide) rfl rfl hl.1 rfl (Nat.le_of_ble_eq_true rfl) dX10_loseMessages_28 (fun y370 H locs f369 ry370 h371 hF hB => ?_)
          obtain ⟨rfl, ly370, uy370⟩ := h371
          refine q_ifeq (tgt := 39) cx ⟨by omega, by omega⟩ dX10_loseMessages_31 (by decide) (fun c372 => ?_) (fun c372 => ?_)
          · exact J39 f2 (by omega) H locs hB ls (lv_sub hl [1, 2] rfl)
          · refine q_ald_n cx dX10_loseMessages_34 rfl (lv_at hl 0 rfl) ?_
            refine q_iconst cx dX10_loseMessages_35 ?_
            refine q_pX10_140_26 cx hB hy362 ky362 ⟨by decide, by decide⟩ (by decide) (by decide) rfl dX10_loseMessages_36 (fun H locs f373 ef373 z374 hB => ?_)
            exact J39 f373 (by omega) H locs hB ls (lv_sub hl [1, 2] rfl)
  obtain ⟨H, hH⟩ : ∃ H : Heap, H = s.heap := ⟨_, rfl⟩
  obtain ⟨locs, hlocs⟩ : ∃ z : List Loc, z = [] := ⟨_, rfl⟩
  rw [← hH, ← hlocs] at hB
  rw [← hH, ← hlocs]
  refine q_iconst cx dX10_loseMessages_0 ?_
  refine lv_istore_n (lv' := [(1, .int (q_i 0)), (0, .ref v)]) cx.1 cx.2.1 dX10_loseMessages_1 rfl hl (by decide) rfl (fun ls hl => ?_)
  exact J2 ((Int.toNat (2147483647 - 0)) + 1) f 0 (by decide) (by decide) (Nat.lt_succ_self _) H locs hB ls (lv_sub hl [1, 0] rfl)
set_option maxHeartbeats 4000000 in
set_option maxRecDepth 100000 in
theorem g_X10_loseMessages_3 (l : Launch) (g : q_G) {K : Nat → Nat} {L : List Nat} (hN : L.Nodup) {f : Nat → va_E} (hT : q_Ty g K L f) (v : Nat) (hv : v ∈ L) (kv : K v = 15) : q_Ct l g K L yX10_loseMessages cX10_loseMessages 3 none 2 42 [.ref v] f [(27, 3, 3)] (q_Pv (fun (f1 : Nat → va_E) => True)) := by
  refine q_ofb (by decide +kernel) hN hT (Nat.le_of_ble_eq_true rfl) ?_
  intro p e s m below meth c ls cx hr hlk hB hl
  have hl : lv_has ls 3 [(0, .ref v)] := hl
  have J2 : ∀ (n : Nat) (f2 : Nat → va_E) (v2_1 : Int) (lv2_1 : 0 ≤ v2_1) (uv2_1 : v2_1 ≤ 61) (hmu : (Int.toNat (2147483647 - v2_1)) < n) (H : Heap) (locs : List Loc) (hB : q_B g K L (fun q => q ∈ L) [(27, 3, 3)] f f2 s H locs) (ls : Array Slot) (hl : lv_has ls 3 [(0, .ref v), (1, .int (q_i v2_1))]), W p l e { frames := 2, cells := 0, slots := 0, locals := 42 } s m ([.ref v] : List Value).toArray below meth c H locs 0 0 (MQ below (q_Q g K L [(27, 3, 3)] f (q_Pv (fun (f1 : Nat → va_E) => True))) ([.ref v] : List Value).toArray s 0 0 (fun q => q ∈ L)) (F0 m 2 ls []) := by
    intro n
    induction n with
    | zero =>
      intro f2 v2_1 lv2_1 uv2_1 hmu
      exact absurd hmu (Nat.not_lt_zero _)
    | succ n ih2 =>
      intro f2 v2_1 lv2_1 uv2_1 hmu H locs hB ls hl
      have J39 : ∀ (f39 : Nat → va_E) (buv2_1 : v2_1 ≤ 60) (H : Heap) (locs : List Loc) (hB : q_B g K L (fun q => q ∈ L) [(27, 3, 3)] f f39 s H locs) (ls : Array Slot) (hl : lv_has ls 3 [(0, .ref v), (1, .int (q_i v2_1))]), W p l e { frames := 2, cells := 0, slots := 0, locals := 42 } s m ([.ref v] : List Value).toArray below meth c H locs 0 0 (MQ below (q_Q g K L [(27, 3, 3)] f (q_Pv (fun (f1 : Nat → va_E) => True))) ([.ref v] : List Value).toArray s 0 0 (fun q => q ∈ L)) (F0 m 39 ls []) := by
        intro f39 buv2_1 H locs hB ls hl
        refine q_iinc (lv' := [(1, .int (q_i (v2_1 + 1))), (0, .ref v)]) cx dX10_loseMessages_39 hl (k := 1) rfl (by decide) rfl (fun ls hl => ?_)
        refine lv_goto (tgt := 2) cx.1 cx.2.1 dX10_loseMessages_42 (by decide) ?_
        exact ih2 f39 (v2_1 + 1) (by omega) (by omega) (by omega) H locs hB ls (lv_sub hl [1, 0] rfl)
      refine q_ild_n cx dX10_loseMessages_2 rfl (lv_at hl 1 rfl) ?_
      refine q_ald_n cx dX10_loseMessages_3 rfl (lv_at hl 0 rfl) ?_
      obtain ⟨x358, ex358⟩ : ∃ zz, q_is (q_z f2 v 5) zz := ⟨_, q_isr _⟩
      refine q_gX10_42_15 cx hB hv kv ex358 dX10_loseMessages_4 (fun lb359 ub359 => ?_)
      refine q_icge (tgt := 45) cx ⟨by omega, by omega⟩ ⟨by omega, by omega⟩ dX10_loseMessages_7 (by decide) (fun c360 => ?_) (fun c360 => ?_)
      · refine q_vret cx hr hlk hB dX10_loseMessages_45 ?_
        trivial
      · refine q_ald_n cx dX10_loseMessages_10 rfl (lv_at hl 0 rfl) ?_
        refine q_ild_n cx dX10_loseMessages_11 rfl (lv_at hl 1 rfl) ?_
        refine q_cVr (As := [.int (q_i v2_1)]) (rest := []) cx hB (fun _ h => h) hN hv kv (by decide) rfl (g_X10_messageAt_3 l g hN hB.2.1 v hv kv v2_1 (by omega) (by omega)) q_cX10_81 q_dX10_messageAt (by decide) rfl rfl hl.1 rfl (Nat.le_of_ble_eq_true rfl) dX10_loseMessages_12 (fun y362 H locs f361 h363 hF hB => ?_)
        obtain ⟨rfl, hy362, ky362⟩ := h363
        refine lv_astore_n (lv' := [(2, .ref y362), (0, .ref v), (1, .int (q_i v2_1))]) cx.1 cx.2.1 dX10_loseMessages_15 rfl hl (by decide) rfl (fun ls hl => ?_)
        refine q_ald_n cx dX10_loseMessages_16 rfl (lv_at hl 0 rfl) ?_
        obtain ⟨x364, ex364⟩ : ∃ zz, q_is (q_z f2 y362 3) zz := ⟨_, q_isr _⟩
        refine q_gX10_140_27 cx hB hy362 ky362 ex364 dX10_loseMessages_17 (fun lb365 ub365 => ?_)
        refine q_ifne (tgt := 39) cx ⟨by omega, by omega⟩ dX10_loseMessages_20 (by decide) (fun c366 => ?_) (fun c366 => ?_)
        · exact J39 f2 (by omega) H locs hB ls (lv_sub hl [1, 2] rfl)
        · refine q_ald_n cx dX10_loseMessages_23 rfl (lv_at hl 1 rfl) ?_
          refine q_ald_n cx dX10_loseMessages_24 rfl (lv_at hl 0 rfl) ?_
          obtain ⟨x367, ex367⟩ : ∃ zz, q_is (q_z f2 y362 2) zz := ⟨_, q_isr _⟩
          refine q_gX10_137_27 cx hB hy362 ky362 ex367 dX10_loseMessages_25 (fun lb368 ub368 => ?_)
          refine q_cVi (As := [.int (q_i x367)]) (rest := []) cx hB (fun _ h => h) hN hv kv (by decide) rfl (g_X10_isOut_3 l g hN hB.2.1 v hv kv x367 (by omega) (by omega)) q_cX10_160 q_dX10_isOut (by decide) rfl rfl hl.1 rfl (Nat.le_of_ble_eq_true rfl) dX10_loseMessages_28 (fun y370 H locs f369 ry370 h371 hF hB => ?_)
          obtain ⟨rfl, ly370, uy370⟩ := h371
          refine q_ifeq (tgt := 39) cx ⟨by omega, by omega⟩ dX10_loseMessages_31 (by decide) (fun c372 => ?_) (fun c372 => ?_)
          · exact J39 f2 (by omega) H locs hB ls (lv_sub hl [1, 2] rfl)
          · refine q_ald_n cx dX10_loseMessages_34 rfl (lv_at hl 0 rfl) ?_
            refine q_iconst cx dX10_loseMessages_35 ?_
            refine q_pX10_140_27 cx hB hy362 ky362 ⟨by decide, by decide⟩ (by decide) (by decide) rfl dX10_loseMessages_36 (fun H locs f373 ef373 z374 hB => ?_)
            exact J39 f373 (by omega) H locs hB ls (lv_sub hl [1, 2] rfl)
  obtain ⟨H, hH⟩ : ∃ H : Heap, H = s.heap := ⟨_, rfl⟩
  obtain ⟨locs, hlocs⟩ : ∃ z : List Loc, z = [] := ⟨_, rfl⟩
  rw [← hH, ← hlocs] at hB
  rw [← hH, ← hlocs]
  refine q_iconst cx dX10_loseMessages_0 ?_
  refine lv_istore_n (lv' := [(1, .int (q_i 0)), (0, .ref v)]) cx.1 cx.2.1 dX10_loseMessages_1 rfl hl (by decide) rfl (fun ls hl => ?_)
  exact J2 ((Int.toNat (2147483647 - 0)) + 1) f 0 (by decide) (by decide) (Nat.lt_succ_self _) H locs hB ls (lv_sub hl [1, 0] rfl)
set_option maxHeartbeats 4000000 in
set_option maxRecDepth 100000 in
theorem g_X10_loseMessages_4 (l : Launch) (g : q_G) {K : Nat → Nat} {L : List Nat} (hN : L.Nodup) {f : Nat → va_E} (hT : q_Ty g K L f) (v : Nat) (hv : v ∈ L) (kv : K v = 16) : q_Ct l g K L yX10_loseMessages cX10_loseMessages 3 none 2 42 [.ref v] f [(28, 3, 3)] (q_Pv (fun (f1 : Nat → va_E) => True)) := by
  refine q_ofb (by decide +kernel) hN hT (Nat.le_of_ble_eq_true rfl) ?_
  intro p e s m below meth c ls cx hr hlk hB hl
  have hl : lv_has ls 3 [(0, .ref v)] := hl
  have J2 : ∀ (n : Nat) (f2 : Nat → va_E) (v2_1 : Int) (lv2_1 : 0 ≤ v2_1) (uv2_1 : v2_1 ≤ 61) (hmu : (Int.toNat (2147483647 - v2_1)) < n) (H : Heap) (locs : List Loc) (hB : q_B g K L (fun q => q ∈ L) [(28, 3, 3)] f f2 s H locs) (ls : Array Slot) (hl : lv_has ls 3 [(0, .ref v), (1, .int (q_i v2_1))]), W p l e { frames := 2, cells := 0, slots := 0, locals := 42 } s m ([.ref v] : List Value).toArray below meth c H locs 0 0 (MQ below (q_Q g K L [(28, 3, 3)] f (q_Pv (fun (f1 : Nat → va_E) => True))) ([.ref v] : List Value).toArray s 0 0 (fun q => q ∈ L)) (F0 m 2 ls []) := by
    intro n
    induction n with
    | zero =>
      intro f2 v2_1 lv2_1 uv2_1 hmu
      exact absurd hmu (Nat.not_lt_zero _)
    | succ n ih2 =>
      intro f2 v2_1 lv2_1 uv2_1 hmu H locs hB ls hl
      have J39 : ∀ (f39 : Nat → va_E) (buv2_1 : v2_1 ≤ 60) (H : Heap) (locs : List Loc) (hB : q_B g K L (fun q => q ∈ L) [(28, 3, 3)] f f39 s H locs) (ls : Array Slot) (hl : lv_has ls 3 [(0, .ref v), (1, .int (q_i v2_1))]), W p l e { frames := 2, cells := 0, slots := 0, locals := 42 } s m ([.ref v] : List Value).toArray below meth c H locs 0 0 (MQ below (q_Q g K L [(28, 3, 3)] f (q_Pv (fun (f1 : Nat → va_E) => True))) ([.ref v] : List Value).toArray s 0 0 (fun q => q ∈ L)) (F0 m 39 ls []) := by
        intro f39 buv2_1 H locs hB ls hl
        refine q_iinc (lv' := [(1, .int (q_i (v2_1 + 1))), (0, .ref v)]) cx dX10_loseMessages_39 hl (k := 1) rfl (by decide) rfl (fun ls hl => ?_)
        refine lv_goto (tgt := 2) cx.1 cx.2.1 dX10_loseMessages_42 (by decide) ?_
        exact ih2 f39 (v2_1 + 1) (by omega) (by omega) (by omega) H locs hB ls (lv_sub hl [1, 0] rfl)
      refine q_ild_n cx dX10_loseMessages_2 rfl (lv_at hl 1 rfl) ?_
      refine q_ald_n cx dX10_loseMessages_3 rfl (lv_at hl 0 rfl) ?_
      obtain ⟨x358, ex358⟩ : ∃ zz, q_is (q_z f2 v 5) zz := ⟨_, q_isr _⟩
      refine q_gX10_42_16 cx hB hv kv ex358 dX10_loseMessages_4 (fun lb359 ub359 => ?_)
      refine q_icge (tgt := 45) cx ⟨by omega, by omega⟩ ⟨by omega, by omega⟩ dX10_loseMessages_7 (by decide) (fun c360 => ?_) (fun c360 => ?_)
      · refine q_vret cx hr hlk hB dX10_loseMessages_45 ?_
        trivial
      · refine q_ald_n cx dX10_loseMessages_10 rfl (lv_at hl 0 rfl) ?_
        refine q_ild_n cx dX10_loseMessages_11 rfl (lv_at hl 1 rfl) ?_
        refine q_cVr (As := [.int (q_i v2_1)]) (rest := []) cx hB (fun _ h => h) hN hv kv (by decide) rfl (g_X10_messageAt_4 l g hN hB.2.1 v hv kv v2_1 (by omega) (by omega)) q_cX10_81 q_dX10_messageAt (by decide) rfl rfl hl.1 rfl (Nat.le_of_ble_eq_true rfl) dX10_loseMessages_12 (fun y362 H locs f361 h363 hF hB => ?_)
        obtain ⟨rfl, hy362, ky362⟩ := h363
        refine lv_astore_n (lv' := [(2, .ref y362), (0, .ref v), (1, .int (q_i v2_1))]) cx.1 cx.2.1 dX10_loseMessages_15 rfl hl (by decide) rfl (fun ls hl => ?_)
        refine q_ald_n cx dX10_loseMessages_16 rfl (lv_at hl 0 rfl) ?_
        obtain ⟨x364, ex364⟩ : ∃ zz, q_is (q_z f2 y362 3) zz := ⟨_, q_isr _⟩
        refine q_gX10_140_28 cx hB hy362 ky362 ex364 dX10_loseMessages_17 (fun lb365 ub365 => ?_)
        refine q_ifne (tgt := 39) cx ⟨by omega, by omega⟩ dX10_loseMessages_20 (by decide) (fun c366 => ?_) (fun c366 => ?_)
        · exact J39 f2 (by omega) H locs hB ls (lv_sub hl [1, 2] rfl)
        · refine q_ald_n cx dX10_loseMessages_23 rfl (lv_at hl 1 rfl) ?_
          refine q_ald_n cx dX10_loseMessages_24 rfl (lv_at hl 0 rfl) ?_
          obtain ⟨x367, ex367⟩ : ∃ zz, q_is (q_z f2 y362 2) zz := ⟨_, q_isr _⟩
          refine q_gX10_137_28 cx hB hy362 ky362 ex367 dX10_loseMessages_25 (fun lb368 ub368 => ?_)
          refine q_cVi (As := [.int (q_i x367)]) (rest := []) cx hB (fun _ h => h) hN hv kv (by decide) rfl (g_X10_isOut_4 l g hN hB.2.1 v hv kv x367 (by omega) (by omega)) q_cX10_160 q_dX10_isOut (by decide) rfl rfl hl.1 rfl (Nat.le_of_ble_eq_true rfl) dX10_loseMessages_28 (fun y370 H locs f369 ry370 h371 hF hB => ?_)
          obtain ⟨rfl, ly370, uy370⟩ := h371
          refine q_ifeq (tgt := 39) cx ⟨by omega, by omega⟩ dX10_loseMessages_31 (by decide) (fun c372 => ?_) (fun c372 => ?_)
          · exact J39 f2 (by omega) H locs hB ls (lv_sub hl [1, 2] rfl)
          · refine q_ald_n cx dX10_loseMessages_34 rfl (lv_at hl 0 rfl) ?_
            refine q_iconst cx dX10_loseMessages_35 ?_
            refine q_pX10_140_28 cx hB hy362 ky362 ⟨by decide, by decide⟩ (by decide) (by decide) rfl dX10_loseMessages_36 (fun H locs f373 ef373 z374 hB => ?_)
            exact J39 f373 (by omega) H locs hB ls (lv_sub hl [1, 2] rfl)
  obtain ⟨H, hH⟩ : ∃ H : Heap, H = s.heap := ⟨_, rfl⟩
  obtain ⟨locs, hlocs⟩ : ∃ z : List Loc, z = [] := ⟨_, rfl⟩
  rw [← hH, ← hlocs] at hB
  rw [← hH, ← hlocs]
  refine q_iconst cx dX10_loseMessages_0 ?_
  refine lv_istore_n (lv' := [(1, .int (q_i 0)), (0, .ref v)]) cx.1 cx.2.1 dX10_loseMessages_1 rfl hl (by decide) rfl (fun ls hl => ?_)
  exact J2 ((Int.toNat (2147483647 - 0)) + 1) f 0 (by decide) (by decide) (Nat.lt_succ_self _) H locs hB ls (lv_sub hl [1, 0] rfl)
set_option maxHeartbeats 4000000 in
set_option maxRecDepth 100000 in
theorem g_X10_passTicks (l : Launch) (g : q_G) {K : Nat → Nat} {L : List Nat} (hN : L.Nodup) {f : Nat → va_E} (hT : q_Ty g K L f) (v : Nat) (hv : v ∈ L) (kv : K v = 10) (p0 : Int) (lp0 : (-2147483648) ≤ p0) (up0 : p0 ≤ 2147483647) : q_Ct l g K L yX10_passTicks cX10_passTicks 5 (some .int) 4 101 [.ref v, .int (q_i p0)] f [(3, 2, 4), (4, 2, 3), (4, 5, 6), (5, 3, 4), (5, 6, 9), (10, 11, 15)] (q_Pi (fun (z : Int) (f1 : Nat → va_E) => True)) := by
  refine q_ofb (by decide +kernel) hN hT (Nat.le_of_ble_eq_true rfl) ?_
  intro p e s m below meth c ls cx hr hlk hB hl
  have hl : lv_has ls 5 [(0, .ref v), (1, .int (q_i p0))] := hl
  have J4 : ∀ (n : Nat) (f4 : Nat → va_E) (v4_2 : Int) (lv4_2 : (-2147483648) ≤ v4_2) (uv4_2 : v4_2 ≤ 2147483647) (v4_3 : Int) (lv4_3 : 0 ≤ v4_3) (uv4_3 : v4_3 ≤ 2147483647) (hmu : (Int.toNat (2147483647 - v4_3)) < n) (H : Heap) (locs : List Loc) (hB : q_B g K L (fun q => q ∈ L) [(3, 2, 4), (4, 2, 3), (4, 5, 6), (5, 3, 4), (5, 6, 9), (10, 11, 15)] f f4 s H locs) (ls : Array Slot) (hl : lv_has ls 5 [(0, .ref v), (1, .int (q_i p0)), (2, .int (q_i v4_2)), (3, .int (q_i v4_3))]), W p l e { frames := 4, cells := 0, slots := 0, locals := 101 } s m ([.ref v, .int (q_i p0)] : List Value).toArray below meth c H locs 0 0 (MQ below (q_Q g K L [(3, 2, 4), (4, 2, 3), (4, 5, 6), (5, 3, 4), (5, 6, 9), (10, 11, 15)] f (q_Pi (fun (z : Int) (f1 : Nat → va_E) => True))) ([.ref v, .int (q_i p0)] : List Value).toArray s 0 0 (fun q => q ∈ L)) (F0 m 4 ls []) := by
    intro n
    induction n with
    | zero =>
      intro f4 v4_2 lv4_2 uv4_2 v4_3 lv4_3 uv4_3 hmu
      exact absurd hmu (Nat.not_lt_zero _)
    | succ n ih4 =>
      intro f4 v4_2 lv4_2 uv4_2 v4_3 lv4_3 uv4_3 hmu H locs hB ls hl
      have J26 : ∀ (n : Nat) (f26 : Nat → va_E) (v26_4 : Int) (lv26_4 : 0 ≤ v26_4) (uv26_4 : v26_4 ≤ 16) (blp0 : 1 ≤ p0) (buv4_3 : v4_3 ≤ 2147483646) (hmu : (Int.toNat (2147483647 - v26_4)) < n) (H : Heap) (locs : List Loc) (hB : q_B g K L (fun q => q ∈ L) [(3, 2, 4), (4, 2, 3), (4, 5, 6), (5, 3, 4), (5, 6, 9), (10, 11, 15)] f f26 s H locs) (ls : Array Slot) (hl : lv_has ls 5 [(0, .ref v), (1, .int (q_i p0)), (2, .int (q_i v4_2)), (3, .int (q_i v4_3)), (4, .int (q_i v26_4))]), W p l e { frames := 4, cells := 0, slots := 0, locals := 101 } s m ([.ref v, .int (q_i p0)] : List Value).toArray below meth c H locs 0 0 (MQ below (q_Q g K L [(3, 2, 4), (4, 2, 3), (4, 5, 6), (5, 3, 4), (5, 6, 9), (10, 11, 15)] f (q_Pi (fun (z : Int) (f1 : Nat → va_E) => True))) ([.ref v, .int (q_i p0)] : List Value).toArray s 0 0 (fun q => q ∈ L)) (F0 m 26 ls []) := by
        intro n
        induction n with
        | zero =>
          intro f26 v26_4 lv26_4 uv26_4 blp0 buv4_3 hmu
          exact absurd hmu (Nat.not_lt_zero _)
        | succ n ih26 =>
          intro f26 v26_4 lv26_4 uv26_4 blp0 buv4_3 hmu H locs hB ls hl
          refine lv_iload cx.1 cx.2.1 dX10_passTicks_26 (lv_at hl 4 rfl) ?_
          refine q_ald_n cx dX10_passTicks_28 rfl (lv_at hl 0 rfl) ?_
          obtain ⟨x1155, ex1155⟩ : ∃ zz, q_is (q_z f26 v 4) zz := ⟨_, q_isr _⟩
          refine q_gX10_39 cx hB hv kv ex1155 dX10_passTicks_29 (fun lb1156 ub1156 => ?_)
          refine q_icge (tgt := 51) cx ⟨by omega, by omega⟩ ⟨by omega, by omega⟩ dX10_passTicks_32 (by decide) (fun c1157 => ?_) (fun c1157 => ?_)
          · refine q_ald_n cx dX10_passTicks_51 rfl (lv_at hl 0 rfl) ?_
            refine q_iconst cx dX10_passTicks_52 ?_
            refine q_pX10_249 cx hB hv kv ⟨by decide, by decide⟩ (by decide) (by decide) rfl dX10_passTicks_53 (fun H locs f1158 ef1158 z1159 hB => ?_)
            refine q_ald_n cx dX10_passTicks_56 rfl (lv_at hl 0 rfl) ?_
            refine q_iconst cx dX10_passTicks_57 ?_
            refine q_pX10_252 cx hB hv kv ⟨by decide, by decide⟩ (by decide) (by decide) rfl dX10_passTicks_58 (fun H locs f1160 ef1160 z1161 hB => ?_)
            refine q_ild_n cx dX10_passTicks_61 rfl (lv_at hl 2 rfl) ?_
            refine q_ald_n cx dX10_passTicks_62 rfl (lv_at hl 0 rfl) ?_
            refine q_iconst cx dX10_passTicks_63 ?_
            refine q_cVi (As := [.int (q_i 1)]) (rest := [.int (q_i v4_2)]) cx hB (fun _ h => h) hN hv kv (by decide) rfl (g_X10_passMessages l g hN hB.2.1 v hv kv 1 (by decide) (by decide)) q_cX10_255 q_dX10_passMessages (by decide) rfl rfl hl.1 rfl (Nat.le_of_ble_eq_true rfl) dX10_passTicks_64 (fun y1163 H locs f1162 ry1163 h1164 hF hB => ?_)
            refine q_ald_n cx dX10_passTicks_67 rfl (lv_at hl 0 rfl) ?_
            refine q_iconst cx dX10_passTicks_68 ?_
            refine q_cVi (As := [.int (q_i 0)]) (rest := [.int (q_i y1163), .int (q_i v4_2)]) cx hB (fun _ h => h) hN hv kv (by decide) rfl (g_X10_passMessages l g hN hB.2.1 v hv kv 0 (by decide) (by decide)) q_cX10_255 q_dX10_passMessages (by decide) rfl rfl hl.1 rfl (Nat.le_of_ble_eq_true rfl) dX10_passTicks_69 (fun y1166 H locs f1165 ry1166 h1167 hF hB => ?_)
            refine q_iadd cx dX10_passTicks_72 ?_
            refine q_any (fun y1168 ry1168 ey1168 => ?_)
            refine q_iadd cx dX10_passTicks_73 ?_
            refine q_any (fun y1169 ry1169 ey1169 => ?_)
            refine lv_istore_n (lv' := [(2, .int (q_i y1169)), (0, .ref v), (1, .int (q_i p0)), (3, .int (q_i v4_3)), (4, .int (q_i v26_4))]) cx.1 cx.2.1 dX10_passTicks_74 rfl hl (by decide) rfl (fun ls hl => ?_)
            refine q_ald_n cx dX10_passTicks_75 rfl (lv_at hl 1 rfl) ?_
            refine q_cVv (As := []) (rest := []) cx hB (fun _ h => h) hN hv kv (by decide) rfl (g_X10_loseMessages l g hN hB.2.1 v hv kv) q_cX10_259 q_dX10_loseMessages (by decide) rfl rfl hl.1 rfl (Nat.le_of_ble_eq_true rfl) dX10_passTicks_76 (fun H locs f1170 h1172 hF hB => ?_)
            refine q_iinc (lv' := [(3, .int (q_i (v4_3 + 1))), (2, .int (q_i y1169)), (0, .ref v), (1, .int (q_i p0)), (4, .int (q_i v26_4))]) cx dX10_passTicks_79 hl (k := 3) rfl (by decide) rfl (fun ls hl => ?_)
            refine lv_goto (tgt := 4) cx.1 cx.2.1 dX10_passTicks_82 (by decide) ?_
            exact ih4 f1170 y1169 (by omega) (by omega) (v4_3 + 1) (by omega) (by omega) (by omega) H locs hB ls (lv_sub hl [2, 3, 1, 0] rfl)
          · refine q_ald_n cx dX10_passTicks_35 rfl (lv_at hl 0 rfl) ?_
            refine q_ald_n cx dX10_passTicks_36 rfl (lv_at hl 0 rfl) ?_
            refine lv_iload cx.1 cx.2.1 dX10_passTicks_37 (lv_at hl 4 rfl) ?_
            refine q_cVr (As := [.int (q_i v26_4)]) (rest := [.ref v]) cx hB (fun _ h => h) hN hv kv (by decide) rfl (g_X10_linkAt l g hN hB.2.1 v hv kv v26_4 (by omega) (by omega)) q_cX10_74 q_dX10_linkAt (by decide) rfl rfl hl.1 rfl (Nat.le_of_ble_eq_true rfl) dX10_passTicks_39 (fun y1174 H locs f1173 h1175 hF hB => ?_)
            obtain ⟨rfl, hy1174, ky1174⟩ := h1175
            refine q_cVv (As := [.ref y1174]) (rest := []) cx hB (fun _ h => h) hN hv kv (by decide) rfl (g_X10_meetOrMiss l g hN hB.2.1 v hv kv y1174 hy1174 ky1174) q_cX10_246 q_dX10_meetOrMiss (by decide) rfl rfl hl.1 rfl (Nat.le_of_ble_eq_true rfl) dX10_passTicks_42 (fun H locs f1176 h1178 hF hB => ?_)
            refine q_iinc (lv' := [(4, .int (q_i (v26_4 + 1))), (0, .ref v), (1, .int (q_i p0)), (2, .int (q_i v4_2)), (3, .int (q_i v4_3))]) cx dX10_passTicks_45 hl (k := 4) rfl (by decide) rfl (fun ls hl => ?_)
            refine lv_goto (tgt := 26) cx.1 cx.2.1 dX10_passTicks_48 (by decide) ?_
            exact ih26 f1176 (v26_4 + 1) (by omega) (by omega) (by omega) (by omega) (by omega) H locs hB ls (lv_sub hl [1, 2, 3, 4, 0] rfl)
      refine q_ild_n cx dX10_passTicks_4 rfl (lv_at hl 3 rfl) ?_
      refine q_ild_n cx dX10_passTicks_5 rfl (lv_at hl 1 rfl) ?_
      refine q_icge (tgt := 85) cx ⟨by omega, by omega⟩ ⟨by omega, by omega⟩ dX10_passTicks_6 (by decide) (fun c1179 => ?_) (fun c1179 => ?_)
      · refine q_ild_n cx dX10_passTicks_85 rfl (lv_at hl 2 rfl) ?_
        refine q_iret cx hr hlk hB dX10_passTicks_86 ⟨by omega, by omega⟩ ?_
        trivial
      · refine q_ald_n cx dX10_passTicks_9 rfl (lv_at hl 0 rfl) ?_
        refine lv_dup cx.1 cx.2.1 dX10_passTicks_10 rfl ?_
        obtain ⟨x1180, ex1180⟩ : ∃ zz, q_is (q_z f4 v 11) zz := ⟨_, q_isr _⟩
        refine q_gX10_60 cx hB hv kv ex1180 dX10_passTicks_11 (fun lb1181 ub1181 => ?_)
        refine q_iconst cx dX10_passTicks_14 ?_
        refine q_iadd cx dX10_passTicks_15 ?_
        refine q_any (fun y1182 ry1182 ey1182 => ?_)
        refine q_pX10_60 cx hB hv kv ⟨by omega, by omega⟩ (by omega) (by omega) rfl dX10_passTicks_16 (fun H locs f1183 ef1183 z1184 hB => ?_)
        refine q_ald_n cx dX10_passTicks_19 rfl (lv_at hl 0 rfl) ?_
        refine q_cVv (As := []) (rest := []) cx hB (fun _ h => h) hN hv kv (by decide) rfl (g_X10_wakeNodes l g hN hB.2.1 v hv kv) q_cX10_243 q_dX10_wakeNodes (by decide) rfl rfl hl.1 rfl (Nat.le_of_ble_eq_true rfl) dX10_passTicks_20 (fun H locs f1185 h1187 hF hB => ?_)
        refine q_iconst cx dX10_passTicks_23 ?_
        refine lv_istore (lv' := [(4, .int (q_i 0)), (0, .ref v), (1, .int (q_i p0)), (2, .int (q_i v4_2)), (3, .int (q_i v4_3))]) cx.1 cx.2.1 dX10_passTicks_24 hl (by decide) rfl (fun ls hl => ?_)
        exact J26 ((Int.toNat (2147483647 - 0)) + 1) f1185 0 (by decide) (by decide) (by omega) (by omega) (Nat.lt_succ_self _) H locs hB ls (lv_sub hl [1, 2, 3, 4, 0] rfl)
  obtain ⟨H, hH⟩ : ∃ H : Heap, H = s.heap := ⟨_, rfl⟩
  obtain ⟨locs, hlocs⟩ : ∃ z : List Loc, z = [] := ⟨_, rfl⟩
  rw [← hH, ← hlocs] at hB
  rw [← hH, ← hlocs]
  refine q_iconst cx dX10_passTicks_0 ?_
  refine lv_istore_n (lv' := [(2, .int (q_i 0)), (0, .ref v), (1, .int (q_i p0))]) cx.1 cx.2.1 dX10_passTicks_1 rfl hl (by decide) rfl (fun ls hl => ?_)
  refine q_iconst cx dX10_passTicks_2 ?_
  refine lv_istore_n (lv' := [(3, .int (q_i 0)), (2, .int (q_i 0)), (0, .ref v), (1, .int (q_i p0))]) cx.1 cx.2.1 dX10_passTicks_3 rfl hl (by decide) rfl (fun ls hl => ?_)
  exact J4 ((Int.toNat (2147483647 - 0)) + 1) f 0 (by decide) (by decide) 0 (by decide) (by decide) (Nat.lt_succ_self _) H locs hB ls (lv_sub hl [2, 3, 1, 0] rfl)
set_option maxHeartbeats 4000000 in
set_option maxRecDepth 100000 in
theorem g_X10_passTicks_1 (l : Launch) (g : q_G) {K : Nat → Nat} {L : List Nat} (hN : L.Nodup) {f : Nat → va_E} (hT : q_Ty g K L f) (v : Nat) (hv : v ∈ L) (kv : K v = 13) (p0 : Int) (lp0 : (-2147483648) ≤ p0) (up0 : p0 ≤ 2147483647) : q_Ct l g K L yX10_passTicks cX10_passTicks 5 (some .int) 4 101 [.ref v, .int (q_i p0)] f [(13, 11, 15), (17, 3, 4), (17, 6, 9), (21, 2, 4), (25, 2, 3), (25, 5, 6)] (q_Pi (fun (z : Int) (f1 : Nat → va_E) => True)) := by
  refine q_ofb (by decide +kernel) hN hT (Nat.le_of_ble_eq_true rfl) ?_
  intro p e s m below meth c ls cx hr hlk hB hl
  have hl : lv_has ls 5 [(0, .ref v), (1, .int (q_i p0))] := hl
  have J4 : ∀ (n : Nat) (f4 : Nat → va_E) (v4_2 : Int) (lv4_2 : (-2147483648) ≤ v4_2) (uv4_2 : v4_2 ≤ 2147483647) (v4_3 : Int) (lv4_3 : 0 ≤ v4_3) (uv4_3 : v4_3 ≤ 2147483647) (hmu : (Int.toNat (2147483647 - v4_3)) < n) (H : Heap) (locs : List Loc) (hB : q_B g K L (fun q => q ∈ L) [(13, 11, 15), (17, 3, 4), (17, 6, 9), (21, 2, 4), (25, 2, 3), (25, 5, 6)] f f4 s H locs) (ls : Array Slot) (hl : lv_has ls 5 [(0, .ref v), (1, .int (q_i p0)), (2, .int (q_i v4_2)), (3, .int (q_i v4_3))]), W p l e { frames := 4, cells := 0, slots := 0, locals := 101 } s m ([.ref v, .int (q_i p0)] : List Value).toArray below meth c H locs 0 0 (MQ below (q_Q g K L [(13, 11, 15), (17, 3, 4), (17, 6, 9), (21, 2, 4), (25, 2, 3), (25, 5, 6)] f (q_Pi (fun (z : Int) (f1 : Nat → va_E) => True))) ([.ref v, .int (q_i p0)] : List Value).toArray s 0 0 (fun q => q ∈ L)) (F0 m 4 ls []) := by
    intro n
    induction n with
    | zero =>
      intro f4 v4_2 lv4_2 uv4_2 v4_3 lv4_3 uv4_3 hmu
      exact absurd hmu (Nat.not_lt_zero _)
    | succ n ih4 =>
      intro f4 v4_2 lv4_2 uv4_2 v4_3 lv4_3 uv4_3 hmu H locs hB ls hl
      have J26 : ∀ (n : Nat) (f26 : Nat → va_E) (v26_4 : Int) (lv26_4 : 0 ≤ v26_4) (uv26_4 : v26_4 ≤ 16) (blp0 : 1 ≤ p0) (buv4_3 : v4_3 ≤ 2147483646) (hmu : (Int.toNat (2147483647 - v26_4)) < n) (H : Heap) (locs : List Loc) (hB : q_B g K L (fun q => q ∈ L) [(13, 11, 15), (17, 3, 4), (17, 6, 9), (21, 2, 4), (25, 2, 3), (25, 5, 6)] f f26 s H locs) (ls : Array Slot) (hl : lv_has ls 5 [(0, .ref v), (1, .int (q_i p0)), (2, .int (q_i v4_2)), (3, .int (q_i v4_3)), (4, .int (q_i v26_4))]), W p l e { frames := 4, cells := 0, slots := 0, locals := 101 } s m ([.ref v, .int (q_i p0)] : List Value).toArray below meth c H locs 0 0 (MQ below (q_Q g K L [(13, 11, 15), (17, 3, 4), (17, 6, 9), (21, 2, 4), (25, 2, 3), (25, 5, 6)] f (q_Pi (fun (z : Int) (f1 : Nat → va_E) => True))) ([.ref v, .int (q_i p0)] : List Value).toArray s 0 0 (fun q => q ∈ L)) (F0 m 26 ls []) := by
        intro n
        induction n with
        | zero =>
          intro f26 v26_4 lv26_4 uv26_4 blp0 buv4_3 hmu
          exact absurd hmu (Nat.not_lt_zero _)
        | succ n ih26 =>
          intro f26 v26_4 lv26_4 uv26_4 blp0 buv4_3 hmu H locs hB ls hl
          refine lv_iload cx.1 cx.2.1 dX10_passTicks_26 (lv_at hl 4 rfl) ?_
          refine q_ald_n cx dX10_passTicks_28 rfl (lv_at hl 0 rfl) ?_
          obtain ⟨x1155, ex1155⟩ : ∃ zz, q_is (q_z f26 v 4) zz := ⟨_, q_isr _⟩
          refine q_gX10_39_13 cx hB hv kv ex1155 dX10_passTicks_29 (fun lb1156 ub1156 => ?_)
          refine q_icge (tgt := 51) cx ⟨by omega, by omega⟩ ⟨by omega, by omega⟩ dX10_passTicks_32 (by decide) (fun c1157 => ?_) (fun c1157 => ?_)
          · refine q_ald_n cx dX10_passTicks_51 rfl (lv_at hl 0 rfl) ?_
            refine q_iconst cx dX10_passTicks_52 ?_
            refine q_pX10_249_13 cx hB hv kv ⟨by decide, by decide⟩ (by decide) (by decide) rfl dX10_passTicks_53 (fun H locs f1158 ef1158 z1159 hB => ?_)
            refine q_ald_n cx dX10_passTicks_56 rfl (lv_at hl 0 rfl) ?_
            refine q_iconst cx dX10_passTicks_57 ?_
            refine q_pX10_252_13 cx hB hv kv ⟨by decide, by decide⟩ (by decide) (by decide) rfl dX10_passTicks_58 (fun H locs f1160 ef1160 z1161 hB => ?_)
            refine q_ild_n cx dX10_passTicks_61 rfl (lv_at hl 2 rfl) ?_
            refine q_ald_n cx dX10_passTicks_62 rfl (lv_at hl 0 rfl) ?_
            refine q_iconst cx dX10_passTicks_63 ?_
            refine q_cVi (As := [.int (q_i 1)]) (rest := [.int (q_i v4_2)]) cx hB (fun _ h => h) hN hv kv (by decide) rfl (g_X10_passMessages_1 l g hN hB.2.1 v hv kv 1 (by decide) (by decide)) q_cX10_255 q_dX10_passMessages (by decide) rfl rfl hl.1 rfl (Nat.le_of_ble_eq_true rfl) dX10_passTicks_64 (fun y1163 H locs f1162 ry1163 h1164 hF hB => ?_)
            refine q_ald_n cx dX10_passTicks_67 rfl (lv_at hl 0 rfl) ?_
            refine q_iconst cx dX10_passTicks_68 ?_
            refine q_cVi (As := [.int (q_i 0)]) (rest := [.int (q_i y1163), .int (q_i v4_2)]) cx hB (fun _ h => h) hN hv kv (by decide) rfl (g_X10_passMessages_1 l g hN hB.2.1 v hv kv 0 (by decide) (by decide)) q_cX10_255 q_dX10_passMessages (by decide) rfl rfl hl.1 rfl (Nat.le_of_ble_eq_true rfl) dX10_passTicks_69 (fun y1166 H locs f1165 ry1166 h1167 hF hB => ?_)
            refine q_iadd cx dX10_passTicks_72 ?_
            refine q_any (fun y1168 ry1168 ey1168 => ?_)
            refine q_iadd cx dX10_passTicks_73 ?_
            refine q_any (fun y1169 ry1169 ey1169 => ?_)
            refine lv_istore_n (lv' := [(2, .int (q_i y1169)), (0, .ref v), (1, .int (q_i p0)), (3, .int (q_i v4_3)), (4, .int (q_i v26_4))]) cx.1 cx.2.1 dX10_passTicks_74 rfl hl (by decide) rfl (fun ls hl => ?_)
            refine q_ald_n cx dX10_passTicks_75 rfl (lv_at hl 1 rfl) ?_
            refine q_cVv (As := []) (rest := []) cx hB (fun _ h => h) hN hv kv (by decide) rfl (g_X10_loseMessages_1 l g hN hB.2.1 v hv kv) q_cX10_259 q_dX10_loseMessages (by decide) rfl rfl hl.1 rfl (Nat.le_of_ble_eq_true rfl) dX10_passTicks_76 (fun H locs f1170 h1172 hF hB => ?_)
            refine q_iinc (lv' := [(3, .int (q_i (v4_3 + 1))), (2, .int (q_i y1169)), (0, .ref v), (1, .int (q_i p0)), (4, .int (q_i v26_4))]) cx dX10_passTicks_79 hl (k := 3) rfl (by decide) rfl (fun ls hl => ?_)
            refine lv_goto (tgt := 4) cx.1 cx.2.1 dX10_passTicks_82 (by decide) ?_
            exact ih4 f1170 y1169 (by omega) (by omega) (v4_3 + 1) (by omega) (by omega) (by omega) H locs hB ls (lv_sub hl [2, 3, 1, 0] rfl)
          · refine q_ald_n cx dX10_passTicks_35 rfl (lv_at hl 0 rfl) ?_
            refine q_ald_n cx dX10_passTicks_36 rfl (lv_at hl 0 rfl) ?_
            refine lv_iload cx.1 cx.2.1 dX10_passTicks_37 (lv_at hl 4 rfl) ?_
            refine q_cVr (As := [.int (q_i v26_4)]) (rest := [.ref v]) cx hB (fun _ h => h) hN hv kv (by decide) rfl (g_X10_linkAt_1 l g hN hB.2.1 v hv kv v26_4 (by omega) (by omega)) q_cX10_74 q_dX10_linkAt (by decide) rfl rfl hl.1 rfl (Nat.le_of_ble_eq_true rfl) dX10_passTicks_39 (fun y1174 H locs f1173 h1175 hF hB => ?_)
            obtain ⟨rfl, hy1174, ky1174⟩ := h1175
            refine q_cVv (As := [.ref y1174]) (rest := []) cx hB (fun _ h => h) hN hv kv (by decide) rfl (g_X10_meetOrMiss_1 l g hN hB.2.1 v hv kv y1174 hy1174 ky1174) q_cX10_246 q_dX10_meetOrMiss (by decide) rfl rfl hl.1 rfl (Nat.le_of_ble_eq_true rfl) dX10_passTicks_42 (fun H locs f1176 h1178 hF hB => ?_)
            refine q_iinc (lv' := [(4, .int (q_i (v26_4 + 1))), (0, .ref v), (1, .int (q_i p0)), (2, .int (q_i v4_2)), (3, .int (q_i v4_3))]) cx dX10_passTicks_45 hl (k := 4) rfl (by decide) rfl (fun ls hl => ?_)
            refine lv_goto (tgt := 26) cx.1 cx.2.1 dX10_passTicks_48 (by decide) ?_
            exact ih26 f1176 (v26_4 + 1) (by omega) (by omega) (by omega) (by omega) (by omega) H locs hB ls (lv_sub hl [1, 2, 3, 4, 0] rfl)
      refine q_ild_n cx dX10_passTicks_4 rfl (lv_at hl 3 rfl) ?_
      refine q_ild_n cx dX10_passTicks_5 rfl (lv_at hl 1 rfl) ?_
      refine q_icge (tgt := 85) cx ⟨by omega, by omega⟩ ⟨by omega, by omega⟩ dX10_passTicks_6 (by decide) (fun c1179 => ?_) (fun c1179 => ?_)
      · refine q_ild_n cx dX10_passTicks_85 rfl (lv_at hl 2 rfl) ?_
        refine q_iret cx hr hlk hB dX10_passTicks_86 ⟨by omega, by omega⟩ ?_
        trivial
      · refine q_ald_n cx dX10_passTicks_9 rfl (lv_at hl 0 rfl) ?_
        refine lv_dup cx.1 cx.2.1 dX10_passTicks_10 rfl ?_
        obtain ⟨x1180, ex1180⟩ : ∃ zz, q_is (q_z f4 v 11) zz := ⟨_, q_isr _⟩
        refine q_gX10_60_13 cx hB hv kv ex1180 dX10_passTicks_11 (fun lb1181 ub1181 => ?_)
        refine q_iconst cx dX10_passTicks_14 ?_
        refine q_iadd cx dX10_passTicks_15 ?_
        refine q_any (fun y1182 ry1182 ey1182 => ?_)
        refine q_pX10_60_13 cx hB hv kv ⟨by omega, by omega⟩ (by omega) (by omega) rfl dX10_passTicks_16 (fun H locs f1183 ef1183 z1184 hB => ?_)
        refine q_ald_n cx dX10_passTicks_19 rfl (lv_at hl 0 rfl) ?_
        refine q_cVv (As := []) (rest := []) cx hB (fun _ h => h) hN hv kv (by decide) rfl (g_X10_wakeNodes_1 l g hN hB.2.1 v hv kv) q_cX10_243 q_dX10_wakeNodes (by decide) rfl rfl hl.1 rfl (Nat.le_of_ble_eq_true rfl) dX10_passTicks_20 (fun H locs f1185 h1187 hF hB => ?_)
        refine q_iconst cx dX10_passTicks_23 ?_
        refine lv_istore (lv' := [(4, .int (q_i 0)), (0, .ref v), (1, .int (q_i p0)), (2, .int (q_i v4_2)), (3, .int (q_i v4_3))]) cx.1 cx.2.1 dX10_passTicks_24 hl (by decide) rfl (fun ls hl => ?_)
        exact J26 ((Int.toNat (2147483647 - 0)) + 1) f1185 0 (by decide) (by decide) (by omega) (by omega) (Nat.lt_succ_self _) H locs hB ls (lv_sub hl [1, 2, 3, 4, 0] rfl)
  obtain ⟨H, hH⟩ : ∃ H : Heap, H = s.heap := ⟨_, rfl⟩
  obtain ⟨locs, hlocs⟩ : ∃ z : List Loc, z = [] := ⟨_, rfl⟩
  rw [← hH, ← hlocs] at hB
  rw [← hH, ← hlocs]
  refine q_iconst cx dX10_passTicks_0 ?_
  refine lv_istore_n (lv' := [(2, .int (q_i 0)), (0, .ref v), (1, .int (q_i p0))]) cx.1 cx.2.1 dX10_passTicks_1 rfl hl (by decide) rfl (fun ls hl => ?_)
  refine q_iconst cx dX10_passTicks_2 ?_
  refine lv_istore_n (lv' := [(3, .int (q_i 0)), (2, .int (q_i 0)), (0, .ref v), (1, .int (q_i p0))]) cx.1 cx.2.1 dX10_passTicks_3 rfl hl (by decide) rfl (fun ls hl => ?_)
  exact J4 ((Int.toNat (2147483647 - 0)) + 1) f 0 (by decide) (by decide) 0 (by decide) (by decide) (Nat.lt_succ_self _) H locs hB ls (lv_sub hl [2, 3, 1, 0] rfl)
set_option maxHeartbeats 4000000 in
set_option maxRecDepth 100000 in
theorem g_X10_passTicks_2 (l : Launch) (g : q_G) {K : Nat → Nat} {L : List Nat} (hN : L.Nodup) {f : Nat → va_E} (hT : q_Ty g K L f) (v : Nat) (hv : v ∈ L) (kv : K v = 14) (p0 : Int) (lp0 : (-2147483648) ≤ p0) (up0 : p0 ≤ 2147483647) : q_Ct l g K L yX10_passTicks cX10_passTicks 5 (some .int) 4 101 [.ref v, .int (q_i p0)] f [(14, 11, 15), (18, 3, 4), (18, 6, 9), (22, 2, 4), (26, 2, 3), (26, 5, 6)] (q_Pi (fun (z : Int) (f1 : Nat → va_E) => True)) := by
  refine q_ofb (by decide +kernel) hN hT (Nat.le_of_ble_eq_true rfl) ?_
  intro p e s m below meth c ls cx hr hlk hB hl
  have hl : lv_has ls 5 [(0, .ref v), (1, .int (q_i p0))] := hl
  have J4 : ∀ (n : Nat) (f4 : Nat → va_E) (v4_2 : Int) (lv4_2 : (-2147483648) ≤ v4_2) (uv4_2 : v4_2 ≤ 2147483647) (v4_3 : Int) (lv4_3 : 0 ≤ v4_3) (uv4_3 : v4_3 ≤ 2147483647) (hmu : (Int.toNat (2147483647 - v4_3)) < n) (H : Heap) (locs : List Loc) (hB : q_B g K L (fun q => q ∈ L) [(14, 11, 15), (18, 3, 4), (18, 6, 9), (22, 2, 4), (26, 2, 3), (26, 5, 6)] f f4 s H locs) (ls : Array Slot) (hl : lv_has ls 5 [(0, .ref v), (1, .int (q_i p0)), (2, .int (q_i v4_2)), (3, .int (q_i v4_3))]), W p l e { frames := 4, cells := 0, slots := 0, locals := 101 } s m ([.ref v, .int (q_i p0)] : List Value).toArray below meth c H locs 0 0 (MQ below (q_Q g K L [(14, 11, 15), (18, 3, 4), (18, 6, 9), (22, 2, 4), (26, 2, 3), (26, 5, 6)] f (q_Pi (fun (z : Int) (f1 : Nat → va_E) => True))) ([.ref v, .int (q_i p0)] : List Value).toArray s 0 0 (fun q => q ∈ L)) (F0 m 4 ls []) := by
    intro n
    induction n with
    | zero =>
      intro f4 v4_2 lv4_2 uv4_2 v4_3 lv4_3 uv4_3 hmu
      exact absurd hmu (Nat.not_lt_zero _)
    | succ n ih4 =>
      intro f4 v4_2 lv4_2 uv4_2 v4_3 lv4_3 uv4_3 hmu H locs hB ls hl
      have J26 : ∀ (n : Nat) (f26 : Nat → va_E) (v26_4 : Int) (lv26_4 : 0 ≤ v26_4) (uv26_4 : v26_4 ≤ 16) (blp0 : 1 ≤ p0) (buv4_3 : v4_3 ≤ 2147483646) (hmu : (Int.toNat (2147483647 - v26_4)) < n) (H : Heap) (locs : List Loc) (hB : q_B g K L (fun q => q ∈ L) [(14, 11, 15), (18, 3, 4), (18, 6, 9), (22, 2, 4), (26, 2, 3), (26, 5, 6)] f f26 s H locs) (ls : Array Slot) (hl : lv_has ls 5 [(0, .ref v), (1, .int (q_i p0)), (2, .int (q_i v4_2)), (3, .int (q_i v4_3)), (4, .int (q_i v26_4))]), W p l e { frames := 4, cells := 0, slots := 0, locals := 101 } s m ([.ref v, .int (q_i p0)] : List Value).toArray below meth c H locs 0 0 (MQ below (q_Q g K L [(14, 11, 15), (18, 3, 4), (18, 6, 9), (22, 2, 4), (26, 2, 3), (26, 5, 6)] f (q_Pi (fun (z : Int) (f1 : Nat → va_E) => True))) ([.ref v, .int (q_i p0)] : List Value).toArray s 0 0 (fun q => q ∈ L)) (F0 m 26 ls []) := by
        intro n
        induction n with
        | zero =>
          intro f26 v26_4 lv26_4 uv26_4 blp0 buv4_3 hmu
          exact absurd hmu (Nat.not_lt_zero _)
        | succ n ih26 =>
          intro f26 v26_4 lv26_4 uv26_4 blp0 buv4_3 hmu H locs hB ls hl
          refine lv_iload cx.1 cx.2.1 dX10_passTicks_26 (lv_at hl 4 rfl) ?_
          refine q_ald_n cx dX10_passTicks_28 rfl (lv_at hl 0 rfl) ?_
          obtain ⟨x1155, ex1155⟩ : ∃ zz, q_is (q_z f26 v 4) zz := ⟨_, q_isr _⟩
          refine q_gX10_39_14 cx hB hv kv ex1155 dX10_passTicks_29 (fun lb1156 ub1156 => ?_)
          refine q_icge (tgt := 51) cx ⟨by omega, by omega⟩ ⟨by omega, by omega⟩ dX10_passTicks_32 (by decide) (fun c1157 => ?_) (fun c1157 => ?_)
          · refine q_ald_n cx dX10_passTicks_51 rfl (lv_at hl 0 rfl) ?_
            refine q_iconst cx dX10_passTicks_52 ?_
            refine q_pX10_249_14 cx hB hv kv ⟨by decide, by decide⟩ (by decide) (by decide) rfl dX10_passTicks_53 (fun H locs f1158 ef1158 z1159 hB => ?_)
            refine q_ald_n cx dX10_passTicks_56 rfl (lv_at hl 0 rfl) ?_
            refine q_iconst cx dX10_passTicks_57 ?_
            refine q_pX10_252_14 cx hB hv kv ⟨by decide, by decide⟩ (by decide) (by decide) rfl dX10_passTicks_58 (fun H locs f1160 ef1160 z1161 hB => ?_)
            refine q_ild_n cx dX10_passTicks_61 rfl (lv_at hl 2 rfl) ?_
            refine q_ald_n cx dX10_passTicks_62 rfl (lv_at hl 0 rfl) ?_
            refine q_iconst cx dX10_passTicks_63 ?_
            refine q_cVi (As := [.int (q_i 1)]) (rest := [.int (q_i v4_2)]) cx hB (fun _ h => h) hN hv kv (by decide) rfl (g_X10_passMessages_2 l g hN hB.2.1 v hv kv 1 (by decide) (by decide)) q_cX10_255 q_dX10_passMessages (by decide) rfl rfl hl.1 rfl (Nat.le_of_ble_eq_true rfl) dX10_passTicks_64 (fun y1163 H locs f1162 ry1163 h1164 hF hB => ?_)
            refine q_ald_n cx dX10_passTicks_67 rfl (lv_at hl 0 rfl) ?_
            refine q_iconst cx dX10_passTicks_68 ?_
            refine q_cVi (As := [.int (q_i 0)]) (rest := [.int (q_i y1163), .int (q_i v4_2)]) cx hB (fun _ h => h) hN hv kv (by decide) rfl (g_X10_passMessages_2 l g hN hB.2.1 v hv kv 0 (by decide) (by decide)) q_cX10_255 q_dX10_passMessages (by decide) rfl rfl hl.1 rfl (Nat.le_of_ble_eq_true rfl) dX10_passTicks_69 (fun y1166 H locs f1165 ry1166 h1167 hF hB => ?_)
            refine q_iadd cx dX10_passTicks_72 ?_
            refine q_any (fun y1168 ry1168 ey1168 => ?_)
            refine q_iadd cx dX10_passTicks_73 ?_
            refine q_any (fun y1169 ry1169 ey1169 => ?_)
            refine lv_istore_n (lv' := [(2, .int (q_i y1169)), (0, .ref v), (1, .int (q_i p0)), (3, .int (q_i v4_3)), (4, .int (q_i v26_4))]) cx.1 cx.2.1 dX10_passTicks_74 rfl hl (by decide) rfl (fun ls hl => ?_)
            refine q_ald_n cx dX10_passTicks_75 rfl (lv_at hl 1 rfl) ?_
            refine q_cVv (As := []) (rest := []) cx hB (fun _ h => h) hN hv kv (by decide) rfl (g_X10_loseMessages_2 l g hN hB.2.1 v hv kv) q_cX10_259 q_dX10_loseMessages (by decide) rfl rfl hl.1 rfl (Nat.le_of_ble_eq_true rfl) dX10_passTicks_76 (fun H locs f1170 h1172 hF hB => ?_)
            refine q_iinc (lv' := [(3, .int (q_i (v4_3 + 1))), (2, .int (q_i y1169)), (0, .ref v), (1, .int (q_i p0)), (4, .int (q_i v26_4))]) cx dX10_passTicks_79 hl (k := 3) rfl (by decide) rfl (fun ls hl => ?_)
            refine lv_goto (tgt := 4) cx.1 cx.2.1 dX10_passTicks_82 (by decide) ?_
            exact ih4 f1170 y1169 (by omega) (by omega) (v4_3 + 1) (by omega) (by omega) (by omega) H locs hB ls (lv_sub hl [2, 3, 1, 0] rfl)
          · refine q_ald_n cx dX10_passTicks_35 rfl (lv_at hl 0 rfl) ?_
            refine q_ald_n cx dX10_passTicks_36 rfl (lv_at hl 0 rfl) ?_
            refine lv_iload cx.1 cx.2.1 dX10_passTicks_37 (lv_at hl 4 rfl) ?_
            refine q_cVr (As := [.int (q_i v26_4)]) (rest := [.ref v]) cx hB (fun _ h => h) hN hv kv (by decide) rfl (g_X10_linkAt_2 l g hN hB.2.1 v hv kv v26_4 (by omega) (by omega)) q_cX10_74 q_dX10_linkAt (by decide) rfl rfl hl.1 rfl (Nat.le_of_ble_eq_true rfl) dX10_passTicks_39 (fun y1174 H locs f1173 h1175 hF hB => ?_)
            obtain ⟨rfl, hy1174, ky1174⟩ := h1175
            refine q_cVv (As := [.ref y1174]) (rest := []) cx hB (fun _ h => h) hN hv kv (by decide) rfl (g_X10_meetOrMiss_2 l g hN hB.2.1 v hv kv y1174 hy1174 ky1174) q_cX10_246 q_dX10_meetOrMiss (by decide) rfl rfl hl.1 rfl (Nat.le_of_ble_eq_true rfl) dX10_passTicks_42 (fun H locs f1176 h1178 hF hB => ?_)
            refine q_iinc (lv' := [(4, .int (q_i (v26_4 + 1))), (0, .ref v), (1, .int (q_i p0)), (2, .int (q_i v4_2)), (3, .int (q_i v4_3))]) cx dX10_passTicks_45 hl (k := 4) rfl (by decide) rfl (fun ls hl => ?_)
            refine lv_goto (tgt := 26) cx.1 cx.2.1 dX10_passTicks_48 (by decide) ?_
            exact ih26 f1176 (v26_4 + 1) (by omega) (by omega) (by omega) (by omega) (by omega) H locs hB ls (lv_sub hl [1, 2, 3, 4, 0] rfl)
      refine q_ild_n cx dX10_passTicks_4 rfl (lv_at hl 3 rfl) ?_
      refine q_ild_n cx dX10_passTicks_5 rfl (lv_at hl 1 rfl) ?_
      refine q_icge (tgt := 85) cx ⟨by omega, by omega⟩ ⟨by omega, by omega⟩ dX10_passTicks_6 (by decide) (fun c1179 => ?_) (fun c1179 => ?_)
      · refine q_ild_n cx dX10_passTicks_85 rfl (lv_at hl 2 rfl) ?_
        refine q_iret cx hr hlk hB dX10_passTicks_86 ⟨by omega, by omega⟩ ?_
        trivial
      · refine q_ald_n cx dX10_passTicks_9 rfl (lv_at hl 0 rfl) ?_
        refine lv_dup cx.1 cx.2.1 dX10_passTicks_10 rfl ?_
        obtain ⟨x1180, ex1180⟩ : ∃ zz, q_is (q_z f4 v 11) zz := ⟨_, q_isr _⟩
        refine q_gX10_60_14 cx hB hv kv ex1180 dX10_passTicks_11 (fun lb1181 ub1181 => ?_)
        refine q_iconst cx dX10_passTicks_14 ?_
        refine q_iadd cx dX10_passTicks_15 ?_
        refine q_any (fun y1182 ry1182 ey1182 => ?_)
        refine q_pX10_60_14 cx hB hv kv ⟨by omega, by omega⟩ (by omega) (by omega) rfl dX10_passTicks_16 (fun H locs f1183 ef1183 z1184 hB => ?_)
        refine q_ald_n cx dX10_passTicks_19 rfl (lv_at hl 0 rfl) ?_
        refine q_cVv (As := []) (rest := []) cx hB (fun _ h => h) hN hv kv (by decide) rfl (g_X10_wakeNodes_2 l g hN hB.2.1 v hv kv) q_cX10_243 q_dX10_wakeNodes (by decide) rfl rfl hl.1 rfl (Nat.le_of_ble_eq_true rfl) dX10_passTicks_20 (fun H locs f1185 h1187 hF hB => ?_)
        refine q_iconst cx dX10_passTicks_23 ?_
        refine lv_istore (lv' := [(4, .int (q_i 0)), (0, .ref v), (1, .int (q_i p0)), (2, .int (q_i v4_2)), (3, .int (q_i v4_3))]) cx.1 cx.2.1 dX10_passTicks_24 hl (by decide) rfl (fun ls hl => ?_)
        exact J26 ((Int.toNat (2147483647 - 0)) + 1) f1185 0 (by decide) (by decide) (by omega) (by omega) (Nat.lt_succ_self _) H locs hB ls (lv_sub hl [1, 2, 3, 4, 0] rfl)
  obtain ⟨H, hH⟩ : ∃ H : Heap, H = s.heap := ⟨_, rfl⟩
  obtain ⟨locs, hlocs⟩ : ∃ z : List Loc, z = [] := ⟨_, rfl⟩
  rw [← hH, ← hlocs] at hB
  rw [← hH, ← hlocs]
  refine q_iconst cx dX10_passTicks_0 ?_
  refine lv_istore_n (lv' := [(2, .int (q_i 0)), (0, .ref v), (1, .int (q_i p0))]) cx.1 cx.2.1 dX10_passTicks_1 rfl hl (by decide) rfl (fun ls hl => ?_)
  refine q_iconst cx dX10_passTicks_2 ?_
  refine lv_istore_n (lv' := [(3, .int (q_i 0)), (2, .int (q_i 0)), (0, .ref v), (1, .int (q_i p0))]) cx.1 cx.2.1 dX10_passTicks_3 rfl hl (by decide) rfl (fun ls hl => ?_)
  exact J4 ((Int.toNat (2147483647 - 0)) + 1) f 0 (by decide) (by decide) 0 (by decide) (by decide) (Nat.lt_succ_self _) H locs hB ls (lv_sub hl [2, 3, 1, 0] rfl)
set_option maxHeartbeats 4000000 in
set_option maxRecDepth 100000 in
theorem g_X10_passTicks_3 (l : Launch) (g : q_G) {K : Nat → Nat} {L : List Nat} (hN : L.Nodup) {f : Nat → va_E} (hT : q_Ty g K L f) (v : Nat) (hv : v ∈ L) (kv : K v = 15) (p0 : Int) (lp0 : (-2147483648) ≤ p0) (up0 : p0 ≤ 2147483647) : q_Ct l g K L yX10_passTicks cX10_passTicks 5 (some .int) 4 101 [.ref v, .int (q_i p0)] f [(15, 11, 15), (19, 3, 4), (19, 6, 9), (23, 2, 4), (27, 2, 3), (27, 5, 6)] (q_Pi (fun (z : Int) (f1 : Nat → va_E) => True)) := by
  refine q_ofb (by decide +kernel) hN hT (Nat.le_of_ble_eq_true rfl) ?_
  intro p e s m below meth c ls cx hr hlk hB hl
  have hl : lv_has ls 5 [(0, .ref v), (1, .int (q_i p0))] := hl
  have J4 : ∀ (n : Nat) (f4 : Nat → va_E) (v4_2 : Int) (lv4_2 : (-2147483648) ≤ v4_2) (uv4_2 : v4_2 ≤ 2147483647) (v4_3 : Int) (lv4_3 : 0 ≤ v4_3) (uv4_3 : v4_3 ≤ 2147483647) (hmu : (Int.toNat (2147483647 - v4_3)) < n) (H : Heap) (locs : List Loc) (hB : q_B g K L (fun q => q ∈ L) [(15, 11, 15), (19, 3, 4), (19, 6, 9), (23, 2, 4), (27, 2, 3), (27, 5, 6)] f f4 s H locs) (ls : Array Slot) (hl : lv_has ls 5 [(0, .ref v), (1, .int (q_i p0)), (2, .int (q_i v4_2)), (3, .int (q_i v4_3))]), W p l e { frames := 4, cells := 0, slots := 0, locals := 101 } s m ([.ref v, .int (q_i p0)] : List Value).toArray below meth c H locs 0 0 (MQ below (q_Q g K L [(15, 11, 15), (19, 3, 4), (19, 6, 9), (23, 2, 4), (27, 2, 3), (27, 5, 6)] f (q_Pi (fun (z : Int) (f1 : Nat → va_E) => True))) ([.ref v, .int (q_i p0)] : List Value).toArray s 0 0 (fun q => q ∈ L)) (F0 m 4 ls []) := by
    intro n
    induction n with
    | zero =>
      intro f4 v4_2 lv4_2 uv4_2 v4_3 lv4_3 uv4_3 hmu
      exact absurd hmu (Nat.not_lt_zero _)
    | succ n ih4 =>
      intro f4 v4_2 lv4_2 uv4_2 v4_3 lv4_3 uv4_3 hmu H locs hB ls hl
      have J26 : ∀ (n : Nat) (f26 : Nat → va_E) (v26_4 : Int) (lv26_4 : 0 ≤ v26_4) (uv26_4 : v26_4 ≤ 16) (blp0 : 1 ≤ p0) (buv4_3 : v4_3 ≤ 2147483646) (hmu : (Int.toNat (2147483647 - v26_4)) < n) (H : Heap) (locs : List Loc) (hB : q_B g K L (fun q => q ∈ L) [(15, 11, 15), (19, 3, 4), (19, 6, 9), (23, 2, 4), (27, 2, 3), (27, 5, 6)] f f26 s H locs) (ls : Array Slot) (hl : lv_has ls 5 [(0, .ref v), (1, .int (q_i p0)), (2, .int (q_i v4_2)), (3, .int (q_i v4_3)), (4, .int (q_i v26_4))]), W p l e { frames := 4, cells := 0, slots := 0, locals := 101 } s m ([.ref v, .int (q_i p0)] : List Value).toArray below meth c H locs 0 0 (MQ below (q_Q g K L [(15, 11, 15), (19, 3, 4), (19, 6, 9), (23, 2, 4), (27, 2, 3), (27, 5, 6)] f (q_Pi (fun (z : Int) (f1 : Nat → va_E) => True))) ([.ref v, .int (q_i p0)] : List Value).toArray s 0 0 (fun q => q ∈ L)) (F0 m 26 ls []) := by
        intro n
        induction n with
        | zero =>
          intro f26 v26_4 lv26_4 uv26_4 blp0 buv4_3 hmu
          exact absurd hmu (Nat.not_lt_zero _)
        | succ n ih26 =>
          intro f26 v26_4 lv26_4 uv26_4 blp0 buv4_3 hmu H locs hB ls hl
          refine lv_iload cx.1 cx.2.1 dX10_passTicks_26 (lv_at hl 4 rfl) ?_
          refine q_ald_n cx dX10_passTicks_28 rfl (lv_at hl 0 rfl) ?_
          obtain ⟨x1155, ex1155⟩ : ∃ zz, q_is (q_z f26 v 4) zz := ⟨_, q_isr _⟩
          refine q_gX10_39_15 cx hB hv kv ex1155 dX10_passTicks_29 (fun lb1156 ub1156 => ?_)
          refine q_icge (tgt := 51) cx ⟨by omega, by omega⟩ ⟨by omega, by omega⟩ dX10_passTicks_32 (by decide) (fun c1157 => ?_) (fun c1157 => ?_)
          · refine q_ald_n cx dX10_passTicks_51 rfl (lv_at hl 0 rfl) ?_
            refine q_iconst cx dX10_passTicks_52 ?_
            refine q_pX10_249_15 cx hB hv kv ⟨by decide, by decide⟩ (by decide) (by decide) rfl dX10_passTicks_53 (fun H locs f1158 ef1158 z1159 hB => ?_)
            refine q_ald_n cx dX10_passTicks_56 rfl (lv_at hl 0 rfl) ?_
            refine q_iconst cx dX10_passTicks_57 ?_
            refine q_pX10_252_15 cx hB hv kv ⟨by decide, by decide⟩ (by decide) (by decide) rfl dX10_passTicks_58 (fun H locs f1160 ef1160 z1161 hB => ?_)
            refine q_ild_n cx dX10_passTicks_61 rfl (lv_at hl 2 rfl) ?_
            refine q_ald_n cx dX10_passTicks_62 rfl (lv_at hl 0 rfl) ?_
            refine q_iconst cx dX10_passTicks_63 ?_
            refine q_cVi (As := [.int (q_i 1)]) (rest := [.int (q_i v4_2)]) cx hB (fun _ h => h) hN hv kv (by decide) rfl (g_X10_passMessages_3 l g hN hB.2.1 v hv kv 1 (by decide) (by decide)) q_cX10_255 q_dX10_passMessages (by decide) rfl rfl hl.1 rfl (Nat.le_of_ble_eq_true rfl) dX10_passTicks_64 (fun y1163 H locs f1162 ry1163 h1164 hF hB => ?_)
            refine q_ald_n cx dX10_passTicks_67 rfl (lv_at hl 0 rfl) ?_
            refine q_iconst cx dX10_passTicks_68 ?_
            refine q_cVi (As := [.int (q_i 0)]) (rest := [.int (q_i y1163), .int (q_i v4_2)]) cx hB (fun _ h => h) hN hv kv (by decide) rfl (g_X10_passMessages_3 l g hN hB.2.1 v hv kv 0 (by decide) (by decide)) q_cX10_255 q_dX10_passMessages (by decide) rfl rfl hl.1 rfl (Nat.le_of_ble_eq_true rfl) dX10_passTicks_69 (fun y1166 H locs f1165 ry1166 h1167 hF hB => ?_)
            refine q_iadd cx dX10_passTicks_72 ?_
            refine q_any (fun y1168 ry1168 ey1168 => ?_)
            refine q_iadd cx dX10_passTicks_73 ?_
            refine q_any (fun y1169 ry1169 ey1169 => ?_)
            refine lv_istore_n (lv' := [(2, .int (q_i y1169)), (0, .ref v), (1, .int (q_i p0)), (3, .int (q_i v4_3)), (4, .int (q_i v26_4))]) cx.1 cx.2.1 dX10_passTicks_74 rfl hl (by decide) rfl (fun ls hl => ?_)
            refine q_ald_n cx dX10_passTicks_75 rfl (lv_at hl 1 rfl) ?_
            refine q_cVv (As := []) (rest := []) cx hB (fun _ h => h) hN hv kv (by decide) rfl (g_X10_loseMessages_3 l g hN hB.2.1 v hv kv) q_cX10_259 q_dX10_loseMessages (by decide) rfl rfl hl.1 rfl (Nat.le_of_ble_eq_true rfl) dX10_passTicks_76 (fun H locs f1170 h1172 hF hB => ?_)
            refine q_iinc (lv' := [(3, .int (q_i (v4_3 + 1))), (2, .int (q_i y1169)), (0, .ref v), (1, .int (q_i p0)), (4, .int (q_i v26_4))]) cx dX10_passTicks_79 hl (k := 3) rfl (by decide) rfl (fun ls hl => ?_)
            refine lv_goto (tgt := 4) cx.1 cx.2.1 dX10_passTicks_82 (by decide) ?_
            exact ih4 f1170 y1169 (by omega) (by omega) (v4_3 + 1) (by omega) (by omega) (by omega) H locs hB ls (lv_sub hl [2, 3, 1, 0] rfl)
          · refine q_ald_n cx dX10_passTicks_35 rfl (lv_at hl 0 rfl) ?_
            refine q_ald_n cx dX10_passTicks_36 rfl (lv_at hl 0 rfl) ?_
            refine lv_iload cx.1 cx.2.1 dX10_passTicks_37 (lv_at hl 4 rfl) ?_
            refine q_cVr (As := [.int (q_i v26_4)]) (rest := [.ref v]) cx hB (fun _ h => h) hN hv kv (by decide) rfl (g_X10_linkAt_3 l g hN hB.2.1 v hv kv v26_4 (by omega) (by omega)) q_cX10_74 q_dX10_linkAt (by decide) rfl rfl hl.1 rfl (Nat.le_of_ble_eq_true rfl) dX10_passTicks_39 (fun y1174 H locs f1173 h1175 hF hB => ?_)
            obtain ⟨rfl, hy1174, ky1174⟩ := h1175
            refine q_cVv (As := [.ref y1174]) (rest := []) cx hB (fun _ h => h) hN hv kv (by decide) rfl (g_X10_meetOrMiss_3 l g hN hB.2.1 v hv kv y1174 hy1174 ky1174) q_cX10_246 q_dX10_meetOrMiss (by decide) rfl rfl hl.1 rfl (Nat.le_of_ble_eq_true rfl) dX10_passTicks_42 (fun H locs f1176 h1178 hF hB => ?_)
            refine q_iinc (lv' := [(4, .int (q_i (v26_4 + 1))), (0, .ref v), (1, .int (q_i p0)), (2, .int (q_i v4_2)), (3, .int (q_i v4_3))]) cx dX10_passTicks_45 hl (k := 4) rfl (by decide) rfl (fun ls hl => ?_)
            refine lv_goto (tgt := 26) cx.1 cx.2.1 dX10_passTicks_48 (by decide) ?_
            exact ih26 f1176 (v26_4 + 1) (by omega) (by omega) (by omega) (by omega) (by omega) H locs hB ls (lv_sub hl [1, 2, 3, 4, 0] rfl)
      refine q_ild_n cx dX10_passTicks_4 rfl (lv_at hl 3 rfl) ?_
      refine q_ild_n cx dX10_passTicks_5 rfl (lv_at hl 1 rfl) ?_
      refine q_icge (tgt := 85) cx ⟨by omega, by omega⟩ ⟨by omega, by omega⟩ dX10_passTicks_6 (by decide) (fun c1179 => ?_) (fun c1179 => ?_)
      · refine q_ild_n cx dX10_passTicks_85 rfl (lv_at hl 2 rfl) ?_
        refine q_iret cx hr hlk hB dX10_passTicks_86 ⟨by omega, by omega⟩ ?_
        trivial
      · refine q_ald_n cx dX10_passTicks_9 rfl (lv_at hl 0 rfl) ?_
        refine lv_dup cx.1 cx.2.1 dX10_passTicks_10 rfl ?_
        obtain ⟨x1180, ex1180⟩ : ∃ zz, q_is (q_z f4 v 11) zz := ⟨_, q_isr _⟩
        refine q_gX10_60_15 cx hB hv kv ex1180 dX10_passTicks_11 (fun lb1181 ub1181 => ?_)
        refine q_iconst cx dX10_passTicks_14 ?_
        refine q_iadd cx dX10_passTicks_15 ?_
        refine q_any (fun y1182 ry1182 ey1182 => ?_)
        refine q_pX10_60_15 cx hB hv kv ⟨by omega, by omega⟩ (by omega) (by omega) rfl dX10_passTicks_16 (fun H locs f1183 ef1183 z1184 hB => ?_)
        refine q_ald_n cx dX10_passTicks_19 rfl (lv_at hl 0 rfl) ?_
        refine q_cVv (As := []) (rest := []) cx hB (fun _ h => h) hN hv kv (by decide) rfl (g_X10_wakeNodes_3 l g hN hB.2.1 v hv kv) q_cX10_243 q_dX10_wakeNodes (by decide) rfl rfl hl.1 rfl (Nat.le_of_ble_eq_true rfl) dX10_passTicks_20 (fun H locs f1185 h1187 hF hB => ?_)
        refine q_iconst cx dX10_passTicks_23 ?_
        refine lv_istore (lv' := [(4, .int (q_i 0)), (0, .ref v), (1, .int (q_i p0)), (2, .int (q_i v4_2)), (3, .int (q_i v4_3))]) cx.1 cx.2.1 dX10_passTicks_24 hl (by decide) rfl (fun ls hl => ?_)
        exact J26 ((Int.toNat (2147483647 - 0)) + 1) f1185 0 (by decide) (by decide) (by omega) (by omega) (Nat.lt_succ_self _) H locs hB ls (lv_sub hl [1, 2, 3, 4, 0] rfl)
  obtain ⟨H, hH⟩ : ∃ H : Heap, H = s.heap := ⟨_, rfl⟩
  obtain ⟨locs, hlocs⟩ : ∃ z : List Loc, z = [] := ⟨_, rfl⟩
  rw [← hH, ← hlocs] at hB
  rw [← hH, ← hlocs]
  refine q_iconst cx dX10_passTicks_0 ?_
  refine lv_istore_n (lv' := [(2, .int (q_i 0)), (0, .ref v), (1, .int (q_i p0))]) cx.1 cx.2.1 dX10_passTicks_1 rfl hl (by decide) rfl (fun ls hl => ?_)
  refine q_iconst cx dX10_passTicks_2 ?_
  refine lv_istore_n (lv' := [(3, .int (q_i 0)), (2, .int (q_i 0)), (0, .ref v), (1, .int (q_i p0))]) cx.1 cx.2.1 dX10_passTicks_3 rfl hl (by decide) rfl (fun ls hl => ?_)
  exact J4 ((Int.toNat (2147483647 - 0)) + 1) f 0 (by decide) (by decide) 0 (by decide) (by decide) (Nat.lt_succ_self _) H locs hB ls (lv_sub hl [2, 3, 1, 0] rfl)
