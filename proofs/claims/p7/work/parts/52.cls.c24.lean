set_option maxHeartbeats 4000000 in
set_option maxRecDepth 100000 in
theorem g_X10_foldDays (l : Launch) (g : q_G) {K : Nat → Nat} {L : List Nat} (hN : L.Nodup) {f : Nat → va_E} (hT : q_Ty g K L f) (v : Nat) (hv : v ∈ L) (kv : K v = 10) : q_Ct l g K L yX10_foldDays cX10_foldDays 2 none 1 21 [.ref v] f [(5, 2, 3)] (q_Pv (fun (f1 : Nat → va_E) => True)) := by
  refine q_ofb (by decide +kernel) hN hT (Nat.le_of_ble_eq_true rfl) ?_
  intro p e s m below meth c ls cx hr hlk hB hl
  have hl : lv_has ls 2 [(0, .ref v)] := hl
  have J2 : ∀ (n : Nat) (f2 : Nat → va_E) (v2_1 : Int) (lv2_1 : 0 ≤ v2_1) (uv2_1 : v2_1 ≤ 10) (hmu : (Int.toNat (2147483647 - v2_1)) < n) (H : Heap) (locs : List Loc) (hB : q_B g K L (fun q => q ∈ L) [(5, 2, 3)] f f2 s H locs) (ls : Array Slot) (hl : lv_has ls 2 [(0, .ref v), (1, .int (q_i v2_1))]), W p l e { frames := 1, cells := 0, slots := 0, locals := 21 } s m ([.ref v] : List Value).toArray below meth c H locs 0 0 (MQ below (q_Q g K L [(5, 2, 3)] f (q_Pv (fun (f1 : Nat → va_E) => True))) ([.ref v] : List Value).toArray s 0 0 (fun q => q ∈ L)) (F0 m 2 ls []) := by
    intro n
    induction n with
    | zero =>
      intro f2 v2_1 lv2_1 uv2_1 hmu
      exact absurd hmu (Nat.not_lt_zero _)
    | succ n ih2 =>
      intro f2 v2_1 lv2_1 uv2_1 hmu H locs hB ls hl
      refine q_ild_n cx dX10_foldDays_2 rfl (lv_at hl 1 rfl) ?_
      refine q_ald_n cx dX10_foldDays_3 rfl (lv_at hl 0 rfl) ?_
      obtain ⟨x291, ex291⟩ : ∃ zz, q_is (q_z f2 v 3) zz := ⟨_, q_isr _⟩
      refine q_gX10_35 cx hB hv kv ex291 dX10_foldDays_4 (fun lb292 ub292 => ?_)
      refine q_icge (tgt := 56) cx ⟨by omega, by omega⟩ ⟨by omega, by omega⟩ dX10_foldDays_7 (by decide) (fun c293 => ?_) (fun c293 => ?_)
      · refine q_vret cx hr hlk hB dX10_foldDays_56 ?_
        trivial
      · refine q_ald_n cx dX10_foldDays_10 rfl (lv_at hl 0 rfl) ?_
        refine q_ild_n cx dX10_foldDays_11 rfl (lv_at hl 1 rfl) ?_
        refine q_cVr (As := [.int (q_i v2_1)]) (rest := []) cx hB (fun _ h => h) hN hv kv (by decide) rfl (g_X10_nodeAt l g hN hB.2.1 v hv kv v2_1 (by omega) (by omega)) q_cX10_66 q_dX10_nodeAt (by decide) rfl rfl hl.1 rfl (Nat.le_of_ble_eq_true rfl) dX10_foldDays_12 (fun y295 H locs f294 h296 hF hB => ?_)
        obtain ⟨rfl, hy295, ky295⟩ := h296
        refine q_ald_n cx dX10_foldDays_15 rfl (lv_at hl 0 rfl) ?_
        refine q_ald_n cx dX10_foldDays_16 rfl (lv_at hl 0 rfl) ?_
        refine q_ild_n cx dX10_foldDays_17 rfl (lv_at hl 1 rfl) ?_
        refine q_cVr (As := [.int (q_i v2_1)]) (rest := [.ref v, .ref y295]) cx hB (fun _ h => h) hN hv kv (by decide) rfl (g_X10_nodeAt l g hN hB.2.1 v hv kv v2_1 (by omega) (by omega)) q_cX10_66 q_dX10_nodeAt (by decide) rfl rfl hl.1 rfl (Nat.le_of_ble_eq_true rfl) dX10_foldDays_18 (fun y298 H locs f297 h299 hF hB => ?_)
        obtain ⟨rfl, hy298, ky298⟩ := h299
        obtain ⟨x300, ex300⟩ : ∃ zz, q_is (q_z f2 y298 2) zz := ⟨_, q_isr _⟩
        refine q_gX10_95 cx hB hy298 ky298 ex300 dX10_foldDays_21 (fun lb301 ub301 => ?_)
        refine q_cVi (As := [.int (q_i x300)]) (rest := [.ref y295]) cx hB (fun _ h => h) hN hv kv (by decide) rfl (g_X10_dayOfYear l g hN hB.2.1 v hv kv x300 (by omega) (by omega)) q_cX10_156 q_dX10_dayOfYear (by decide) rfl rfl hl.1 rfl (Nat.le_of_ble_eq_true rfl) dX10_foldDays_24 (fun y303 H locs f302 ry303 h304 hF hB => ?_)
        obtain ⟨rfl, ly303, uy303⟩ := h304
        refine q_pX10_95 cx hB hy295 ky295 ⟨by omega, by omega⟩ (by omega) (by omega) rfl dX10_foldDays_27 (fun H locs f305 ef305 z306 hB => ?_)
        refine q_ald_n cx dX10_foldDays_30 rfl (lv_at hl 0 rfl) ?_
        refine q_ild_n cx dX10_foldDays_31 rfl (lv_at hl 1 rfl) ?_
        refine q_cVr (As := [.int (q_i v2_1)]) (rest := []) cx hB (fun _ h => h) hN hv kv (by decide) rfl (g_X10_nodeAt l g hN hB.2.1 v hv kv v2_1 (by omega) (by omega)) q_cX10_66 q_dX10_nodeAt (by decide) rfl rfl hl.1 rfl (Nat.le_of_ble_eq_true rfl) dX10_foldDays_32 (fun y308 H locs f307 h309 hF hB => ?_)
        obtain ⟨rfl, hy308, ky308⟩ := h309
        refine q_ald_n cx dX10_foldDays_35 rfl (lv_at hl 0 rfl) ?_
        refine q_ald_n cx dX10_foldDays_36 rfl (lv_at hl 0 rfl) ?_
        refine q_ild_n cx dX10_foldDays_37 rfl (lv_at hl 1 rfl) ?_
        refine q_cVr (As := [.int (q_i v2_1)]) (rest := [.ref v, .ref y308]) cx hB (fun _ h => h) hN hv kv (by decide) rfl (g_X10_nodeAt l g hN hB.2.1 v hv kv v2_1 (by omega) (by omega)) q_cX10_66 q_dX10_nodeAt (by decide) rfl rfl hl.1 rfl (Nat.le_of_ble_eq_true rfl) dX10_foldDays_38 (fun y311 H locs f310 h312 hF hB => ?_)
        obtain ⟨rfl, hy311, ky311⟩ := h312
        obtain ⟨x313, ex313⟩ : ∃ zz, q_is (q_z f305 y311 3) zz := ⟨_, q_isr _⟩
        refine q_gX10_98 cx hB hy311 ky311 ex313 dX10_foldDays_41 (fun lb314 ub314 => ?_)
        refine q_cVi (As := [.int (q_i x313)]) (rest := [.ref y308]) cx hB (fun _ h => h) hN hv kv (by decide) rfl (g_X10_dayOfYear l g hN hB.2.1 v hv kv x313 (by omega) (by omega)) q_cX10_156 q_dX10_dayOfYear (by decide) rfl rfl hl.1 rfl (Nat.le_of_ble_eq_true rfl) dX10_foldDays_44 (fun y316 H locs f315 ry316 h317 hF hB => ?_)
        obtain ⟨rfl, ly316, uy316⟩ := h317
        refine q_pX10_98 cx hB hy308 ky308 ⟨by omega, by omega⟩ (by omega) (by omega) rfl dX10_foldDays_47 (fun H locs f318 ef318 z319 hB => ?_)
        refine q_iinc (lv' := [(1, .int (q_i (v2_1 + 1))), (0, .ref v)]) cx dX10_foldDays_50 hl (k := 1) rfl (by decide) rfl (fun ls hl => ?_)
        refine lv_goto (tgt := 2) cx.1 cx.2.1 dX10_foldDays_53 (by decide) ?_
        exact ih2 f318 (v2_1 + 1) (by omega) (by omega) (by omega) H locs hB ls (lv_sub hl [1, 0] rfl)
  obtain ⟨H, hH⟩ : ∃ H : Heap, H = s.heap := ⟨_, rfl⟩
  obtain ⟨locs, hlocs⟩ : ∃ z : List Loc, z = [] := ⟨_, rfl⟩
  rw [← hH, ← hlocs] at hB
  rw [← hH, ← hlocs]
  refine q_iconst cx dX10_foldDays_0 ?_
  refine lv_istore_n (lv' := [(1, .int (q_i 0)), (0, .ref v)]) cx.1 cx.2.1 dX10_foldDays_1 rfl hl (by decide) rfl (fun ls hl => ?_)
  exact J2 ((Int.toNat (2147483647 - 0)) + 1) f 0 (by decide) (by decide) (Nat.lt_succ_self _) H locs hB ls (lv_sub hl [1, 0] rfl)
set_option maxHeartbeats 4000000 in
set_option maxRecDepth 100000 in
theorem g_X10_foldDays_1 (l : Launch) (g : q_G) {K : Nat → Nat} {L : List Nat} (hN : L.Nodup) {f : Nat → va_E} (hT : q_Ty g K L f) (v : Nat) (hv : v ∈ L) (kv : K v = 13) : q_Ct l g K L yX10_foldDays cX10_foldDays 2 none 1 21 [.ref v] f [(17, 2, 3)] (q_Pv (fun (f1 : Nat → va_E) => True)) := by
  refine q_ofb (by decide +kernel) hN hT (Nat.le_of_ble_eq_true rfl) ?_
  intro p e s m below meth c ls cx hr hlk hB hl
  have hl : lv_has ls 2 [(0, .ref v)] := hl
  have J2 : ∀ (n : Nat) (f2 : Nat → va_E) (v2_1 : Int) (lv2_1 : 0 ≤ v2_1) (uv2_1 : v2_1 ≤ 10) (hmu : (Int.toNat (2147483647 - v2_1)) < n) (H : Heap) (locs : List Loc) (hB : q_B g K L (fun q => q ∈ L) [(17, 2, 3)] f f2 s H locs) (ls : Array Slot) (hl : lv_has ls 2 [(0, .ref v), (1, .int (q_i v2_1))]), W p l e { frames := 1, cells := 0, slots := 0, locals := 21 } s m ([.ref v] : List Value).toArray below meth c H locs 0 0 (MQ below (q_Q g K L [(17, 2, 3)] f (q_Pv (fun (f1 : Nat → va_E) => True))) ([.ref v] : List Value).toArray s 0 0 (fun q => q ∈ L)) (F0 m 2 ls []) := by
    intro n
    induction n with
    | zero =>
      intro f2 v2_1 lv2_1 uv2_1 hmu
      exact absurd hmu (Nat.not_lt_zero _)
    | succ n ih2 =>
      intro f2 v2_1 lv2_1 uv2_1 hmu H locs hB ls hl
      refine q_ild_n cx dX10_foldDays_2 rfl (lv_at hl 1 rfl) ?_
      refine q_ald_n cx dX10_foldDays_3 rfl (lv_at hl 0 rfl) ?_
      obtain ⟨x291, ex291⟩ : ∃ zz, q_is (q_z f2 v 3) zz := ⟨_, q_isr _⟩
      refine q_gX10_35_13 cx hB hv kv ex291 dX10_foldDays_4 (fun lb292 ub292 => ?_)
      refine q_icge (tgt := 56) cx ⟨by omega, by omega⟩ ⟨by omega, by omega⟩ dX10_foldDays_7 (by decide) (fun c293 => ?_) (fun c293 => ?_)
      · refine q_vret cx hr hlk hB dX10_foldDays_56 ?_
        trivial
      · refine q_ald_n cx dX10_foldDays_10 rfl (lv_at hl 0 rfl) ?_
        refine q_ild_n cx dX10_foldDays_11 rfl (lv_at hl 1 rfl) ?_
        refine q_cVr (As := [.int (q_i v2_1)]) (rest := []) cx hB (fun _ h => h) hN hv kv (by decide) rfl (g_X10_nodeAt_1 l g hN hB.2.1 v hv kv v2_1 (by omega) (by omega)) q_cX10_66 q_dX10_nodeAt (by decide) rfl rfl hl.1 rfl (Nat.le_of_ble_eq_true rfl) dX10_foldDays_12 (fun y295 H locs f294 h296 hF hB => ?_)
        obtain ⟨rfl, hy295, ky295⟩ := h296
        refine q_ald_n cx dX10_foldDays_15 rfl (lv_at hl 0 rfl) ?_
        refine q_ald_n cx dX10_foldDays_16 rfl (lv_at hl 0 rfl) ?_
        refine q_ild_n cx dX10_foldDays_17 rfl (lv_at hl 1 rfl) ?_
        refine q_cVr (As := [.int (q_i v2_1)]) (rest := [.ref v, .ref y295]) cx hB (fun _ h => h) hN hv kv (by decide) rfl (g_X10_nodeAt_1 l g hN hB.2.1 v hv kv v2_1 (by omega) (by omega)) q_cX10_66 q_dX10_nodeAt (by decide) rfl rfl hl.1 rfl (Nat.le_of_ble_eq_true rfl) dX10_foldDays_18 (fun y298 H locs f297 h299 hF hB => ?_)
        obtain ⟨rfl, hy298, ky298⟩ := h299
        obtain ⟨x300, ex300⟩ : ∃ zz, q_is (q_z f2 y298 2) zz := ⟨_, q_isr _⟩
        refine q_gX10_95_17 cx hB hy298 ky298 ex300 dX10_foldDays_21 (fun lb301 ub301 => ?_)
        refine q_cVi (As := [.int (q_i x300)]) (rest := [.ref y295]) cx hB (fun _ h => h) hN hv kv (by decide) rfl (g_X10_dayOfYear_1 l g hN hB.2.1 v hv kv x300 (by omega) (by omega)) q_cX10_156 q_dX10_dayOfYear (by decide) rfl rfl hl.1 rfl (Nat.le_of_ble_eq_true rfl) dX10_foldDays_24 (fun y303 H locs f302 ry303 h304 hF hB => ?_)
        obtain ⟨rfl, ly303, uy303⟩ := h304
        refine q_pX10_95_17 cx hB hy295 ky295 ⟨by omega, by omega⟩ (by omega) (by omega) rfl dX10_foldDays_27 (fun H locs f305 ef305 z306 hB => ?_)
        refine q_ald_n cx dX10_foldDays_30 rfl (lv_at hl 0 rfl) ?_
        refine q_ild_n cx dX10_foldDays_31 rfl (lv_at hl 1 rfl) ?_
        refine q_cVr (As := [.int (q_i v2_1)]) (rest := []) cx hB (fun _ h => h) hN hv kv (by decide) rfl (g_X10_nodeAt_1 l g hN hB.2.1 v hv kv v2_1 (by omega) (by omega)) q_cX10_66 q_dX10_nodeAt (by decide) rfl rfl hl.1 rfl (Nat.le_of_ble_eq_true rfl) dX10_foldDays_32 (fun y308 H locs f307 h309 hF hB => ?_)
        obtain ⟨rfl, hy308, ky308⟩ := h309
        refine q_ald_n cx dX10_foldDays_35 rfl (lv_at hl 0 rfl) ?_
        refine q_ald_n cx dX10_foldDays_36 rfl (lv_at hl 0 rfl) ?_
        refine q_ild_n cx dX10_foldDays_37 rfl (lv_at hl 1 rfl) ?_
        refine q_cVr (As := [.int (q_i v2_1)]) (rest := [.ref v, .ref y308]) cx hB (fun _ h => h) hN hv kv (by decide) rfl (g_X10_nodeAt_1 l g hN hB.2.1 v hv kv v2_1 (by omega) (by omega)) q_cX10_66 q_dX10_nodeAt (by decide) rfl rfl hl.1 rfl (Nat.le_of_ble_eq_true rfl) dX10_foldDays_38 (fun y311 H locs f310 h312 hF hB => ?_)
        obtain ⟨rfl, hy311, ky311⟩ := h312
        obtain ⟨x313, ex313⟩ : ∃ zz, q_is (q_z f305 y311 3) zz := ⟨_, q_isr _⟩
        refine q_gX10_98_17 cx hB hy311 ky311 ex313 dX10_foldDays_41 (fun lb314 ub314 => ?_)
        refine q_cVi (As := [.int (q_i x313)]) (rest := [.ref y308]) cx hB (fun _ h => h) hN hv kv (by decide) rfl (g_X10_dayOfYear_1 l g hN hB.2.1 v hv kv x313 (by omega) (by omega)) q_cX10_156 q_dX10_dayOfYear (by decide) rfl rfl hl.1 rfl (Nat.le_of_ble_eq_true rfl) dX10_foldDays_44 (fun y316 H locs f315 ry316 h317 hF hB => ?_)
        obtain ⟨rfl, ly316, uy316⟩ := h317
        refine q_pX10_98_17 cx hB hy308 ky308 ⟨by omega, by omega⟩ (by omega) (by omega) rfl dX10_foldDays_47 (fun H locs f318 ef318 z319 hB => ?_)
        refine q_iinc (lv' := [(1, .int (q_i (v2_1 + 1))), (0, .ref v)]) cx dX10_foldDays_50 hl (k := 1) rfl (by decide) rfl (fun ls hl => ?_)
        refine lv_goto (tgt := 2) cx.1 cx.2.1 dX10_foldDays_53 (by decide) ?_
        exact ih2 f318 (v2_1 + 1) (by omega) (by omega) (by omega) H locs hB ls (lv_sub hl [1, 0] rfl)
  obtain ⟨H, hH⟩ : ∃ H : Heap, H = s.heap := ⟨_, rfl⟩
  obtain ⟨locs, hlocs⟩ : ∃ z : List Loc, z = [] := ⟨_, rfl⟩
  rw [← hH, ← hlocs] at hB
  rw [← hH, ← hlocs]
  refine q_iconst cx dX10_foldDays_0 ?_
  refine lv_istore_n (lv' := [(1, .int (q_i 0)), (0, .ref v)]) cx.1 cx.2.1 dX10_foldDays_1 rfl hl (by decide) rfl (fun ls hl => ?_)
  exact J2 ((Int.toNat (2147483647 - 0)) + 1) f 0 (by decide) (by decide) (Nat.lt_succ_self _) H locs hB ls (lv_sub hl [1, 0] rfl)
set_option maxHeartbeats 4000000 in
set_option maxRecDepth 100000 in
theorem g_X10_foldDays_2 (l : Launch) (g : q_G) {K : Nat → Nat} {L : List Nat} (hN : L.Nodup) {f : Nat → va_E} (hT : q_Ty g K L f) (v : Nat) (hv : v ∈ L) (kv : K v = 14) : q_Ct l g K L yX10_foldDays cX10_foldDays 2 none 1 21 [.ref v] f [(18, 2, 3)] (q_Pv (fun (f1 : Nat → va_E) => True)) := by
  refine q_ofb (by decide +kernel) hN hT (Nat.le_of_ble_eq_true rfl) ?_
  intro p e s m below meth c ls cx hr hlk hB hl
  have hl : lv_has ls 2 [(0, .ref v)] := hl
  have J2 : ∀ (n : Nat) (f2 : Nat → va_E) (v2_1 : Int) (lv2_1 : 0 ≤ v2_1) (uv2_1 : v2_1 ≤ 10) (hmu : (Int.toNat (2147483647 - v2_1)) < n) (H : Heap) (locs : List Loc) (hB : q_B g K L (fun q => q ∈ L) [(18, 2, 3)] f f2 s H locs) (ls : Array Slot) (hl : lv_has ls 2 [(0, .ref v), (1, .int (q_i v2_1))]), W p l e { frames := 1, cells := 0, slots := 0, locals := 21 } s m ([.ref v] : List Value).toArray below meth c H locs 0 0 (MQ below (q_Q g K L [(18, 2, 3)] f (q_Pv (fun (f1 : Nat → va_E) => True))) ([.ref v] : List Value).toArray s 0 0 (fun q => q ∈ L)) (F0 m 2 ls []) := by
    intro n
    induction n with
    | zero =>
      intro f2 v2_1 lv2_1 uv2_1 hmu
      exact absurd hmu (Nat.not_lt_zero _)
    | succ n ih2 =>
      intro f2 v2_1 lv2_1 uv2_1 hmu H locs hB ls hl
      refine q_ild_n cx dX10_foldDays_2 rfl (lv_at hl 1 rfl) ?_
      refine q_ald_n cx dX10_foldDays_3 rfl (lv_at hl 0 rfl) ?_
      obtain ⟨x291, ex291⟩ : ∃ zz, q_is (q_z f2 v 3) zz := ⟨_, q_isr _⟩
      refine q_gX10_35_14 cx hB hv kv ex291 dX10_foldDays_4 (fun lb292 ub292 => ?_)
      refine q_icge (tgt := 56) cx ⟨by omega, by omega⟩ ⟨by omega, by omega⟩ dX10_foldDays_7 (by decide) (fun c293 => ?_) (fun c293 => ?_)
      · refine q_vret cx hr hlk hB dX10_foldDays_56 ?_
        trivial
      · refine q_ald_n cx dX10_foldDays_10 rfl (lv_at hl 0 rfl) ?_
        refine q_ild_n cx dX10_foldDays_11 rfl (lv_at hl 1 rfl) ?_
        refine q_cVr (As := [.int (q_i v2_1)]) (rest := []) cx hB (fun _ h => h) hN hv kv (by decide) rfl (g_X10_nodeAt_2 l g hN hB.2.1 v hv kv v2_1 (by omega) (by omega)) q_cX10_66 q_dX10_nodeAt (by decide) rfl rfl hl.1 rfl (Nat.le_of_ble_eq_true rfl) dX10_foldDays_12 (fun y295 H locs f294 h296 hF hB => ?_)
        obtain ⟨rfl, hy295, ky295⟩ := h296
        refine q_ald_n cx dX10_foldDays_15 rfl (lv_at hl 0 rfl) ?_
        refine q_ald_n cx dX10_foldDays_16 rfl (lv_at hl 0 rfl) ?_
        refine q_ild_n cx dX10_foldDays_17 rfl (lv_at hl 1 rfl) ?_
        refine q_cVr (As := [.int (q_i v2_1)]) (rest := [.ref v, .ref y295]) cx hB (fun _ h => h) hN hv kv (by decide) rfl (g_X10_nodeAt_2 l g hN hB.2.1 v hv kv v2_1 (by omega) (by omega)) q_cX10_66 q_dX10_nodeAt (by decide) rfl rfl hl.1 rfl (Nat.le_of_ble_eq_true rfl) dX10_foldDays_18 (fun y298 H locs f297 h299 hF hB => ?_)
        obtain ⟨rfl, hy298, ky298⟩ := h299
        obtain ⟨x300, ex300⟩ : ∃ zz, q_is (q_z f2 y298 2) zz := ⟨_, q_isr _⟩
        refine q_gX10_95_18 cx hB hy298 ky298 ex300 dX10_foldDays_21 (fun lb301 ub301 => ?_)
        refine q_cVi (As := [.int (q_i x300)]) (rest := [.ref y295]) cx hB (fun _ h => h) hN hv kv (by decide) rfl (g_X10_dayOfYear_2 l g hN hB.2.1 v hv kv x300 (by omega) (by omega)) q_cX10_156 q_dX10_dayOfYear (by decide) rfl rfl hl.1 rfl (Nat.le_of_ble_eq_true rfl) dX10_foldDays_24 (fun y303 H locs f302 ry303 h304 hF hB => ?_)
        obtain ⟨rfl, ly303, uy303⟩ := h304
        refine q_pX10_95_18 cx hB hy295 ky295 ⟨by omega, by omega⟩ (by omega) (by omega) rfl dX10_foldDays_27 (fun H locs f305 ef305 z306 hB => ?_)
        refine q_ald_n cx dX10_foldDays_30 rfl (lv_at hl 0 rfl) ?_
        refine q_ild_n cx dX10_foldDays_31 rfl (lv_at hl 1 rfl) ?_
        refine q_cVr (As := [.int (q_i v2_1)]) (rest := []) cx hB (fun _ h => h) hN hv kv (by decide) rfl (g_X10_nodeAt_2 l g hN hB.2.1 v hv kv v2_1 (by omega) (by omega)) q_cX10_66 q_dX10_nodeAt (by decide) rfl rfl hl.1 rfl (Nat.le_of_ble_eq_true rfl) dX10_foldDays_32 (fun y308 H locs f307 h309 hF hB => ?_)
        obtain ⟨rfl, hy308, ky308⟩ := h309
        refine q_ald_n cx dX10_foldDays_35 rfl (lv_at hl 0 rfl) ?_
        refine q_ald_n cx dX10_foldDays_36 rfl (lv_at hl 0 rfl) ?_
        refine q_ild_n cx dX10_foldDays_37 rfl (lv_at hl 1 rfl) ?_
        refine q_cVr (As := [.int (q_i v2_1)]) (rest := [.ref v, .ref y308]) cx hB (fun _ h => h) hN hv kv (by decide) rfl (g_X10_nodeAt_2 l g hN hB.2.1 v hv kv v2_1 (by omega) (by omega)) q_cX10_66 q_dX10_nodeAt (by decide) rfl rfl hl.1 rfl (Nat.le_of_ble_eq_true rfl) dX10_foldDays_38 (fun y311 H locs f310 h312 hF hB => ?_)
        obtain ⟨rfl, hy311, ky311⟩ := h312
        obtain ⟨x313, ex313⟩ : ∃ zz, q_is (q_z f305 y311 3) zz := ⟨_, q_isr _⟩
        refine q_gX10_98_18 cx hB hy311 ky311 ex313 dX10_foldDays_41 (fun lb314 ub314 => ?_)
        refine q_cVi (As := [.int (q_i x313)]) (rest := [.ref y308]) cx hB (fun _ h => h) hN hv kv (by decide) rfl (g_X10_dayOfYear_2 l g hN hB.2.1 v hv kv x313 (by omega) (by omega)) q_cX10_156 q_dX10_dayOfYear (by decide) rfl rfl hl.1 rfl (Nat.le_of_ble_eq_true rfl) dX10_foldDays_44 (fun y316 H locs f315 ry316 h317 hF hB => ?_)
        obtain ⟨rfl, ly316, uy316⟩ := h317
        refine q_pX10_98_18 cx hB hy308 ky308 ⟨by omega, by omega⟩ (by omega) (by omega) rfl dX10_foldDays_47 (fun H locs f318 ef318 z319 hB => ?_)
        refine q_iinc (lv' := [(1, .int (q_i (v2_1 + 1))), (0, .ref v)]) cx dX10_foldDays_50 hl (k := 1) rfl (by decide) rfl (fun ls hl => ?_)
        refine lv_goto (tgt := 2) cx.1 cx.2.1 dX10_foldDays_53 (by decide) ?_
        exact ih2 f318 (v2_1 + 1) (by omega) (by omega) (by omega) H locs hB ls (lv_sub hl [1, 0] rfl)
  obtain ⟨H, hH⟩ : ∃ H : Heap, H = s.heap := ⟨_, rfl⟩
  obtain ⟨locs, hlocs⟩ : ∃ z : List Loc, z = [] := ⟨_, rfl⟩
  rw [← hH, ← hlocs] at hB
  rw [← hH, ← hlocs]
  refine q_iconst cx dX10_foldDays_0 ?_
  refine lv_istore_n (lv' := [(1, .int (q_i 0)), (0, .ref v)]) cx.1 cx.2.1 dX10_foldDays_1 rfl hl (by decide) rfl (fun ls hl => ?_)
  exact J2 ((Int.toNat (2147483647 - 0)) + 1) f 0 (by decide) (by decide) (Nat.lt_succ_self _) H locs hB ls (lv_sub hl [1, 0] rfl)
set_option maxHeartbeats 4000000 in
set_option maxRecDepth 100000 in
theorem g_X10_foldDays_3 (l : Launch) (g : q_G) {K : Nat → Nat} {L : List Nat} (hN : L.Nodup) {f : Nat → va_E} (hT : q_Ty g K L f) (v : Nat) (hv : v ∈ L) (kv : K v = 15) : q_Ct l g K L yX10_foldDays cX10_foldDays 2 none 1 21 [.ref v] f [(19, 2, 3)] (q_Pv (fun (f1 : Nat → va_E) => True)) := by
  refine q_ofb (by decide +kernel) hN hT (Nat.le_of_ble_eq_true rfl) ?_
  intro p e s m below meth c ls cx hr hlk hB hl
  have hl : lv_has ls 2 [(0, .ref v)] := hl
  have J2 : ∀ (n : Nat) (f2 : Nat → va_E) (v2_1 : Int) (lv2_1 : 0 ≤ v2_1) (uv2_1 : v2_1 ≤ 10) (hmu : (Int.toNat (2147483647 - v2_1)) < n) (H : Heap) (locs : List Loc) (hB : q_B g K L (fun q => q ∈ L) [(19, 2, 3)] f f2 s H locs) (ls : Array Slot) (hl : lv_has ls 2 [(0, .ref v), (1, .int (q_i v2_1))]), W p l e { frames := 1, cells := 0, slots := 0, locals := 21 } s m ([.ref v] : List Value).toArray below meth c H locs 0 0 (MQ below (q_Q g K L [(19, 2, 3)] f (q_Pv (fun (f1 : Nat → va_E) => True))) ([.ref v] : List Value).toArray s 0 0 (fun q => q ∈ L)) (F0 m 2 ls []) := by
    intro n
    induction n with
    | zero =>
      intro f2 v2_1 lv2_1 uv2_1 hmu
      exact absurd hmu (Nat.not_lt_zero _)
    | succ n ih2 =>
      intro f2 v2_1 lv2_1 uv2_1 hmu H locs hB ls hl
      refine q_ild_n cx dX10_foldDays_2 rfl (lv_at hl 1 rfl) ?_
      refine q_ald_n cx dX10_foldDays_3 rfl (lv_at hl 0 rfl) ?_
      obtain ⟨x291, ex291⟩ : ∃ zz, q_is (q_z f2 v 3) zz := ⟨_, q_isr _⟩
      refine q_gX10_35_15 cx hB hv kv ex291 dX10_foldDays_4 (fun lb292 ub292 => ?_)
      refine q_icge (tgt := 56) cx ⟨by omega, by omega⟩ ⟨by omega, by omega⟩ dX10_foldDays_7 (by decide) (fun c293 => ?_) (fun c293 => ?_)
      · refine q_vret cx hr hlk hB dX10_foldDays_56 ?_
        trivial
      · refine q_ald_n cx dX10_foldDays_10 rfl (lv_at hl 0 rfl) ?_
        refine q_ild_n cx dX10_foldDays_11 rfl (lv_at hl 1 rfl) ?_
        refine q_cVr (As := [.int (q_i v2_1)]) (rest := []) cx hB (fun _ h => h) hN hv kv (by decide) rfl (g_X10_nodeAt_3 l g hN hB.2.1 v hv kv v2_1 (by omega) (by omega)) q_cX10_66 q_dX10_nodeAt (by decide) rfl rfl hl.1 rfl (Nat.le_of_ble_eq_true rfl) dX10_foldDays_12 (fun y295 H locs f294 h296 hF hB => ?_)
        obtain ⟨rfl, hy295, ky295⟩ := h296
        refine q_ald_n cx dX10_foldDays_15 rfl (lv_at hl 0 rfl) ?_
        refine q_ald_n cx dX10_foldDays_16 rfl (lv_at hl 0 rfl) ?_
        refine q_ild_n cx dX10_foldDays_17 rfl (lv_at hl 1 rfl) ?_
        refine q_cVr (As := [.int (q_i v2_1)]) (rest := [.ref v, .ref y295]) cx hB (fun _ h => h) hN hv kv (by decide) rfl (g_X10_nodeAt_3 l g hN hB.2.1 v hv kv v2_1 (by omega) (by omega)) q_cX10_66 q_dX10_nodeAt (by decide) rfl rfl hl.1 rfl (Nat.le_of_ble_eq_true rfl) dX10_foldDays_18 (fun y298 H locs f297 h299 hF hB => ?_)
        obtain ⟨rfl, hy298, ky298⟩ := h299
        obtain ⟨x300, ex300⟩ : ∃ zz, q_is (q_z f2 y298 2) zz := ⟨_, q_isr _⟩
        refine q_gX10_95_19 cx hB hy298 ky298 ex300 dX10_foldDays_21 (fun lb301 ub301 => ?_)
        refine q_cVi (As := [.int (q_i x300)]) (rest := [.ref y295]) cx hB (fun _ h => h) hN hv kv (by decide) rfl (g_X10_dayOfYear_3 l g hN hB.2.1 v hv kv x300 (by omega) (by omega)) q_cX10_156 q_dX10_dayOfYear (by decide) rfl rfl hl.1 rfl (Nat.le_of_ble_eq_true rfl) dX10_foldDays_24 (fun y303 H locs f302 ry303 h304 hF hB => ?_)
        obtain ⟨rfl, ly303, uy303⟩ := h304
        refine q_pX10_95_19 cx hB hy295 ky295 ⟨by omega, by omega⟩ (by omega) (by omega) rfl dX10_foldDays_27 (fun H locs f305 ef305 z306 hB => ?_)
        refine q_ald_n cx dX10_foldDays_30 rfl (lv_at hl 0 rfl) ?_
        refine q_ild_n cx dX10_foldDays_31 rfl (lv_at hl 1 rfl) ?_
        refine q_cVr (As := [.int (q_i v2_1)]) (rest := []) cx hB (fun _ h => h) hN hv kv (by decide) rfl (g_X10_nodeAt_3 l g hN hB.2.1 v hv kv v2_1 (by omega) (by omega)) q_cX10_66 q_dX10_nodeAt (by decide) rfl rfl hl.1 rfl (Nat.le_of_ble_eq_true rfl) dX10_foldDays_32 (fun y308 H locs f307 h309 hF hB => ?_)
        obtain ⟨rfl, hy308, ky308⟩ := h309
        refine q_ald_n cx dX10_foldDays_35 rfl (lv_at hl 0 rfl) ?_
        refine q_ald_n cx dX10_foldDays_36 rfl (lv_at hl 0 rfl) ?_
        refine q_ild_n cx dX10_foldDays_37 rfl (lv_at hl 1 rfl) ?_
        refine q_cVr (As := [.int (q_i v2_1)]) (rest := [.ref v, .ref y308]) cx hB (fun _ h => h) hN hv kv (by decide) rfl (g_X10_nodeAt_3 l g hN hB.2.1 v hv kv v2_1 (by omega) (by omega)) q_cX10_66 q_dX10_nodeAt (by decide) rfl rfl hl.1 rfl (Nat.le_of_ble_eq_true rfl) dX10_foldDays_38 (fun y311 H locs f310 h312 hF hB => ?_)
        obtain ⟨rfl, hy311, ky311⟩ := h312
        obtain ⟨x313, ex313⟩ : ∃ zz, q_is (q_z f305 y311 3) zz := ⟨_, q_isr _⟩
        refine q_gX10_98_19 cx hB hy311 ky311 ex313 dX10_foldDays_41 (fun lb314 ub314 => ?_)
        refine q_cVi (As := [.int (q_i x313)]) (rest := [.ref y308]) cx hB (fun _ h => h) hN hv kv (by decide) rfl (g_X10_dayOfYear_3 l g hN hB.2.1 v hv kv x313 (by omega) (by omega)) q_cX10_156 q_dX10_dayOfYear (by decide) rfl rfl hl.1 rfl (Nat.le_of_ble_eq_true rfl) dX10_foldDays_44 (fun y316 H locs f315 ry316 h317 hF hB => ?_)
        obtain ⟨rfl, ly316, uy316⟩ := h317
        refine q_pX10_98_19 cx hB hy308 ky308 ⟨by omega, by omega⟩ (by omega) (by omega) rfl dX10_foldDays_47 (fun H locs f318 ef318 z319 hB => ?_)
        refine q_iinc (lv' := [(1, .int (q_i (v2_1 + 1))), (0, .ref v)]) cx dX10_foldDays_50 hl (k := 1) rfl (by decide) rfl (fun ls hl => ?_)
        refine lv_goto (tgt := 2) cx.1 cx.2.1 dX10_foldDays_53 (by decide) ?_
        exact ih2 f318 (v2_1 + 1) (by omega) (by omega) (by omega) H locs hB ls (lv_sub hl [1, 0] rfl)
  obtain ⟨H, hH⟩ : ∃ H : Heap, H = s.heap := ⟨_, rfl⟩
  obtain ⟨locs, hlocs⟩ : ∃ z : List Loc, z = [] := ⟨_, rfl⟩
  rw [← hH, ← hlocs] at hB
  rw [← hH, ← hlocs]
  refine q_iconst cx dX10_foldDays_0 ?_
  refine lv_istore_n (lv' := [(1, .int (q_i 0)), (0, .ref v)]) cx.1 cx.2.1 dX10_foldDays_1 rfl hl (by decide) rfl (fun ls hl => ?_)
  exact J2 ((Int.toNat (2147483647 - 0)) + 1) f 0 (by decide) (by decide) (Nat.lt_succ_self _) H locs hB ls (lv_sub hl [1, 0] rfl)
set_option maxHeartbeats 4000000 in
set_option maxRecDepth 100000 in
theorem g_X10_foldDays_4 (l : Launch) (g : q_G) {K : Nat → Nat} {L : List Nat} (hN : L.Nodup) {f : Nat → va_E} (hT : q_Ty g K L f) (v : Nat) (hv : v ∈ L) (kv : K v = 16) : q_Ct l g K L yX10_foldDays cX10_foldDays 2 none 1 21 [.ref v] f [(20, 2, 3)] (q_Pv (fun (f1 : Nat → va_E) => True)) := by
  refine q_ofb (by decide +kernel) hN hT (Nat.le_of_ble_eq_true rfl) ?_
  intro p e s m below meth c ls cx hr hlk hB hl
  have hl : lv_has ls 2 [(0, .ref v)] := hl
  have J2 : ∀ (n : Nat) (f2 : Nat → va_E) (v2_1 : Int) (lv2_1 : 0 ≤ v2_1) (uv2_1 : v2_1 ≤ 10) (hmu : (Int.toNat (2147483647 - v2_1)) < n) (H : Heap) (locs : List Loc) (hB : q_B g K L (fun q => q ∈ L) [(20, 2, 3)] f f2 s H locs) (ls : Array Slot) (hl : lv_has ls 2 [(0, .ref v), (1, .int (q_i v2_1))]), W p l e { frames := 1, cells := 0, slots := 0, locals := 21 } s m ([.ref v] : List Value).toArray below meth c H locs 0 0 (MQ below (q_Q g K L [(20, 2, 3)] f (q_Pv (fun (f1 : Nat → va_E) => True))) ([.ref v] : List Value).toArray s 0 0 (fun q => q ∈ L)) (F0 m 2 ls []) := by
    intro n
    induction n with
    | zero =>
      intro f2 v2_1 lv2_1 uv2_1 hmu
      exact absurd hmu (Nat.not_lt_zero _)
    | succ n ih2 =>
      intro f2 v2_1 lv2_1 uv2_1 hmu H locs hB ls hl
      refine q_ild_n cx dX10_foldDays_2 rfl (lv_at hl 1 rfl) ?_
      refine q_ald_n cx dX10_foldDays_3 rfl (lv_at hl 0 rfl) ?_
      obtain ⟨x291, ex291⟩ : ∃ zz, q_is (q_z f2 v 3) zz := ⟨_, q_isr _⟩
      refine q_gX10_35_16 cx hB hv kv ex291 dX10_foldDays_4 (fun lb292 ub292 => ?_)
      refine q_icge (tgt := 56) cx ⟨by omega, by omega⟩ ⟨by omega, by omega⟩ dX10_foldDays_7 (by decide) (fun c293 => ?_) (fun c293 => ?_)
      · refine q_vret cx hr hlk hB dX10_foldDays_56 ?_
        trivial
      · refine q_ald_n cx dX10_foldDays_10 rfl (lv_at hl 0 rfl) ?_
        refine q_ild_n cx dX10_foldDays_11 rfl (lv_at hl 1 rfl) ?_
        refine q_cVr (As := [.int (q_i v2_1)]) (rest := []) cx hB (fun _ h => h) hN hv kv (by decide) rfl (g_X10_nodeAt_4 l g hN hB.2.1 v hv kv v2_1 (by omega) (by omega)) q_cX10_66 q_dX10_nodeAt (by decide) rfl rfl hl.1 rfl (Nat.le_of_ble_eq_true rfl) dX10_foldDays_12 (fun y295 H locs f294 h296 hF hB => ?_)
        obtain ⟨rfl, hy295, ky295⟩ := h296
        refine q_ald_n cx dX10_foldDays_15 rfl (lv_at hl 0 rfl) ?_
        refine q_ald_n cx dX10_foldDays_16 rfl (lv_at hl 0 rfl) ?_
        refine q_ild_n cx dX10_foldDays_17 rfl (lv_at hl 1 rfl) ?_
        refine q_cVr (As := [.int (q_i v2_1)]) (rest := [.ref v, .ref y295]) cx hB (fun _ h => h) hN hv kv (by decide) rfl (g_X10_nodeAt_4 l g hN hB.2.1 v hv kv v2_1 (by omega) (by omega)) q_cX10_66 q_dX10_nodeAt (by decide) rfl rfl hl.1 rfl (Nat.le_of_ble_eq_true rfl) dX10_foldDays_18 (fun y298 H locs f297 h299 hF hB => ?_)
        obtain ⟨rfl, hy298, ky298⟩ := h299
        obtain ⟨x300, ex300⟩ : ∃ zz, q_is (q_z f2 y298 2) zz := ⟨_, q_isr _⟩
        refine q_gX10_95_20 cx hB hy298 ky298 ex300 dX10_foldDays_21 (fun lb301 ub301 => ?_)
        refine q_cVi (As := [.int (q_i x300)]) (rest := [.ref y295]) cx hB (fun _ h => h) hN hv kv (by decide) rfl (g_X10_dayOfYear_4 l g hN hB.2.1 v hv kv x300 (by omega) (by omega)) q_cX10_156 q_dX10_dayOfYear (by decide) rfl rfl hl.1 rfl (Nat.le_of_ble_eq_true rfl) dX10_foldDays_24 (fun y303 H locs f302 ry303 h304 hF hB => ?_)
        obtain ⟨rfl, ly303, uy303⟩ := h304
        refine q_pX10_95_20 cx hB hy295 ky295 ⟨by omega, by omega⟩ (by omega) (by omega) rfl dX10_foldDays_27 (fun H locs f305 ef305 z306 hB => ?_)
        refine q_ald_n cx dX10_foldDays_30 rfl (lv_at hl 0 rfl) ?_
        refine q_ild_n cx dX10_foldDays_31 rfl (lv_at hl 1 rfl) ?_
        refine q_cVr (As := [.int (q_i v2_1)]) (rest := []) cx hB (fun _ h => h) hN hv kv (by decide) rfl (g_X10_nodeAt_4 l g hN hB.2.1 v hv kv v2_1 (by omega) (by omega)) q_cX10_66 q_dX10_nodeAt (by decide) rfl rfl hl.1 rfl (Nat.le_of_ble_eq_true rfl) dX10_foldDays_32 (fun y308 H locs f307 h309 hF hB => ?_)
        obtain ⟨rfl, hy308, ky308⟩ := h309
        refine q_ald_n cx dX10_foldDays_35 rfl (lv_at hl 0 rfl) ?_
        refine q_ald_n cx dX10_foldDays_36 rfl (lv_at hl 0 rfl) ?_
        refine q_ild_n cx dX10_foldDays_37 rfl (lv_at hl 1 rfl) ?_
        refine q_cVr (As := [.int (q_i v2_1)]) (rest := [.ref v, .ref y308]) cx hB (fun _ h => h) hN hv kv (by decide) rfl (g_X10_nodeAt_4 l g hN hB.2.1 v hv kv v2_1 (by omega) (by omega)) q_cX10_66 q_dX10_nodeAt (by decide) rfl rfl hl.1 rfl (Nat.le_of_ble_eq_true rfl) dX10_foldDays_38 (fun y311 H locs f310 h312 hF hB => ?_)
        obtain ⟨rfl, hy311, ky311⟩ := h312
        obtain ⟨x313, ex313⟩ : ∃ zz, q_is (q_z f305 y311 3) zz := ⟨_, q_isr _⟩
        refine q_gX10_98_20 cx hB hy311 ky311 ex313 dX10_foldDays_41 (fun lb314 ub314 => ?_)
        refine q_cVi (As := [.int (q_i x313)]) (rest := [.ref y308]) cx hB (fun _ h => h) hN hv kv (by decide) rfl (g_X10_dayOfYear_4 l g hN hB.2.1 v hv kv x313 (by omega) (by omega)) q_cX10_156 q_dX10_dayOfYear (by decide) rfl rfl hl.1 rfl (Nat.le_of_ble_eq_true rfl) dX10_foldDays_44 (fun y316 H locs f315 ry316 h317 hF hB => ?_)
        obtain ⟨rfl, ly316, uy316⟩ := h317
        refine q_pX10_98_20 cx hB hy308 ky308 ⟨by omega, by omega⟩ (by omega) (by omega) rfl dX10_foldDays_47 (fun H locs f318 ef318 z319 hB => ?_)
        refine q_iinc (lv' := [(1, .int (q_i (v2_1 + 1))), (0, .ref v)]) cx dX10_foldDays_50 hl (k := 1) rfl (by decide) rfl (fun ls hl => ?_)
        refine lv_goto (tgt := 2) cx.1 cx.2.1 dX10_foldDays_53 (by decide) ?_
        exact ih2 f318 (v2_1 + 1) (by omega) (by omega) (by omega) H locs hB ls (lv_sub hl [1, 0] rfl)
  obtain ⟨H, hH⟩ : ∃ H : Heap, H = s.heap := ⟨_, rfl⟩
  obtain ⟨locs, hlocs⟩ : ∃ z : List Loc, z = [] := ⟨_, rfl⟩
  rw [← hH, ← hlocs] at hB
  rw [← hH, ← hlocs]
  refine q_iconst cx dX10_foldDays_0 ?_
  refine lv_istore_n (lv' := [(1, .int (q_i 0)), (0, .ref v)]) cx.1 cx.2.1 dX10_foldDays_1 rfl hl (by decide) rfl (fun ls hl => ?_)
  exact J2 ((Int.toNat (2147483647 - 0)) + 1) f 0 (by decide) (by decide) (Nat.lt_succ_self _) H locs hB ls (lv_sub hl [1, 0] rfl)
set_option maxHeartbeats 4000000 in
set_option maxRecDepth 100000 in
theorem g_X10_energySum (l : Launch) (g : q_G) {K : Nat → Nat} {L : List Nat} (hN : L.Nodup) {f : Nat → va_E} (hT : q_Ty g K L f) (v : Nat) (hv : v ∈ L) (kv : K v = 10) : q_Ct l g K L yX10_energySum cX10_energySum 3 (some .int) 1 21 [.ref v] f [] (q_Pi (fun (z : Int) (f1 : Nat → va_E) => f = f1)) := by
  refine q_ofb (by decide +kernel) hN hT (Nat.le_of_ble_eq_true rfl) ?_
  intro p e s m below meth c ls cx hr hlk hB hl
  have hl : lv_has ls 3 [(0, .ref v)] := hl
  have J4 : ∀ (n : Nat) (v4_1 : Int) (lv4_1 : (-2147483648) ≤ v4_1) (uv4_1 : v4_1 ≤ 2147483647) (v4_2 : Int) (lv4_2 : 0 ≤ v4_2) (uv4_2 : v4_2 ≤ 10) (hmu : (Int.toNat (2147483647 - v4_2)) < n) (H : Heap) (locs : List Loc) (hB : q_B g K L (fun q => q ∈ L) [] f f s H locs) (ls : Array Slot) (hl : lv_has ls 3 [(0, .ref v), (1, .int (q_i v4_1)), (2, .int (q_i v4_2))]), W p l e { frames := 1, cells := 0, slots := 0, locals := 21 } s m ([.ref v] : List Value).toArray below meth c H locs 0 0 (MQ below (q_Q g K L [] f (q_Pi (fun (z : Int) (f1 : Nat → va_E) => f = f1))) ([.ref v] : List Value).toArray s 0 0 (fun q => q ∈ L)) (F0 m 4 ls []) := by
    intro n
    induction n with
    | zero =>
      intro v4_1 lv4_1 uv4_1 v4_2 lv4_2 uv4_2 hmu
      exact absurd hmu (Nat.not_lt_zero _)
    | succ n ih4 =>
      intro v4_1 lv4_1 uv4_1 v4_2 lv4_2 uv4_2 hmu H locs hB ls hl
      refine q_ild_n cx dX10_energySum_4 rfl (lv_at hl 2 rfl) ?_
      refine q_ald_n cx dX10_energySum_5 rfl (lv_at hl 0 rfl) ?_
      obtain ⟨x90, ex90⟩ : ∃ zz, q_is (q_z f v 3) zz := ⟨_, q_isr _⟩
      refine q_gX10_35 cx hB hv kv ex90 dX10_energySum_6 (fun lb91 ub91 => ?_)
      refine q_icge (tgt := 29) cx ⟨by omega, by omega⟩ ⟨by omega, by omega⟩ dX10_energySum_9 (by decide) (fun c92 => ?_) (fun c92 => ?_)
      · refine q_ild_n cx dX10_energySum_29 rfl (lv_at hl 1 rfl) ?_
        refine q_iret cx hr hlk hB dX10_energySum_30 ⟨by omega, by omega⟩ ?_
        exact rfl
      · refine q_ild_n cx dX10_energySum_12 rfl (lv_at hl 1 rfl) ?_
        refine q_ald_n cx dX10_energySum_13 rfl (lv_at hl 0 rfl) ?_
        refine q_ild_n cx dX10_energySum_14 rfl (lv_at hl 2 rfl) ?_
        refine q_cVr (As := [.int (q_i v4_2)]) (rest := [.int (q_i v4_1)]) cx hB (fun _ h => h) hN hv kv (by decide) rfl (g_X10_nodeAt l g hN hB.2.1 v hv kv v4_2 (by omega) (by omega)) q_cX10_66 q_dX10_nodeAt (by decide) rfl rfl hl.1 rfl (Nat.le_of_ble_eq_true rfl) dX10_energySum_15 (fun y94 H locs f93 h95 hF hB => ?_)
        obtain ⟨rfl, hy94, ky94⟩ := h95
        obtain ⟨x96, ex96⟩ : ∃ zz, q_is (q_z f y94 4) zz := ⟨_, q_isr _⟩
        refine q_gX10_101 cx hB hy94 ky94 ex96 dX10_energySum_18 (fun lb97 ub97 => ?_)
        refine q_iadd cx dX10_energySum_21 ?_
        refine q_any (fun y98 ry98 ey98 => ?_)
        refine lv_istore_n (lv' := [(1, .int (q_i y98)), (0, .ref v), (2, .int (q_i v4_2))]) cx.1 cx.2.1 dX10_energySum_22 rfl hl (by decide) rfl (fun ls hl => ?_)
        refine q_iinc (lv' := [(2, .int (q_i (v4_2 + 1))), (1, .int (q_i y98)), (0, .ref v)]) cx dX10_energySum_23 hl (k := 2) rfl (by decide) rfl (fun ls hl => ?_)
        refine lv_goto (tgt := 4) cx.1 cx.2.1 dX10_energySum_26 (by decide) ?_
        exact ih4 y98 (by omega) (by omega) (v4_2 + 1) (by omega) (by omega) (by omega) H locs hB ls (lv_sub hl [2, 1, 0] rfl)
  obtain ⟨H, hH⟩ : ∃ H : Heap, H = s.heap := ⟨_, rfl⟩
  obtain ⟨locs, hlocs⟩ : ∃ z : List Loc, z = [] := ⟨_, rfl⟩
  rw [← hH, ← hlocs] at hB
  rw [← hH, ← hlocs]
  refine q_iconst cx dX10_energySum_0 ?_
  refine lv_istore_n (lv' := [(1, .int (q_i 0)), (0, .ref v)]) cx.1 cx.2.1 dX10_energySum_1 rfl hl (by decide) rfl (fun ls hl => ?_)
  refine q_iconst cx dX10_energySum_2 ?_
  refine lv_istore_n (lv' := [(2, .int (q_i 0)), (1, .int (q_i 0)), (0, .ref v)]) cx.1 cx.2.1 dX10_energySum_3 rfl hl (by decide) rfl (fun ls hl => ?_)
  exact J4 ((Int.toNat (2147483647 - 0)) + 1) 0 (by decide) (by decide) 0 (by decide) (by decide) (Nat.lt_succ_self _) H locs hB ls (lv_sub hl [2, 1, 0] rfl)
set_option maxHeartbeats 4000000 in
set_option maxRecDepth 100000 in
theorem g_X10_energySum_1 (l : Launch) (g : q_G) {K : Nat → Nat} {L : List Nat} (hN : L.Nodup) {f : Nat → va_E} (hT : q_Ty g K L f) (v : Nat) (hv : v ∈ L) (kv : K v = 13) : q_Ct l g K L yX10_energySum cX10_energySum 3 (some .int) 1 21 [.ref v] f [] (q_Pi (fun (z : Int) (f1 : Nat → va_E) => f = f1)) := by
  refine q_ofb (by decide +kernel) hN hT (Nat.le_of_ble_eq_true rfl) ?_
  intro p e s m below meth c ls cx hr hlk hB hl
  have hl : lv_has ls 3 [(0, .ref v)] := hl
  have J4 : ∀ (n : Nat) (v4_1 : Int) (lv4_1 : (-2147483648) ≤ v4_1) (uv4_1 : v4_1 ≤ 2147483647) (v4_2 : Int) (lv4_2 : 0 ≤ v4_2) (uv4_2 : v4_2 ≤ 10) (hmu : (Int.toNat (2147483647 - v4_2)) < n) (H : Heap) (locs : List Loc) (hB : q_B g K L (fun q => q ∈ L) [] f f s H locs) (ls : Array Slot) (hl : lv_has ls 3 [(0, .ref v), (1, .int (q_i v4_1)), (2, .int (q_i v4_2))]), W p l e { frames := 1, cells := 0, slots := 0, locals := 21 } s m ([.ref v] : List Value).toArray below meth c H locs 0 0 (MQ below (q_Q g K L [] f (q_Pi (fun (z : Int) (f1 : Nat → va_E) => f = f1))) ([.ref v] : List Value).toArray s 0 0 (fun q => q ∈ L)) (F0 m 4 ls []) := by
    intro n
    induction n with
    | zero =>
      intro v4_1 lv4_1 uv4_1 v4_2 lv4_2 uv4_2 hmu
      exact absurd hmu (Nat.not_lt_zero _)
    | succ n ih4 =>
      intro v4_1 lv4_1 uv4_1 v4_2 lv4_2 uv4_2 hmu H locs hB ls hl
      refine q_ild_n cx dX10_energySum_4 rfl (lv_at hl 2 rfl) ?_
      refine q_ald_n cx dX10_energySum_5 rfl (lv_at hl 0 rfl) ?_
      obtain ⟨x90, ex90⟩ : ∃ zz, q_is (q_z f v 3) zz := ⟨_, q_isr _⟩
      refine q_gX10_35_13 cx hB hv kv ex90 dX10_energySum_6 (fun lb91 ub91 => ?_)
      refine q_icge (tgt := 29) cx ⟨by omega, by omega⟩ ⟨by omega, by omega⟩ dX10_energySum_9 (by decide) (fun c92 => ?_) (fun c92 => ?_)
      · refine q_ild_n cx dX10_energySum_29 rfl (lv_at hl 1 rfl) ?_
        refine q_iret cx hr hlk hB dX10_energySum_30 ⟨by omega, by omega⟩ ?_
        exact rfl
      · refine q_ild_n cx dX10_energySum_12 rfl (lv_at hl 1 rfl) ?_
        refine q_ald_n cx dX10_energySum_13 rfl (lv_at hl 0 rfl) ?_
        refine q_ild_n cx dX10_energySum_14 rfl (lv_at hl 2 rfl) ?_
        refine q_cVr (As := [.int (q_i v4_2)]) (rest := [.int (q_i v4_1)]) cx hB (fun _ h => h) hN hv kv (by decide) rfl (g_X10_nodeAt_1 l g hN hB.2.1 v hv kv v4_2 (by omega) (by omega)) q_cX10_66 q_dX10_nodeAt (by decide) rfl rfl hl.1 rfl (Nat.le_of_ble_eq_true rfl) dX10_energySum_15 (fun y94 H locs f93 h95 hF hB => ?_)
        obtain ⟨rfl, hy94, ky94⟩ := h95
        obtain ⟨x96, ex96⟩ : ∃ zz, q_is (q_z f y94 4) zz := ⟨_, q_isr _⟩
        refine q_gX10_101_17 cx hB hy94 ky94 ex96 dX10_energySum_18 (fun lb97 ub97 => ?_)
        refine q_iadd cx dX10_energySum_21 ?_
        refine q_any (fun y98 ry98 ey98 => ?_)
        refine lv_istore_n (lv' := [(1, .int (q_i y98)), (0, .ref v), (2, .int (q_i v4_2))]) cx.1 cx.2.1 dX10_energySum_22 rfl hl (by decide) rfl (fun ls hl => ?_)
        refine q_iinc (lv' := [(2, .int (q_i (v4_2 + 1))), (1, .int (q_i y98)), (0, .ref v)]) cx dX10_energySum_23 hl (k := 2) rfl (by decide) rfl (fun ls hl => ?_)
        refine lv_goto (tgt := 4) cx.1 cx.2.1 dX10_energySum_26 (by decide) ?_
        exact ih4 y98 (by omega) (by omega) (v4_2 + 1) (by omega) (by omega) (by omega) H locs hB ls (lv_sub hl [2, 1, 0] rfl)
  obtain ⟨H, hH⟩ : ∃ H : Heap, H = s.heap := ⟨_, rfl⟩
  obtain ⟨locs, hlocs⟩ : ∃ z : List Loc, z = [] := ⟨_, rfl⟩
  rw [← hH, ← hlocs] at hB
  rw [← hH, ← hlocs]
  refine q_iconst cx dX10_energySum_0 ?_
  refine lv_istore_n (lv' := [(1, .int (q_i 0)), (0, .ref v)]) cx.1 cx.2.1 dX10_energySum_1 rfl hl (by decide) rfl (fun ls hl => ?_)
  refine q_iconst cx dX10_energySum_2 ?_
  refine lv_istore_n (lv' := [(2, .int (q_i 0)), (1, .int (q_i 0)), (0, .ref v)]) cx.1 cx.2.1 dX10_energySum_3 rfl hl (by decide) rfl (fun ls hl => ?_)
  exact J4 ((Int.toNat (2147483647 - 0)) + 1) 0 (by decide) (by decide) 0 (by decide) (by decide) (Nat.lt_succ_self _) H locs hB ls (lv_sub hl [2, 1, 0] rfl)
set_option maxHeartbeats 4000000 in
set_option maxRecDepth 100000 in
theorem g_X10_energySum_2 (l : Launch) (g : q_G) {K : Nat → Nat} {L : List Nat} (hN : L.Nodup) {f : Nat → va_E} (hT : q_Ty g K L f) (v : Nat) (hv : v ∈ L) (kv : K v = 14) : q_Ct l g K L yX10_energySum cX10_energySum 3 (some .int) 1 21 [.ref v] f [] (q_Pi (fun (z : Int) (f1 : Nat → va_E) => f = f1)) := by
  refine q_ofb (by decide +kernel) hN hT (Nat.le_of_ble_eq_true rfl) ?_
  intro p e s m below meth c ls cx hr hlk hB hl
  have hl : lv_has ls 3 [(0, .ref v)] := hl
  have J4 : ∀ (n : Nat) (v4_1 : Int) (lv4_1 : (-2147483648) ≤ v4_1) (uv4_1 : v4_1 ≤ 2147483647) (v4_2 : Int) (lv4_2 : 0 ≤ v4_2) (uv4_2 : v4_2 ≤ 10) (hmu : (Int.toNat (2147483647 - v4_2)) < n) (H : Heap) (locs : List Loc) (hB : q_B g K L (fun q => q ∈ L) [] f f s H locs) (ls : Array Slot) (hl : lv_has ls 3 [(0, .ref v), (1, .int (q_i v4_1)), (2, .int (q_i v4_2))]), W p l e { frames := 1, cells := 0, slots := 0, locals := 21 } s m ([.ref v] : List Value).toArray below meth c H locs 0 0 (MQ below (q_Q g K L [] f (q_Pi (fun (z : Int) (f1 : Nat → va_E) => f = f1))) ([.ref v] : List Value).toArray s 0 0 (fun q => q ∈ L)) (F0 m 4 ls []) := by
    intro n
    induction n with
    | zero =>
      intro v4_1 lv4_1 uv4_1 v4_2 lv4_2 uv4_2 hmu
      exact absurd hmu (Nat.not_lt_zero _)
    | succ n ih4 =>
      intro v4_1 lv4_1 uv4_1 v4_2 lv4_2 uv4_2 hmu H locs hB ls hl
      refine q_ild_n cx dX10_energySum_4 rfl (lv_at hl 2 rfl) ?_
      refine q_ald_n cx dX10_energySum_5 rfl (lv_at hl 0 rfl) ?_
      obtain ⟨x90, ex90⟩ : ∃ zz, q_is (q_z f v 3) zz := ⟨_, q_isr _⟩
      refine q_gX10_35_14 cx hB hv kv ex90 dX10_energySum_6 (fun lb91 ub91 => ?_)
      refine q_icge (tgt := 29) cx ⟨by omega, by omega⟩ ⟨by omega, by omega⟩ dX10_energySum_9 (by decide) (fun c92 => ?_) (fun c92 => ?_)
      · refine q_ild_n cx dX10_energySum_29 rfl (lv_at hl 1 rfl) ?_
        refine q_iret cx hr hlk hB dX10_energySum_30 ⟨by omega, by omega⟩ ?_
        exact rfl
      · refine q_ild_n cx dX10_energySum_12 rfl (lv_at hl 1 rfl) ?_
        refine q_ald_n cx dX10_energySum_13 rfl (lv_at hl 0 rfl) ?_
        refine q_ild_n cx dX10_energySum_14 rfl (lv_at hl 2 rfl) ?_
        refine q_cVr (As := [.int (q_i v4_2)]) (rest := [.int (q_i v4_1)]) cx hB (fun _ h => h) hN hv kv (by decide) rfl (g_X10_nodeAt_2 l g hN hB.2.1 v hv kv v4_2 (by omega) (by omega)) q_cX10_66 q_dX10_nodeAt (by decide) rfl rfl hl.1 rfl (Nat.le_of_ble_eq_true rfl) dX10_energySum_15 (fun y94 H locs f93 h95 hF hB => ?_)
        obtain ⟨rfl, hy94, ky94⟩ := h95
        obtain ⟨x96, ex96⟩ : ∃ zz, q_is (q_z f y94 4) zz := ⟨_, q_isr _⟩
        refine q_gX10_101_18 cx hB hy94 ky94 ex96 dX10_energySum_18 (fun lb97 ub97 => ?_)
        refine q_iadd cx dX10_energySum_21 ?_
        refine q_any (fun y98 ry98 ey98 => ?_)
        refine lv_istore_n (lv' := [(1, .int (q_i y98)), (0, .ref v), (2, .int (q_i v4_2))]) cx.1 cx.2.1 dX10_energySum_22 rfl hl (by decide) rfl (fun ls hl => ?_)
        refine q_iinc (lv' := [(2, .int (q_i (v4_2 + 1))), (1, .int (q_i y98)), (0, .ref v)]) cx dX10_energySum_23 hl (k := 2) rfl (by decide) rfl (fun ls hl => ?_)
        refine lv_goto (tgt := 4) cx.1 cx.2.1 dX10_energySum_26 (by decide) ?_
        exact ih4 y98 (by omega) (by omega) (v4_2 + 1) (by omega) (by omega) (by omega) H locs hB ls (lv_sub hl [2, 1, 0] rfl)
  obtain ⟨H, hH⟩ : ∃ H : Heap, H = s.heap := ⟨_, rfl⟩
  obtain ⟨locs, hlocs⟩ : ∃ z : List Loc, z = [] := ⟨_, rfl⟩
  rw [← hH, ← hlocs] at hB
  rw [← hH, ← hlocs]
  refine q_iconst cx dX10_energySum_0 ?_
  refine lv_istore_n (lv' := [(1, .int (q_i 0)), (0, .ref v)]) cx.1 cx.2.1 dX10_energySum_1 rfl hl (by decide) rfl (fun ls hl => ?_)
  refine q_iconst cx dX10_energySum_2 ?_
  refine lv_istore_n (lv' := [(2, .int (q_i 0)), (1, .int (q_i 0)), (0, .ref v)]) cx.1 cx.2.1 dX10_energySum_3 rfl hl (by decide) rfl (fun ls hl => ?_)
  exact J4 ((Int.toNat (2147483647 - 0)) + 1) 0 (by decide) (by decide) 0 (by decide) (by decide) (Nat.lt_succ_self _) H locs hB ls (lv_sub hl [2, 1, 0] rfl)
set_option maxHeartbeats 4000000 in
set_option maxRecDepth 100000 in
theorem g_X10_energySum_3 (l : Launch) (g : q_G) {K : Nat → Nat} {L : List Nat} (hN : L.Nodup) {f : Nat → va_E} (hT : q_Ty g K L f) (v : Nat) (hv : v ∈ L) (kv : K v = 15) : q_Ct l g K L yX10_energySum cX10_energySum 3 (some .int) 1 21 [.ref v] f [] (q_Pi (fun (z : Int) (f1 : Nat → va_E) => f = f1)) := by
  refine q_ofb (by decide +kernel) hN hT (Nat.le_of_ble_eq_true rfl) ?_
  intro p e s m below meth c ls cx hr hlk hB hl
  have hl : lv_has ls 3 [(0, .ref v)] := hl
  have J4 : ∀ (n : Nat) (v4_1 : Int) (lv4_1 : (-2147483648) ≤ v4_1) (uv4_1 : v4_1 ≤ 2147483647) (v4_2 : Int) (lv4_2 : 0 ≤ v4_2) (uv4_2 : v4_2 ≤ 10) (hmu : (Int.toNat (2147483647 - v4_2)) < n) (H : Heap) (locs : List Loc) (hB : q_B g K L (fun q => q ∈ L) [] f f s H locs) (ls : Array Slot) (hl : lv_has ls 3 [(0, .ref v), (1, .int (q_i v4_1)), (2, .int (q_i v4_2))]), W p l e { frames := 1, cells := 0, slots := 0, locals := 21 } s m ([.ref v] : List Value).toArray below meth c H locs 0 0 (MQ below (q_Q g K L [] f (q_Pi (fun (z : Int) (f1 : Nat → va_E) => f = f1))) ([.ref v] : List Value).toArray s 0 0 (fun q => q ∈ L)) (F0 m 4 ls []) := by
    intro n
    induction n with
    | zero =>
      intro v4_1 lv4_1 uv4_1 v4_2 lv4_2 uv4_2 hmu
      exact absurd hmu (Nat.not_lt_zero _)
    | succ n ih4 =>
      intro v4_1 lv4_1 uv4_1 v4_2 lv4_2 uv4_2 hmu H locs hB ls hl
      refine q_ild_n cx dX10_energySum_4 rfl (lv_at hl 2 rfl) ?_
      refine q_ald_n cx dX10_energySum_5 rfl (lv_at hl 0 rfl) ?_
      obtain ⟨x90, ex90⟩ : ∃ zz, q_is (q_z f v 3) zz := ⟨_, q_isr _⟩
      refine q_gX10_35_15 cx hB hv kv ex90 dX10_energySum_6 (fun lb91 ub91 => ?_)
      refine q_icge (tgt := 29) cx ⟨by omega, by omega⟩ ⟨by omega, by omega⟩ dX10_energySum_9 (by decide) (fun c92 => ?_) (fun c92 => ?_)
      · refine q_ild_n cx dX10_energySum_29 rfl (lv_at hl 1 rfl) ?_
        refine q_iret cx hr hlk hB dX10_energySum_30 ⟨by omega, by omega⟩ ?_
        exact rfl
      · refine q_ild_n cx dX10_energySum_12 rfl (lv_at hl 1 rfl) ?_
        refine q_ald_n cx dX10_energySum_13 rfl (lv_at hl 0 rfl) ?_
        refine q_ild_n cx dX10_energySum_14 rfl (lv_at hl 2 rfl) ?_
        refine q_cVr (As := [.int (q_i v4_2)]) (rest := [.int (q_i v4_1)]) cx hB (fun _ h => h) hN hv kv (by decide) rfl (g_X10_nodeAt_3 l g hN hB.2.1 v hv kv v4_2 (by omega) (by omega)) q_cX10_66 q_dX10_nodeAt (by decide) rfl rfl hl.1 rfl (Nat.le_of_ble_eq_true rfl) dX10_energySum_15 (fun y94 H locs f93 h95 hF hB => ?_)
        obtain ⟨rfl, hy94, ky94⟩ := h95
        obtain ⟨x96, ex96⟩ : ∃ zz, q_is (q_z f y94 4) zz := ⟨_, q_isr _⟩
        refine q_gX10_101_19 cx hB hy94 ky94 ex96 dX10_energySum_18 (fun lb97 ub97 => ?_)
        refine q_iadd cx dX10_energySum_21 ?_
        refine q_any (fun y98 ry98 ey98 => ?_)
        refine lv_istore_n (lv' := [(1, .int (q_i y98)), (0, .ref v), (2, .int (q_i v4_2))]) cx.1 cx.2.1 dX10_energySum_22 rfl hl (by decide) rfl (fun ls hl => ?_)
        refine q_iinc (lv' := [(2, .int (q_i (v4_2 + 1))), (1, .int (q_i y98)), (0, .ref v)]) cx dX10_energySum_23 hl (k := 2) rfl (by decide) rfl (fun ls hl => ?_)
        refine lv_goto (tgt := 4) cx.1 cx.2.1 dX10_energySum_26 (by decide) ?_
        exact ih4 y98 (by omega) (by omega) (v4_2 + 1) (by omega) (by omega) (by omega) H locs hB ls (lv_sub hl [2, 1, 0] rfl)
  obtain ⟨H, hH⟩ : ∃ H : Heap, H = s.heap := ⟨_, rfl⟩
  obtain ⟨locs, hlocs⟩ : ∃ z : List Loc, z = [] := ⟨_, rfl⟩
  rw [← hH, ← hlocs] at hB
  rw [← hH, ← hlocs]
  refine q_iconst cx dX10_energySum_0 ?_
  refine lv_istore_n (lv' := [(1, .int (q_i 0)), (0, .ref v)]) cx.1 cx.2.1 dX10_energySum_1 rfl hl (by decide) rfl (fun ls hl => ?_)
  refine q_iconst cx dX10_energySum_2 ?_
  refine lv_istore_n (lv' := [(2, .int (q_i 0)), (1, .int (q_i 0)), (0, .ref v)]) cx.1 cx.2.1 dX10_energySum_3 rfl hl (by decide) rfl (fun ls hl => ?_)
  exact J4 ((Int.toNat (2147483647 - 0)) + 1) 0 (by decide) (by decide) 0 (by decide) (by decide) (Nat.lt_succ_self _) H locs hB ls (lv_sub hl [2, 1, 0] rfl)
set_option maxHeartbeats 4000000 in
set_option maxRecDepth 100000 in
theorem g_X10_energySum_4 (l : Launch) (g : q_G) {K : Nat → Nat} {L : List Nat} (hN : L.Nodup) {f : Nat → va_E} (hT : q_Ty g K L f) (v : Nat) (hv : v ∈ L) (kv : K v = 16) : q_Ct l g K L yX10_energySum cX10_energySum 3 (some .int) 1 21 [.ref v] f [] (q_Pi (fun (z : Int) (f1 : Nat → va_E) => f = f1)) := by
  refine q_ofb (by decide +kernel) hN hT (Nat.le_of_ble_eq_true rfl) ?_
  intro p e s m below meth c ls cx hr hlk hB hl
  have hl : lv_has ls 3 [(0, .ref v)] := hl
  have J4 : ∀ (n : Nat) (v4_1 : Int) (lv4_1 : (-2147483648) ≤ v4_1) (uv4_1 : v4_1 ≤ 2147483647) (v4_2 : Int) (lv4_2 : 0 ≤ v4_2) (uv4_2 : v4_2 ≤ 10) (hmu : (Int.toNat (2147483647 - v4_2)) < n) (H : Heap) (locs : List Loc) (hB : q_B g K L (fun q => q ∈ L) [] f f s H locs) (ls : Array Slot) (hl : lv_has ls 3 [(0, .ref v), (1, .int (q_i v4_1)), (2, .int (q_i v4_2))]), W p l e { frames := 1, cells := 0, slots := 0, locals := 21 } s m ([.ref v] : List Value).toArray below meth c H locs 0 0 (MQ below (q_Q g K L [] f (q_Pi (fun (z : Int) (f1 : Nat → va_E) => f = f1))) ([.ref v] : List Value).toArray s 0 0 (fun q => q ∈ L)) (F0 m 4 ls []) := by
    intro n
    induction n with
    | zero =>
      intro v4_1 lv4_1 uv4_1 v4_2 lv4_2 uv4_2 hmu
      exact absurd hmu (Nat.not_lt_zero _)
    | succ n ih4 =>
      intro v4_1 lv4_1 uv4_1 v4_2 lv4_2 uv4_2 hmu H locs hB ls hl
      refine q_ild_n cx dX10_energySum_4 rfl (lv_at hl 2 rfl) ?_
      refine q_ald_n cx dX10_energySum_5 rfl (lv_at hl 0 rfl) ?_
      obtain ⟨x90, ex90⟩ : ∃ zz, q_is (q_z f v 3) zz := ⟨_, q_isr _⟩
      refine q_gX10_35_16 cx hB hv kv ex90 dX10_energySum_6 (fun lb91 ub91 => ?_)
      refine q_icge (tgt := 29) cx ⟨by omega, by omega⟩ ⟨by omega, by omega⟩ dX10_energySum_9 (by decide) (fun c92 => ?_) (fun c92 => ?_)
      · refine q_ild_n cx dX10_energySum_29 rfl (lv_at hl 1 rfl) ?_
        refine q_iret cx hr hlk hB dX10_energySum_30 ⟨by omega, by omega⟩ ?_
        exact rfl
      · refine q_ild_n cx dX10_energySum_12 rfl (lv_at hl 1 rfl) ?_
        refine q_ald_n cx dX10_energySum_13 rfl (lv_at hl 0 rfl) ?_
        refine q_ild_n cx dX10_energySum_14 rfl (lv_at hl 2 rfl) ?_
        refine q_cVr (As := [.int (q_i v4_2)]) (rest := [.int (q_i v4_1)]) cx hB (fun _ h => h) hN hv kv (by decide) rfl (g_X10_nodeAt_4 l g hN hB.2.1 v hv kv v4_2 (by omega) (by omega)) q_cX10_66 q_dX10_nodeAt (by decide) rfl rfl hl.1 rfl (Nat.le_of_ble_eq_true rfl) dX10_energySum_15 (fun y94 H locs f93 h95 hF hB => ?_)
        obtain ⟨rfl, hy94, ky94⟩ := h95
        obtain ⟨x96, ex96⟩ : ∃ zz, q_is (q_z f y94 4) zz := ⟨_, q_isr _⟩
        refine q_gX10_101_20 cx hB hy94 ky94 ex96 dX10_energySum_18 (fun lb97 ub97 => ?_)
        refine q_iadd cx dX10_energySum_21 ?_
        refine q_any (fun y98 ry98 ey98 => ?_)
        refine lv_istore_n (lv' := [(1, .int (q_i y98)), (0, .ref v), (2, .int (q_i v4_2))]) cx.1 cx.2.1 dX10_energySum_22 rfl hl (by decide) rfl (fun ls hl => ?_)
        refine q_iinc (lv' := [(2, .int (q_i (v4_2 + 1))), (1, .int (q_i y98)), (0, .ref v)]) cx dX10_energySum_23 hl (k := 2) rfl (by decide) rfl (fun ls hl => ?_)
        refine lv_goto (tgt := 4) cx.1 cx.2.1 dX10_energySum_26 (by decide) ?_
        exact ih4 y98 (by omega) (by omega) (v4_2 + 1) (by omega) (by omega) (by omega) H locs hB ls (lv_sub hl [2, 1, 0] rfl)
  obtain ⟨H, hH⟩ : ∃ H : Heap, H = s.heap := ⟨_, rfl⟩
  obtain ⟨locs, hlocs⟩ : ∃ z : List Loc, z = [] := ⟨_, rfl⟩
  rw [← hH, ← hlocs] at hB
  rw [← hH, ← hlocs]
  refine q_iconst cx dX10_energySum_0 ?_
  refine lv_istore_n (lv' := [(1, .int (q_i 0)), (0, .ref v)]) cx.1 cx.2.1 dX10_energySum_1 rfl hl (by decide) rfl (fun ls hl => ?_)
  refine q_iconst cx dX10_energySum_2 ?_
  refine lv_istore_n (lv' := [(2, .int (q_i 0)), (1, .int (q_i 0)), (0, .ref v)]) cx.1 cx.2.1 dX10_energySum_3 rfl hl (by decide) rfl (fun ls hl => ?_)
  exact J4 ((Int.toNat (2147483647 - 0)) + 1) 0 (by decide) (by decide) 0 (by decide) (by decide) (Nat.lt_succ_self _) H locs hB ls (lv_sub hl [2, 1, 0] rfl)
set_option maxHeartbeats 4000000 in
set_option maxRecDepth 100000 in
theorem g_X10_messagesInState (l : Launch) (g : q_G) {K : Nat → Nat} {L : List Nat} (hN : L.Nodup) {f : Nat → va_E} (hT : q_Ty g K L f) (v : Nat) (hv : v ∈ L) (kv : K v = 10) (p0 : Int) (lp0 : (-2147483648) ≤ p0) (up0 : p0 ≤ 2147483647) : q_Ct l g K L yX10_messagesInState cX10_messagesInState 4 (some .int) 1 21 [.ref v, .int (q_i p0)] f [] (q_Pi (fun (z : Int) (f1 : Nat → va_E) => f = f1)) := by
  refine q_ofb (by decide +kernel) hN hT (Nat.le_of_ble_eq_true rfl) ?_
  intro p e s m below meth c ls cx hr hlk hB hl
  have hl : lv_has ls 4 [(0, .ref v), (1, .int (q_i p0))] := hl
  have J4 : ∀ (n : Nat) (v4_2 : Int) (lv4_2 : (-2147483648) ≤ v4_2) (uv4_2 : v4_2 ≤ 2147483647) (v4_3 : Int) (lv4_3 : 0 ≤ v4_3) (uv4_3 : v4_3 ≤ 61) (hmu : (Int.toNat (2147483647 - v4_3)) < n) (H : Heap) (locs : List Loc) (hB : q_B g K L (fun q => q ∈ L) [] f f s H locs) (ls : Array Slot) (hl : lv_has ls 4 [(0, .ref v), (1, .int (q_i p0)), (2, .int (q_i v4_2)), (3, .int (q_i v4_3))]), W p l e { frames := 1, cells := 0, slots := 0, locals := 21 } s m ([.ref v, .int (q_i p0)] : List Value).toArray below meth c H locs 0 0 (MQ below (q_Q g K L [] f (q_Pi (fun (z : Int) (f1 : Nat → va_E) => f = f1))) ([.ref v, .int (q_i p0)] : List Value).toArray s 0 0 (fun q => q ∈ L)) (F0 m 4 ls []) := by
    intro n
    induction n with
    | zero =>
      intro v4_2 lv4_2 uv4_2 v4_3 lv4_3 uv4_3 hmu
      exact absurd hmu (Nat.not_lt_zero _)
    | succ n ih4 =>
      intro v4_2 lv4_2 uv4_2 v4_3 lv4_3 uv4_3 hmu H locs hB ls hl
      have J27 : ∀ (v27_2 : Int) (lv27_2 : (-2147483648) ≤ v27_2) (uv27_2 : v27_2 ≤ 2147483647) (buv4_3 : v4_3 ≤ 60) (H : Heap) (locs : List Loc) (hB : q_B g K L (fun q => q ∈ L) [] f f s H locs) (ls : Array Slot) (hl : lv_has ls 4 [(0, .ref v), (1, .int (q_i p0)), (2, .int (q_i v27_2)), (3, .int (q_i v4_3))]), W p l e { frames := 1, cells := 0, slots := 0, locals := 21 } s m ([.ref v, .int (q_i p0)] : List Value).toArray below meth c H locs 0 0 (MQ below (q_Q g K L [] f (q_Pi (fun (z : Int) (f1 : Nat → va_E) => f = f1))) ([.ref v, .int (q_i p0)] : List Value).toArray s 0 0 (fun q => q ∈ L)) (F0 m 27 ls []) := by
        intro v27_2 lv27_2 uv27_2 buv4_3 H locs hB ls hl
        refine q_iinc (lv' := [(3, .int (q_i (v4_3 + 1))), (0, .ref v), (1, .int (q_i p0)), (2, .int (q_i v27_2))]) cx dX10_messagesInState_27 hl (k := 3) rfl (by decide) rfl (fun ls hl => ?_)
        refine lv_goto (tgt := 4) cx.1 cx.2.1 dX10_messagesInState_30 (by decide) ?_
        exact ih4 v27_2 (by omega) (by omega) (v4_3 + 1) (by omega) (by omega) (by omega) H locs hB ls (lv_sub hl [1, 2, 3, 0] rfl)
      refine q_ild_n cx dX10_messagesInState_4 rfl (lv_at hl 3 rfl) ?_
      refine q_ald_n cx dX10_messagesInState_5 rfl (lv_at hl 0 rfl) ?_
      obtain ⟨x327, ex327⟩ : ∃ zz, q_is (q_z f v 5) zz := ⟨_, q_isr _⟩
      refine q_gX10_42 cx hB hv kv ex327 dX10_messagesInState_6 (fun lb328 ub328 => ?_)
      refine q_icge (tgt := 33) cx ⟨by omega, by omega⟩ ⟨by omega, by omega⟩ dX10_messagesInState_9 (by decide) (fun c329 => ?_) (fun c329 => ?_)
      · refine q_ild_n cx dX10_messagesInState_33 rfl (lv_at hl 2 rfl) ?_
        refine q_iret cx hr hlk hB dX10_messagesInState_34 ⟨by omega, by omega⟩ ?_
        exact rfl
      · refine q_ald_n cx dX10_messagesInState_12 rfl (lv_at hl 0 rfl) ?_
        refine q_ild_n cx dX10_messagesInState_13 rfl (lv_at hl 3 rfl) ?_
        refine q_cVr (As := [.int (q_i v4_3)]) (rest := []) cx hB (fun _ h => h) hN hv kv (by decide) rfl (g_X10_messageAt l g hN hB.2.1 v hv kv v4_3 (by omega) (by omega)) q_cX10_81 q_dX10_messageAt (by decide) rfl rfl hl.1 rfl (Nat.le_of_ble_eq_true rfl) dX10_messagesInState_14 (fun y331 H locs f330 h332 hF hB => ?_)
        obtain ⟨rfl, hy331, ky331⟩ := h332
        obtain ⟨x333, ex333⟩ : ∃ zz, q_is (q_z f y331 3) zz := ⟨_, q_isr _⟩
        refine q_gX10_140 cx hB hy331 ky331 ex333 dX10_messagesInState_17 (fun lb334 ub334 => ?_)
        refine q_ild_n cx dX10_messagesInState_20 rfl (lv_at hl 1 rfl) ?_
        refine q_icne (tgt := 27) cx ⟨by omega, by omega⟩ ⟨by omega, by omega⟩ dX10_messagesInState_21 (by decide) (fun c335 => ?_) (fun c335 => ?_)
        · exact J27 v4_2 (by omega) (by omega) (by omega) H locs hB ls (lv_sub hl [0, 1, 2, 3] rfl)
        · refine q_iinc (lv' := [(2, .int (q_i (v4_2 + 1))), (0, .ref v), (1, .int (q_i p0)), (3, .int (q_i v4_3))]) cx dX10_messagesInState_24 hl (k := 2) rfl (by decide) rfl (fun ls hl => ?_)
          obtain ⟨y336, ry336, ey336⟩ := q_wrap (v4_2 + 1)
          rw [ey336] at hl
          exact J27 y336 (by omega) (by omega) (by omega) H locs hB ls (lv_sub hl [1, 2, 0, 3] rfl)
  obtain ⟨H, hH⟩ : ∃ H : Heap, H = s.heap := ⟨_, rfl⟩
  obtain ⟨locs, hlocs⟩ : ∃ z : List Loc, z = [] := ⟨_, rfl⟩
  rw [← hH, ← hlocs] at hB
  rw [← hH, ← hlocs]
  refine q_iconst cx dX10_messagesInState_0 ?_
  refine lv_istore_n (lv' := [(2, .int (q_i 0)), (0, .ref v), (1, .int (q_i p0))]) cx.1 cx.2.1 dX10_messagesInState_1 rfl hl (by decide) rfl (fun ls hl => ?_)
  refine q_iconst cx dX10_messagesInState_2 ?_
  refine lv_istore_n (lv' := [(3, .int (q_i 0)), (2, .int (q_i 0)), (0, .ref v), (1, .int (q_i p0))]) cx.1 cx.2.1 dX10_messagesInState_3 rfl hl (by decide) rfl (fun ls hl => ?_)
  exact J4 ((Int.toNat (2147483647 - 0)) + 1) 0 (by decide) (by decide) 0 (by decide) (by decide) (Nat.lt_succ_self _) H locs hB ls (lv_sub hl [2, 3, 1, 0] rfl)
set_option maxHeartbeats 4000000 in
set_option maxRecDepth 100000 in
theorem g_X10_messagesInState_1 (l : Launch) (g : q_G) {K : Nat → Nat} {L : List Nat} (hN : L.Nodup) {f : Nat → va_E} (hT : q_Ty g K L f) (v : Nat) (hv : v ∈ L) (kv : K v = 13) (p0 : Int) (lp0 : (-2147483648) ≤ p0) (up0 : p0 ≤ 2147483647) : q_Ct l g K L yX10_messagesInState cX10_messagesInState 4 (some .int) 1 21 [.ref v, .int (q_i p0)] f [] (q_Pi (fun (z : Int) (f1 : Nat → va_E) => f = f1)) := by
  refine q_ofb (by decide +kernel) hN hT (Nat.le_of_ble_eq_true rfl) ?_
  intro p e s m below meth c ls cx hr hlk hB hl
  have hl : lv_has ls 4 [(0, .ref v), (1, .int (q_i p0))] := hl
  have J4 : ∀ (n : Nat) (v4_2 : Int) (lv4_2 : (-2147483648) ≤ v4_2) (uv4_2 : v4_2 ≤ 2147483647) (v4_3 : Int) (lv4_3 : 0 ≤ v4_3) (uv4_3 : v4_3 ≤ 61) (hmu : (Int.toNat (2147483647 - v4_3)) < n) (H : Heap) (locs : List Loc) (hB : q_B g K L (fun q => q ∈ L) [] f f s H locs) (ls : Array Slot) (hl : lv_has ls 4 [(0, .ref v), (1, .int (q_i p0)), (2, .int (q_i v4_2)), (3, .int (q_i v4_3))]), W p l e { frames := 1, cells := 0, slots := 0, locals := 21 } s m ([.ref v, .int (q_i p0)] : List Value).toArray below meth c H locs 0 0 (MQ below (q_Q g K L [] f (q_Pi (fun (z : Int) (f1 : Nat → va_E) => f = f1))) ([.ref v, .int (q_i p0)] : List Value).toArray s 0 0 (fun q => q ∈ L)) (F0 m 4 ls []) := by
    intro n
    induction n with
    | zero =>
      intro v4_2 lv4_2 uv4_2 v4_3 lv4_3 uv4_3 hmu
      exact absurd hmu (Nat.not_lt_zero _)
    | succ n ih4 =>
      intro v4_2 lv4_2 uv4_2 v4_3 lv4_3 uv4_3 hmu H locs hB ls hl
      have J27 : ∀ (v27_2 : Int) (lv27_2 : (-2147483648) ≤ v27_2) (uv27_2 : v27_2 ≤ 2147483647) (buv4_3 : v4_3 ≤ 60) (H : Heap) (locs : List Loc) (hB : q_B g K L (fun q => q ∈ L) [] f f s H locs) (ls : Array Slot) (hl : lv_has ls 4 [(0, .ref v), (1, .int (q_i p0)), (2, .int (q_i v27_2)), (3, .int (q_i v4_3))]), W p l e { frames := 1, cells := 0, slots := 0, locals := 21 } s m ([.ref v, .int (q_i p0)] : List Value).toArray below meth c H locs 0 0 (MQ below (q_Q g K L [] f (q_Pi (fun (z : Int) (f1 : Nat → va_E) => f = f1))) ([.ref v, .int (q_i p0)] : List Value).toArray s 0 0 (fun q => q ∈ L)) (F0 m 27 ls []) := by
        intro v27_2 lv27_2 uv27_2 buv4_3 H locs hB ls hl
        refine q_iinc (lv' := [(3, .int (q_i (v4_3 + 1))), (0, .ref v), (1, .int (q_i p0)), (2, .int (q_i v27_2))]) cx dX10_messagesInState_27 hl (k := 3) rfl (by decide) rfl (fun ls hl => ?_)
        refine lv_goto (tgt := 4) cx.1 cx.2.1 dX10_messagesInState_30 (by decide) ?_
        exact ih4 v27_2 (by omega) (by omega) (v4_3 + 1) (by omega) (by omega) (by omega) H locs hB ls (lv_sub hl [1, 2, 3, 0] rfl)
      refine q_ild_n cx dX10_messagesInState_4 rfl (lv_at hl 3 rfl) ?_
      refine q_ald_n cx dX10_messagesInState_5 rfl (lv_at hl 0 rfl) ?_
      obtain ⟨x327, ex327⟩ : ∃ zz, q_is (q_z f v 5) zz := ⟨_, q_isr _⟩
      refine q_gX10_42_13 cx hB hv kv ex327 dX10_messagesInState_6 (fun lb328 ub328 => ?_)
      refine q_icge (tgt := 33) cx ⟨by omega, by omega⟩ ⟨by omega, by omega⟩ dX10_messagesInState_9 (by decide) (fun c329 => ?_) (fun c329 => ?_)
      · refine q_ild_n cx dX10_messagesInState_33 rfl (lv_at hl 2 rfl) ?_
        refine q_iret cx hr hlk hB dX10_messagesInState_34 ⟨by omega, by omega⟩ ?_
        exact rfl
      · refine q_ald_n cx dX10_messagesInState_12 rfl (lv_at hl 0 rfl) ?_
        refine q_ild_n cx dX10_messagesInState_13 rfl (lv_at hl 3 rfl) ?_
        refine q_cVr (As := [.int (q_i v4_3)]) (rest := []) cx hB (fun _ h => h) hN hv kv (by decide) rfl (g_X10_messageAt_1 l g hN hB.2.1 v hv kv v4_3 (by omega) (by omega)) q_cX10_81 q_dX10_messageAt (by decide) rfl rfl hl.1 rfl (Nat.le_of_ble_eq_true rfl) dX10_messagesInState_14 (fun y331 H locs f330 h332 hF hB => ?_)
        obtain ⟨rfl, hy331, ky331⟩ := h332
        obtain ⟨x333, ex333⟩ : ∃ zz, q_is (q_z f y331 3) zz := ⟨_, q_isr _⟩
        refine q_gX10_140_25 cx hB hy331 ky331 ex333 dX10_messagesInState_17 (fun lb334 ub334 => ?_)
        refine q_ild_n cx dX10_messagesInState_20 rfl (lv_at hl 1 rfl) ?_
        refine q_icne (tgt := 27) cx ⟨by omega, by omega⟩ ⟨by omega, by omega⟩ dX10_messagesInState_21 (by decide) (fun c335 => ?_) (fun c335 => ?_)
        · exact J27 v4_2 (by omega) (by omega) (by omega) H locs hB ls (lv_sub hl [0, 1, 2, 3] rfl)
        · refine q_iinc (lv' := [(2, .int (q_i (v4_2 + 1))), (0, .ref v), (1, .int (q_i p0)), (3, .int (q_i v4_3))]) cx dX10_messagesInState_24 hl (k := 2) rfl (by decide) rfl (fun ls hl => ?_)
          obtain ⟨y336, ry336, ey336⟩ := q_wrap (v4_2 + 1)
          rw [ey336] at hl
          exact J27 y336 (by omega) (by omega) (by omega) H locs hB ls (lv_sub hl [1, 2, 0, 3] rfl)
  obtain ⟨H, hH⟩ : ∃ H : Heap, H = s.heap := ⟨_, rfl⟩
  obtain ⟨locs, hlocs⟩ : ∃ z : List Loc, z = [] := ⟨_, rfl⟩
  rw [← hH, ← hlocs] at hB
  rw [← hH, ← hlocs]
  refine q_iconst cx dX10_messagesInState_0 ?_
  refine lv_istore_n (lv' := [(2, .int (q_i 0)), (0, .ref v), (1, .int (q_i p0))]) cx.1 cx.2.1 dX10_messagesInState_1 rfl hl (by decide) rfl (fun ls hl => ?_)
  refine q_iconst cx dX10_messagesInState_2 ?_
  refine lv_istore_n (lv' := [(3, .int (q_i 0)), (2, .int (q_i 0)), (0, .ref v), (1, .int (q_i p0))]) cx.1 cx.2.1 dX10_messagesInState_3 rfl hl (by decide) rfl (fun ls hl => ?_)
  exact J4 ((Int.toNat (2147483647 - 0)) + 1) 0 (by decide) (by decide) 0 (by decide) (by decide) (Nat.lt_succ_self _) H locs hB ls (lv_sub hl [2, 3, 1, 0] rfl)
set_option maxHeartbeats 4000000 in
set_option maxRecDepth 100000 in
theorem g_X10_messagesInState_2 (l : Launch) (g : q_G) {K : Nat → Nat} {L : List Nat} (hN : L.Nodup) {f : Nat → va_E} (hT : q_Ty g K L f) (v : Nat) (hv : v ∈ L) (kv : K v = 14) (p0 : Int) (lp0 : (-2147483648) ≤ p0) (up0 : p0 ≤ 2147483647) : q_Ct l g K L yX10_messagesInState cX10_messagesInState 4 (some .int) 1 21 [.ref v, .int (q_i p0)] f [] (q_Pi (fun (z : Int) (f1 : Nat → va_E) => f = f1)) := by
  refine q_ofb (by decide +kernel) hN hT (Nat.le_of_ble_eq_true rfl) ?_
  intro p e s m below meth c ls cx hr hlk hB hl
  have hl : lv_has ls 4 [(0, .ref v), (1, .int (q_i p0))] := hl
  have J4 : ∀ (n : Nat) (v4_2 : Int) (lv4_2 : (-2147483648) ≤ v4_2) (uv4_2 : v4_2 ≤ 2147483647) (v4_3 : Int) (lv4_3 : 0 ≤ v4_3) (uv4_3 : v4_3 ≤ 61) (hmu : (Int.toNat (2147483647 - v4_3)) < n) (H : Heap) (locs : List Loc) (hB : q_B g K L (fun q => q ∈ L) [] f f s H locs) (ls : Array Slot) (hl : lv_has ls 4 [(0, .ref v), (1, .int (q_i p0)), (2, .int (q_i v4_2)), (3, .int (q_i v4_3))]), W p l e { frames := 1, cells := 0, slots := 0, locals := 21 } s m ([.ref v, .int (q_i p0)] : List Value).toArray below meth c H locs 0 0 (MQ below (q_Q g K L [] f (q_Pi (fun (z : Int) (f1 : Nat → va_E) => f = f1))) ([.ref v, .int (q_i p0)] : List Value).toArray s 0 0 (fun q => q ∈ L)) (F0 m 4 ls []) := by
    intro n
    induction n with
    | zero =>
      intro v4_2 lv4_2 uv4_2 v4_3 lv4_3 uv4_3 hmu
      exact absurd hmu (Nat.not_lt_zero _)
    | succ n ih4 =>
      intro v4_2 lv4_2 uv4_2 v4_3 lv4_3 uv4_3 hmu H locs hB ls hl
      have J27 : ∀ (v27_2 : Int) (lv27_2 : (-2147483648) ≤ v27_2) (uv27_2 : v27_2 ≤ 2147483647) (buv4_3 : v4_3 ≤ 60) (H : Heap) (locs : List Loc) (hB : q_B g K L (fun q => q ∈ L) [] f f s H locs) (ls : Array Slot) (hl : lv_has ls 4 [(0, .ref v), (1, .int (q_i p0)), (2, .int (q_i v27_2)), (3, .int (q_i v4_3))]), W p l e { frames := 1, cells := 0, slots := 0, locals := 21 } s m ([.ref v, .int (q_i p0)] : List Value).toArray below meth c H locs 0 0 (MQ below (q_Q g K L [] f (q_Pi (fun (z : Int) (f1 : Nat → va_E) => f = f1))) ([.ref v, .int (q_i p0)] : List Value).toArray s 0 0 (fun q => q ∈ L)) (F0 m 27 ls []) := by
        intro v27_2 lv27_2 uv27_2 buv4_3 H locs hB ls hl
        refine q_iinc (lv' := [(3, .int (q_i (v4_3 + 1))), (0, .ref v), (1, .int (q_i p0)), (2, .int (q_i v27_2))]) cx dX10_messagesInState_27 hl (k := 3) rfl (by decide) rfl (fun ls hl => ?_)
        refine lv_goto (tgt := 4) cx.1 cx.2.1 dX10_messagesInState_30 (by decide) ?_
        exact ih4 v27_2 (by omega) (by omega) (v4_3 + 1) (by omega) (by omega) (by omega) H locs hB ls (lv_sub hl [1, 2, 3, 0] rfl)
      refine q_ild_n cx dX10_messagesInState_4 rfl (lv_at hl 3 rfl) ?_
      refine q_ald_n cx dX10_messagesInState_5 rfl (lv_at hl 0 rfl) ?_
      obtain ⟨x327, ex327⟩ : ∃ zz, q_is (q_z f v 5) zz := ⟨_, q_isr _⟩
      refine q_gX10_42_14 cx hB hv kv ex327 dX10_messagesInState_6 (fun lb328 ub328 => ?_)
      refine q_icge (tgt := 33) cx ⟨by omega, by omega⟩ ⟨by omega, by omega⟩ dX10_messagesInState_9 (by decide) (fun c329 => ?_) (fun c329 => ?_)
      · refine q_ild_n cx dX10_messagesInState_33 rfl (lv_at hl 2 rfl) ?_
        refine q_iret cx hr hlk hB dX10_messagesInState_34 ⟨by omega, by omega⟩ ?_
        exact rfl
      · refine q_ald_n cx dX10_messagesInState_12 rfl (lv_at hl 0 rfl) ?_
        refine q_ild_n cx dX10_messagesInState_13 rfl (lv_at hl 3 rfl) ?_
        refine q_cVr (As := [.int (q_i v4_3)]) (rest := []) cx hB (fun _ h => h) hN hv kv (by decide) rfl (g_X10_messageAt_2 l g hN hB.2.1 v hv kv v4_3 (by omega) (by omega)) q_cX10_81 q_dX10_messageAt (by decide) rfl rfl hl.1 rfl (Nat.le_of_ble_eq_true rfl) dX10_messagesInState_14 (fun y331 H locs f330 h332 hF hB => ?_)
        obtain ⟨rfl, hy331, ky331⟩ := h332
        obtain ⟨x333, ex333⟩ : ∃ zz, q_is (q_z f y331 3) zz := ⟨_, q_isr _⟩
        refine q_gX10_140_26 cx hB hy331 ky331 ex333 dX10_messagesInState_17 (fun lb334 ub334 => ?_)
        refine q_ild_n cx dX10_messagesInState_20 rfl (lv_at hl 1 rfl) ?_
        refine q_icne (tgt := 27) cx ⟨by omega, by omega⟩ ⟨by omega, by omega⟩ dX10_messagesInState_21 (by decide) (fun c335 => ?_) (fun c335 => ?_)
        · exact J27 v4_2 (by omega) (by omega) (by omega) H locs hB ls (lv_sub hl [0, 1, 2, 3] rfl)
        · refine q_iinc (lv' := [(2, .int (q_i (v4_2 + 1))), (0, .ref v), (1, .int (q_i p0)), (3, .int (q_i v4_3))]) cx dX10_messagesInState_24 hl (k := 2) rfl (by decide) rfl (fun ls hl => ?_)
          obtain ⟨y336, ry336, ey336⟩ := q_wrap (v4_2 + 1)
          rw [ey336] at hl
          exact J27 y336 (by omega) (by omega) (by omega) H locs hB ls (lv_sub hl [1, 2, 0, 3] rfl)
  obtain ⟨H, hH⟩ : ∃ H : Heap, H = s.heap := ⟨_, rfl⟩
  obtain ⟨locs, hlocs⟩ : ∃ z : List Loc, z = [] := ⟨_, rfl⟩
  rw [← hH, ← hlocs] at hB
  rw [← hH, ← hlocs]
  refine q_iconst cx dX10_messagesInState_0 ?_
  refine lv_istore_n (lv' := [(2, .int (q_i 0)), (0, .ref v), (1, .int (q_i p0))]) cx.1 cx.2.1 dX10_messagesInState_1 rfl hl (by decide) rfl (fun ls hl => ?_)
  refine q_iconst cx dX10_messagesInState_2 ?_
  refine lv_istore_n (lv' := [(3, .int (q_i 0)), (2, .int (q_i 0)), (0, .ref v), (1, .int (q_i p0))]) cx.1 cx.2.1 dX10_messagesInState_3 rfl hl (by decide) rfl (fun ls hl => ?_)
  exact J4 ((Int.toNat (2147483647 - 0)) + 1) 0 (by decide) (by decide) 0 (by decide) (by decide) (Nat.lt_succ_self _) H locs hB ls (lv_sub hl [2, 3, 1, 0] rfl)
set_option maxHeartbeats 4000000 in
set_option maxRecDepth 100000 in
theorem g_X10_messagesInState_3 (l : Launch) (g : q_G) {K : Nat → Nat} {L : List Nat} (hN : L.Nodup) {f : Nat → va_E} (hT : q_Ty g K L f) (v : Nat) (hv : v ∈ L) (kv : K v = 15) (p0 : Int) (lp0 : (-2147483648) ≤ p0) (up0 : p0 ≤ 2147483647) : q_Ct l g K L yX10_messagesInState cX10_messagesInState 4 (some .int) 1 21 [.ref v, .int (q_i p0)] f [] (q_Pi (fun (z : Int) (f1 : Nat → va_E) => f = f1)) := by
  refine q_ofb (by decide +kernel) hN hT (Nat.le_of_ble_eq_true rfl) ?_
  intro p e s m below meth c ls cx hr hlk hB hl
  have hl : lv_has ls 4 [(0, .ref v), (1, .int (q_i p0))] := hl
  have J4 : ∀ (n : Nat) (v4_2 : Int) (lv4_2 : (-2147483648) ≤ v4_2) (uv4_2 : v4_2 ≤ 2147483647) (v4_3 : Int) (lv4_3 : 0 ≤ v4_3) (uv4_3 : v4_3 ≤ 61) (hmu : (Int.toNat (2147483647 - v4_3)) < n) (H : Heap) (locs : List Loc) (hB : q_B g K L (fun q => q ∈ L) [] f f s H locs) (ls : Array Slot) (hl : lv_has ls 4 [(0, .ref v), (1, .int (q_i p0)), (2, .int (q_i v4_2)), (3, .int (q_i v4_3))]), W p l e { frames := 1, cells := 0, slots := 0, locals := 21 } s m ([.ref v, .int (q_i p0)] : List Value).toArray below meth c H locs 0 0 (MQ below (q_Q g K L [] f (q_Pi (fun (z : Int) (f1 : Nat → va_E) => f = f1))) ([.ref v, .int (q_i p0)] : List Value).toArray s 0 0 (fun q => q ∈ L)) (F0 m 4 ls []) := by
    intro n
    induction n with
    | zero =>
      intro v4_2 lv4_2 uv4_2 v4_3 lv4_3 uv4_3 hmu
      exact absurd hmu (Nat.not_lt_zero _)
    | succ n ih4 =>
      intro v4_2 lv4_2 uv4_2 v4_3 lv4_3 uv4_3 hmu H locs hB ls hl
      have J27 : ∀ (v27_2 : Int) (lv27_2 : (-2147483648) ≤ v27_2) (uv27_2 : v27_2 ≤ 2147483647) (buv4_3 : v4_3 ≤ 60) (H : Heap) (locs : List Loc) (hB : q_B g K L (fun q => q ∈ L) [] f f s H locs) (ls : Array Slot) (hl : lv_has ls 4 [(0, .ref v), (1, .int (q_i p0)), (2, .int (q_i v27_2)), (3, .int (q_i v4_3))]), W p l e { frames := 1, cells := 0, slots := 0, locals := 21 } s m ([.ref v, .int (q_i p0)] : List Value).toArray below meth c H locs 0 0 (MQ below (q_Q g K L [] f (q_Pi (fun (z : Int) (f1 : Nat → va_E) => f = f1))) ([.ref v, .int (q_i p0)] : List Value).toArray s 0 0 (fun q => q ∈ L)) (F0 m 27 ls []) := by
        intro v27_2 lv27_2 uv27_2 buv4_3 H locs hB ls hl
        refine q_iinc (lv' := [(3, .int (q_i (v4_3 + 1))), (0, .ref v), (1, .int (q_i p0)), (2, .int (q_i v27_2))]) cx dX10_messagesInState_27 hl (k := 3) rfl (by decide) rfl (fun ls hl => ?_)
        refine lv_goto (tgt := 4) cx.1 cx.2.1 dX10_messagesInState_30 (by decide) ?_
        exact ih4 v27_2 (by omega) (by omega) (v4_3 + 1) (by omega) (by omega) (by omega) H locs hB ls (lv_sub hl [1, 2, 3, 0] rfl)
      refine q_ild_n cx dX10_messagesInState_4 rfl (lv_at hl 3 rfl) ?_
      refine q_ald_n cx dX10_messagesInState_5 rfl (lv_at hl 0 rfl) ?_
      obtain ⟨x327, ex327⟩ : ∃ zz, q_is (q_z f v 5) zz := ⟨_, q_isr _⟩
      refine q_gX10_42_15 cx hB hv kv ex327 dX10_messagesInState_6 (fun lb328 ub328 => ?_)
      refine q_icge (tgt := 33) cx ⟨by omega, by omega⟩ ⟨by omega, by omega⟩ dX10_messagesInState_9 (by decide) (fun c329 => ?_) (fun c329 => ?_)
      · refine q_ild_n cx dX10_messagesInState_33 rfl (lv_at hl 2 rfl) ?_
        refine q_iret cx hr hlk hB dX10_messagesInState_34 ⟨by omega, by omega⟩ ?_
        exact rfl
      · refine q_ald_n cx dX10_messagesInState_12 rfl (lv_at hl 0 rfl) ?_
        refine q_ild_n cx dX10_messagesInState_13 rfl (lv_at hl 3 rfl) ?_
        refine q_cVr (As := [.int (q_i v4_3)]) (rest := []) cx hB (fun _ h => h) hN hv kv (by decide) rfl (g_X10_messageAt_3 l g hN hB.2.1 v hv kv v4_3 (by omega) (by omega)) q_cX10_81 q_dX10_messageAt (by decide) rfl rfl hl.1 rfl (Nat.le_of_ble_eq_true rfl) dX10_messagesInState_14 (fun y331 H locs f330 h332 hF hB => ?_)
        obtain ⟨rfl, hy331, ky331⟩ := h332
        obtain ⟨x333, ex333⟩ : ∃ zz, q_is (q_z f y331 3) zz := ⟨_, q_isr _⟩
        refine q_gX10_140_27 cx hB hy331 ky331 ex333 dX10_messagesInState_17 (fun lb334 ub334 => ?_)
        refine q_ild_n cx dX10_messagesInState_20 rfl (lv_at hl 1 rfl) ?_
        refine q_icne (tgt := 27) cx ⟨by omega, by omega⟩ ⟨by omega, by omega⟩ dX10_messagesInState_21 (by decide) (fun c335 => ?_) (fun c335 => ?_)
        · exact J27 v4_2 (by omega) (by omega) (by omega) H locs hB ls (lv_sub hl [0, 1, 2, 3] rfl)
        · refine q_iinc (lv' := [(2, .int (q_i (v4_2 + 1))), (0, .ref v), (1, .int (q_i p0)), (3, .int (q_i v4_3))]) cx dX10_messagesInState_24 hl (k := 2) rfl (by decide) rfl (fun ls hl => ?_)
          obtain ⟨y336, ry336, ey336⟩ := q_wrap (v4_2 + 1)
          rw [ey336] at hl
          exact J27 y336 (by omega) (by omega) (by omega) H locs hB ls (lv_sub hl [1, 2, 0, 3] rfl)
  obtain ⟨H, hH⟩ : ∃ H : Heap, H = s.heap := ⟨_, rfl⟩
  obtain ⟨locs, hlocs⟩ : ∃ z : List Loc, z = [] := ⟨_, rfl⟩
  rw [← hH, ← hlocs] at hB
  rw [← hH, ← hlocs]
  refine q_iconst cx dX10_messagesInState_0 ?_
  refine lv_istore_n (lv' := [(2, .int (q_i 0)), (0, .ref v), (1, .int (q_i p0))]) cx.1 cx.2.1 dX10_messagesInState_1 rfl hl (by decide) rfl (fun ls hl => ?_)
  refine q_iconst cx dX10_messagesInState_2 ?_
  refine lv_istore_n (lv' := [(3, .int (q_i 0)), (2, .int (q_i 0)), (0, .ref v), (1, .int (q_i p0))]) cx.1 cx.2.1 dX10_messagesInState_3 rfl hl (by decide) rfl (fun ls hl => ?_)
  exact J4 ((Int.toNat (2147483647 - 0)) + 1) 0 (by decide) (by decide) 0 (by decide) (by decide) (Nat.lt_succ_self _) H locs hB ls (lv_sub hl [2, 3, 1, 0] rfl)
