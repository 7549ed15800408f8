set_option maxHeartbeats 4000000 in
set_option maxRecDepth 100000 in
theorem g_X10_meetOrMiss_3 (l : Launch) (g : q_G) {K : Nat → Nat} {L : List Nat} (hN : L.Nodup) {f : Nat → va_E} (hT : q_Ty g K L f) (v : Nat) (hv : v ∈ L) (kv : K v = 15) (p0 : Nat) (hp0 : p0 ∈ L) (kp0 : K p0 = 23) : q_Ct l g K L yX10_meetOrMiss cX10_meetOrMiss 7 none 2 44 [.ref v, .ref p0] f [(15, 12, 12), (19, 3, 3), (23, 2, 4)] (q_Pv (fun (f1 : Nat → va_E) => True)) := by
  refine q_ofb (by decide +kernel) hN hT (Nat.le_of_ble_eq_true rfl) ?_
  intro p e s m below meth c ls cx hr hlk hB hl
  have hl : lv_has ls 7 [(0, .ref v), (1, .ref p0)] := hl
  have J32 : ∀  (H : Heap) (locs : List Loc) (hB : q_B g K L (fun q => q ∈ L) [(15, 12, 12), (19, 3, 3), (23, 2, 4)] f f s H locs) (ls : Array Slot) (hl : lv_has ls 7 []), W p l e { frames := 2, cells := 0, slots := 0, locals := 44 } s m ([.ref v, .ref p0] : List Value).toArray below meth c H locs 0 0 (MQ below (q_Q g K L [(15, 12, 12), (19, 3, 3), (23, 2, 4)] f (q_Pv (fun (f1 : Nat → va_E) => True))) ([.ref v, .ref p0] : List Value).toArray s 0 0 (fun q => q ∈ L)) (F0 m 32 ls []) := by
    intro  H locs hB ls hl
    refine q_vret cx hr hlk hB dX10_meetOrMiss_32 ?_
    trivial
  have J138 : ∀ (f138 : Nat → va_E) (H : Heap) (locs : List Loc) (hB : q_B g K L (fun q => q ∈ L) [(15, 12, 12), (19, 3, 3), (23, 2, 4)] f f138 s H locs) (ls : Array Slot) (hl : lv_has ls 7 []), W p l e { frames := 2, cells := 0, slots := 0, locals := 44 } s m ([.ref v, .ref p0] : List Value).toArray below meth c H locs 0 0 (MQ below (q_Q g K L [(15, 12, 12), (19, 3, 3), (23, 2, 4)] f (q_Pv (fun (f1 : Nat → va_E) => True))) ([.ref v, .ref p0] : List Value).toArray s 0 0 (fun q => q ∈ L)) (F0 m 138 ls []) := by
    intro f138 H locs hB ls hl
    refine q_vret cx hr hlk hB dX10_meetOrMiss_138 ?_
    trivial
  have J133 : ∀  (H : Heap) (locs : List Loc) (hB : q_B g K L (fun q => q ∈ L) [(15, 12, 12), (19, 3, 3), (23, 2, 4)] f f s H locs) (ls : Array Slot) (hl : lv_has ls 7 [(0, .ref v), (1, .ref p0)]), W p l e { frames := 2, cells := 0, slots := 0, locals := 44 } s m ([.ref v, .ref p0] : List Value).toArray below meth c H locs 0 0 (MQ below (q_Q g K L [(15, 12, 12), (19, 3, 3), (23, 2, 4)] f (q_Pv (fun (f1 : Nat → va_E) => True))) ([.ref v, .ref p0] : List Value).toArray s 0 0 (fun q => q ∈ L)) (F0 m 133 ls []) := by
    intro  H locs hB ls hl
    refine q_ald_n cx dX10_meetOrMiss_133 rfl (lv_at hl 0 rfl) ?_
    refine q_ald_n cx dX10_meetOrMiss_134 rfl (lv_at hl 1 rfl) ?_
    refine q_cVv (As := [.ref p0]) (rest := []) cx hB (fun _ h => h) hN hv kv (by decide) rfl (g_X10_miss_3 l g hN hB.2.1 v hv kv p0 hp0 kp0) q_cX10_268 q_dX10_miss (by decide) rfl rfl hl.1 rfl (Nat.le_of_ble_eq_true rfl) dX10_meetOrMiss_135 (fun H locs f53 h55 hF hB => ?_)
    exact J138 f53 H locs hB ls (lv_sub hl [] rfl)
  have J113 : ∀ (v113_2 : Nat) (hv113_2 : v113_2 ∈ L) (kv113_2 : K v113_2 = 19) (v113_3 : Nat) (hv113_3 : v113_3 ∈ L) (kv113_3 : K v113_3 = 19) (t113_0 : Int) (lt113_0 : (-2147483648) ≤ t113_0) (ut113_0 : t113_0 ≤ 2147483647) (H : Heap) (locs : List Loc) (hB : q_B g K L (fun q => q ∈ L) [(15, 12, 12), (19, 3, 3), (23, 2, 4)] f f s H locs) (ls : Array Slot) (hl : lv_has ls 7 [(0, .ref v), (1, .ref p0), (2, .ref v113_2), (3, .ref v113_3)]), W p l e { frames := 2, cells := 0, slots := 0, locals := 44 } s m ([.ref v, .ref p0] : List Value).toArray below meth c H locs 0 0 (MQ below (q_Q g K L [(15, 12, 12), (19, 3, 3), (23, 2, 4)] f (q_Pv (fun (f1 : Nat → va_E) => True))) ([.ref v, .ref p0] : List Value).toArray s 0 0 (fun q => q ∈ L)) (F0 m 113 ls [.int (q_i t113_0)]) := by
    intro v113_2 hv113_2 kv113_2 v113_3 hv113_3 kv113_3 t113_0 lt113_0 ut113_0 H locs hB ls hl
    refine lv_istore (lv' := [(6, .int (q_i t113_0)), (0, .ref v), (1, .ref p0), (2, .ref v113_2), (3, .ref v113_3)]) cx.1 cx.2.1 dX10_meetOrMiss_113 hl (by decide) rfl (fun ls hl => ?_)
    refine lv_iload cx.1 cx.2.1 dX10_meetOrMiss_115 (lv_at hl 0 rfl) ?_
    refine q_ald_n cx dX10_meetOrMiss_117 rfl (lv_at hl 3 rfl) ?_
    obtain ⟨x56, ex56⟩ : ∃ zz, q_is (q_z f v113_2 2) zz := ⟨_, q_isr _⟩
    refine q_gX10_95_19 cx hB hv113_2 kv113_2 ex56 dX10_meetOrMiss_118 (fun lb57 ub57 => ?_)
    refine q_iceq (tgt := 133) cx ⟨by omega, by omega⟩ ⟨by omega, by omega⟩ dX10_meetOrMiss_121 (by decide) (fun c58 => ?_) (fun c58 => ?_)
    · exact J133  H locs hB ls (lv_sub hl [1, 2] rfl)
    · refine lv_iload cx.1 cx.2.1 dX10_meetOrMiss_124 (lv_at hl 0 rfl) ?_
      refine q_ald_n cx dX10_meetOrMiss_126 rfl (lv_at hl 4 rfl) ?_
      obtain ⟨x59, ex59⟩ : ∃ zz, q_is (q_z f v113_3 2) zz := ⟨_, q_isr _⟩
      refine q_gX10_95_19 cx hB hv113_3 kv113_3 ex59 dX10_meetOrMiss_127 (fun lb60 ub60 => ?_)
      refine q_icne (tgt := 138) cx ⟨by omega, by omega⟩ ⟨by omega, by omega⟩ dX10_meetOrMiss_130 (by decide) (fun c61 => ?_) (fun c61 => ?_)
      · exact J138 f H locs hB ls (lv_sub hl [] rfl)
      · exact J133  H locs hB ls (lv_sub hl [1, 2] rfl)
  have J97 : ∀ (v97_2 : Nat) (hv97_2 : v97_2 ∈ L) (kv97_2 : K v97_2 = 19) (v97_3 : Nat) (hv97_3 : v97_3 ∈ L) (kv97_3 : K v97_3 = 19) (v97_4 : Int) (lv97_4 : 0 ≤ v97_4) (uv97_4 : v97_4 ≤ 1) (H : Heap) (locs : List Loc) (hB : q_B g K L (fun q => q ∈ L) [(15, 12, 12), (19, 3, 3), (23, 2, 4)] f f s H locs) (ls : Array Slot) (hl : lv_has ls 7 [(0, .ref v), (1, .ref p0), (2, .ref v97_2), (3, .ref v97_3), (4, .int (q_i v97_4))]), W p l e { frames := 2, cells := 0, slots := 0, locals := 44 } s m ([.ref v, .ref p0] : List Value).toArray below meth c H locs 0 0 (MQ below (q_Q g K L [(15, 12, 12), (19, 3, 3), (23, 2, 4)] f (q_Pv (fun (f1 : Nat → va_E) => True))) ([.ref v, .ref p0] : List Value).toArray s 0 0 (fun q => q ∈ L)) (F0 m 97 ls []) := by
    intro v97_2 hv97_2 kv97_2 v97_3 hv97_3 kv97_3 v97_4 lv97_4 uv97_4 H locs hB ls hl
    refine lv_iload cx.1 cx.2.1 dX10_meetOrMiss_97 (lv_at hl 4 rfl) ?_
    refine q_ifeq (tgt := 109) cx ⟨by omega, by omega⟩ dX10_meetOrMiss_99 (by decide) (fun c62 => ?_) (fun c62 => ?_)
    · refine q_ald_n cx dX10_meetOrMiss_109 rfl (lv_at hl 3 rfl) ?_
      obtain ⟨x63, ex63⟩ : ∃ zz, q_is (q_z f v97_3 9) zz := ⟨_, q_isr _⟩
      refine q_gX10_265_19 cx hB hv97_3 kv97_3 ex63 dX10_meetOrMiss_110 (fun lb64 ub64 => ?_)
      exact J113 v97_2 hv97_2 kv97_2 v97_3 hv97_3 kv97_3 x63 (by omega) (by omega) H locs hB ls (lv_sub hl [0, 1, 2, 3] rfl)
    · refine q_ald_n cx dX10_meetOrMiss_102 rfl (lv_at hl 2 rfl) ?_
      obtain ⟨x65, ex65⟩ : ∃ zz, q_is (q_z f v97_2 9) zz := ⟨_, q_isr _⟩
      refine q_gX10_265_19 cx hB hv97_2 kv97_2 ex65 dX10_meetOrMiss_103 (fun lb66 ub66 => ?_)
      refine lv_goto (tgt := 113) cx.1 cx.2.1 dX10_meetOrMiss_106 (by decide) ?_
      exact J113 v97_2 hv97_2 kv97_2 v97_3 hv97_3 kv97_3 x65 (by omega) (by omega) H locs hB ls (lv_sub hl [0, 1, 2, 3] rfl)
  have J87 : ∀ (v87_2 : Nat) (hv87_2 : v87_2 ∈ L) (kv87_2 : K v87_2 = 19) (v87_3 : Nat) (hv87_3 : v87_3 ∈ L) (kv87_3 : K v87_3 = 19) (v87_4 : Int) (lv87_4 : 0 ≤ v87_4) (uv87_4 : v87_4 ≤ 1) (v87_5 : Int) (lv87_5 : 0 ≤ v87_5) (uv87_5 : v87_5 ≤ 1) (H : Heap) (locs : List Loc) (hB : q_B g K L (fun q => q ∈ L) [(15, 12, 12), (19, 3, 3), (23, 2, 4)] f f s H locs) (ls : Array Slot) (hl : lv_has ls 7 [(0, .ref v), (1, .ref p0), (2, .ref v87_2), (3, .ref v87_3), (4, .int (q_i v87_4)), (5, .int (q_i v87_5))]), W p l e { frames := 2, cells := 0, slots := 0, locals := 44 } s m ([.ref v, .ref p0] : List Value).toArray below meth c H locs 0 0 (MQ below (q_Q g K L [(15, 12, 12), (19, 3, 3), (23, 2, 4)] f (q_Pv (fun (f1 : Nat → va_E) => True))) ([.ref v, .ref p0] : List Value).toArray s 0 0 (fun q => q ∈ L)) (F0 m 87 ls []) := by
    intro v87_2 hv87_2 kv87_2 v87_3 hv87_3 kv87_3 v87_4 lv87_4 uv87_4 v87_5 lv87_5 uv87_5 H locs hB ls hl
    refine lv_iload cx.1 cx.2.1 dX10_meetOrMiss_87 (lv_at hl 4 rfl) ?_
    refine q_ifne (tgt := 97) cx ⟨by omega, by omega⟩ dX10_meetOrMiss_89 (by decide) (fun c67 => ?_) (fun c67 => ?_)
    · exact J97 v87_2 hv87_2 kv87_2 v87_3 hv87_3 kv87_3 v87_4 (by omega) (by omega) H locs hB ls (lv_sub hl [0, 1, 2, 3, 4] rfl)
    · refine lv_iload cx.1 cx.2.1 dX10_meetOrMiss_92 (lv_at hl 5 rfl) ?_
      refine q_ifeq (tgt := 138) cx ⟨by omega, by omega⟩ dX10_meetOrMiss_94 (by decide) (fun c68 => ?_) (fun c68 => ?_)
      · exact J138 f H locs hB ls (lv_sub hl [] rfl)
      · exact J97 v87_2 hv87_2 kv87_2 v87_3 hv87_3 kv87_3 v87_4 (by omega) (by omega) H locs hB ls (lv_sub hl [0, 1, 2, 3, 4] rfl)
  obtain ⟨H, hH⟩ : ∃ H : Heap, H = s.heap := ⟨_, rfl⟩
  obtain ⟨locs, hlocs⟩ : ∃ z : List Loc, z = [] := ⟨_, rfl⟩
  rw [← hH, ← hlocs] at hB
  rw [← hH, ← hlocs]
  refine q_ald_n cx dX10_meetOrMiss_0 rfl (lv_at hl 0 rfl) ?_
  refine q_ald_n cx dX10_meetOrMiss_1 rfl (lv_at hl 1 rfl) ?_
  obtain ⟨x69, ex69⟩ : ∃ zz, q_is (q_z f p0 0) zz := ⟨_, q_isr _⟩
  refine q_gX10_116_23 cx hB hp0 kp0 ex69 dX10_meetOrMiss_2 (fun lb70 ub70 => ?_)
  refine q_cVr (As := [.int (q_i x69)]) (rest := []) cx hB (fun _ h => h) hN hv kv (by decide) rfl (g_X10_nodeAt_3 l g hN hB.2.1 v hv kv x69 (by omega) (by omega)) q_cX10_66 q_dX10_nodeAt (by decide) rfl rfl hl.1 rfl (Nat.le_of_ble_eq_true rfl) dX10_meetOrMiss_5 (fun y72 H locs f71 h73 hF hB => ?_)
  obtain ⟨rfl, hy72, ky72⟩ := h73
  refine lv_astore_n (lv' := [(2, .ref y72), (0, .ref v), (1, .ref p0)]) cx.1 cx.2.1 dX10_meetOrMiss_8 rfl hl (by decide) rfl (fun ls hl => ?_)
  refine q_ald_n cx dX10_meetOrMiss_9 rfl (lv_at hl 1 rfl) ?_
  refine q_ald_n cx dX10_meetOrMiss_10 rfl (lv_at hl 2 rfl) ?_
  obtain ⟨x74, ex74⟩ : ∃ zz, q_is (q_z f p0 1) zz := ⟨_, q_isr _⟩
  refine q_gX10_119_23 cx hB hp0 kp0 ex74 dX10_meetOrMiss_11 (fun lb75 ub75 => ?_)
  refine q_cVr (As := [.int (q_i x74)]) (rest := []) cx hB (fun _ h => h) hN hv kv (by decide) rfl (g_X10_nodeAt_3 l g hN hB.2.1 v hv kv x74 (by omega) (by omega)) q_cX10_66 q_dX10_nodeAt (by decide) rfl rfl hl.1 rfl (Nat.le_of_ble_eq_true rfl) dX10_meetOrMiss_14 (fun y77 H locs f76 h78 hF hB => ?_)
  obtain ⟨rfl, hy77, ky77⟩ := h78
  refine lv_astore_n (lv' := [(3, .ref y77), (2, .ref y72), (0, .ref v), (1, .ref p0)]) cx.1 cx.2.1 dX10_meetOrMiss_17 rfl hl (by decide) rfl (fun ls hl => ?_)
  refine q_ald_n cx dX10_meetOrMiss_18 rfl (lv_at hl 1 rfl) ?_
  obtain ⟨x79, ex79⟩ : ∃ zz, q_is (q_z f y72 4) zz := ⟨_, q_isr _⟩
  refine q_gX10_101_19 cx hB hy72 ky72 ex79 dX10_meetOrMiss_19 (fun lb80 ub80 => ?_)
  refine q_ifeq (tgt := 32) cx ⟨by omega, by omega⟩ dX10_meetOrMiss_22 (by decide) (fun c81 => ?_) (fun c81 => ?_)
  · exact J32  H locs hB ls (lv_sub hl [] rfl)
  · refine q_ald_n cx dX10_meetOrMiss_25 rfl (lv_at hl 0 rfl) ?_
    obtain ⟨x82, ex82⟩ : ∃ zz, q_is (q_z f y77 4) zz := ⟨_, q_isr _⟩
    refine q_gX10_101_19 cx hB hy77 ky77 ex82 dX10_meetOrMiss_26 (fun lb83 ub83 => ?_)
    refine q_ifne (tgt := 33) cx ⟨by omega, by omega⟩ dX10_meetOrMiss_29 (by decide) (fun c84 => ?_) (fun c84 => ?_)
    · refine q_ald_n cx dX10_meetOrMiss_33 rfl (lv_at hl 2 rfl) ?_
      obtain ⟨x85, ex85⟩ : ∃ zz, q_is (q_z f v 13) zz := ⟨_, q_isr _⟩
      refine q_gX10_262_15 cx hB hv kv ex85 dX10_meetOrMiss_34 (fun lb86 ub86 => ?_)
      refine q_ald_n cx dX10_meetOrMiss_37 rfl (lv_at hl 3 rfl) ?_
      refine q_gX10_116_23 cx hB hp0 kp0 ex69 dX10_meetOrMiss_38 (fun lb87 ub87 => ?_)
      refine q_cSi (As := [.int (q_i x85), .int (q_i x69)]) (rest := []) cx hB (fun _ h => h) hN (g_X10_has l g hN hB.2.1 x85 (by omega) (by omega) x69 (by omega) (by omega)) q_cX10_181 q_dX10_has (by decide) rfl rfl hl.1 rfl (Nat.le_of_ble_eq_true rfl) dX10_meetOrMiss_41 (fun y89 H locs f88 ry89 h90 hF hB => ?_)
      obtain ⟨rfl, ly89, uy89⟩ := h90
      refine lv_istore (lv' := [(4, .int (q_i y89)), (3, .ref y77), (2, .ref y72), (0, .ref v), (1, .ref p0)]) cx.1 cx.2.1 dX10_meetOrMiss_44 hl (by decide) rfl (fun ls hl => ?_)
      refine q_ald_n cx dX10_meetOrMiss_46 rfl (lv_at hl 3 rfl) ?_
      refine q_gX10_262_15 cx hB hv kv ex85 dX10_meetOrMiss_47 (fun lb91 ub91 => ?_)
      refine q_ald_n cx dX10_meetOrMiss_50 rfl (lv_at hl 4 rfl) ?_
      refine q_gX10_119_23 cx hB hp0 kp0 ex74 dX10_meetOrMiss_51 (fun lb92 ub92 => ?_)
      refine q_cSi (As := [.int (q_i x85), .int (q_i x74)]) (rest := []) cx hB (fun _ h => h) hN (g_X10_has l g hN hB.2.1 x85 (by omega) (by omega) x74 (by omega) (by omega)) q_cX10_181 q_dX10_has (by decide) rfl rfl hl.1 rfl (Nat.le_of_ble_eq_true rfl) dX10_meetOrMiss_54 (fun y94 H locs f93 ry94 h95 hF hB => ?_)
      obtain ⟨rfl, ly94, uy94⟩ := h95
      refine lv_istore (lv' := [(5, .int (q_i y94)), (4, .int (q_i y89)), (3, .ref y77), (2, .ref y72), (0, .ref v), (1, .ref p0)]) cx.1 cx.2.1 dX10_meetOrMiss_57 hl (by decide) rfl (fun ls hl => ?_)
      refine lv_iload cx.1 cx.2.1 dX10_meetOrMiss_59 (lv_at hl 1 rfl) ?_
      refine q_ifeq (tgt := 87) cx ⟨by omega, by omega⟩ dX10_meetOrMiss_61 (by decide) (fun c96 => ?_) (fun c96 => ?_)
      · exact J87 y72 hy72 ky72 y77 hy77 ky77 y89 (by omega) (by omega) y94 (by omega) (by omega) H locs hB ls (lv_sub hl [4, 5, 3, 2, 1, 0] rfl)
      · refine lv_iload cx.1 cx.2.1 dX10_meetOrMiss_64 (lv_at hl 0 rfl) ?_
        refine q_ifeq (tgt := 87) cx ⟨by omega, by omega⟩ dX10_meetOrMiss_66 (by decide) (fun c97 => ?_) (fun c97 => ?_)
        · exact J87 y72 hy72 ky72 y77 hy77 ky77 y89 (by omega) (by omega) y94 (by omega) (by omega) H locs hB ls (lv_sub hl [4, 5, 3, 2, 1, 0] rfl)
        · refine q_ald_n cx dX10_meetOrMiss_69 rfl (lv_at hl 5 rfl) ?_
          refine lv_dup cx.1 cx.2.1 dX10_meetOrMiss_70 rfl ?_
          obtain ⟨x98, ex98⟩ : ∃ zz, q_is (q_z f p0 3) zz := ⟨_, q_isr _⟩
          refine q_gX10_125_23 cx hB hp0 kp0 ex98 dX10_meetOrMiss_71 (fun lb99 ub99 => ?_)
          refine q_iconst cx dX10_meetOrMiss_74 ?_
          refine q_iadd cx dX10_meetOrMiss_75 ?_
          refine q_any (fun y100 ry100 ey100 => ?_)
          refine q_pX10_125_23 cx hB hp0 kp0 ⟨by omega, by omega⟩ (by omega) (by omega) rfl dX10_meetOrMiss_76 (fun H locs f101 ef101 z102 hB => ?_)
          refine q_ald_n cx dX10_meetOrMiss_79 rfl (lv_at hl 5 rfl) ?_
          refine q_iconst cx dX10_meetOrMiss_80 ?_
          refine q_pX10_122_23 cx hB hp0 kp0 ⟨by decide, by decide⟩ (by decide) (by decide) rfl dX10_meetOrMiss_81 (fun H locs f103 ef103 z104 hB => ?_)
          refine lv_goto (tgt := 138) cx.1 cx.2.1 dX10_meetOrMiss_84 (by decide) ?_
          exact J138 f103 H locs hB ls (lv_sub hl [] rfl)
    · exact J32  H locs hB ls (lv_sub hl [] rfl)
set_option maxHeartbeats 4000000 in
set_option maxRecDepth 100000 in
theorem g_X10_meetOrMiss_4 (l : Launch) (g : q_G) {K : Nat → Nat} {L : List Nat} (hN : L.Nodup) {f : Nat → va_E} (hT : q_Ty g K L f) (v : Nat) (hv : v ∈ L) (kv : K v = 16) (p0 : Nat) (hp0 : p0 ∈ L) (kp0 : K p0 = 24) : q_Ct l g K L yX10_meetOrMiss cX10_meetOrMiss 7 none 2 44 [.ref v, .ref p0] f [(16, 12, 12), (20, 3, 3), (24, 2, 4)] (q_Pv (fun (f1 : Nat → va_E) => True)) := by
  refine q_ofb (by decide +kernel) hN hT (Nat.le_of_ble_eq_true rfl) ?_
  intro p e s m below meth c ls cx hr hlk hB hl
  have hl : lv_has ls 7 [(0, .ref v), (1, .ref p0)] := hl
  have J32 : ∀  (H : Heap) (locs : List Loc) (hB : q_B g K L (fun q => q ∈ L) [(16, 12, 12), (20, 3, 3), (24, 2, 4)] f f s H locs) (ls : Array Slot) (hl : lv_has ls 7 []), W p l e { frames := 2, cells := 0, slots := 0, locals := 44 } s m ([.ref v, .ref p0] : List Value).toArray below meth c H locs 0 0 (MQ below (q_Q g K L [(16, 12, 12), (20, 3, 3), (24, 2, 4)] f (q_Pv (fun (f1 : Nat → va_E) => True))) ([.ref v, .ref p0] : List Value).toArray s 0 0 (fun q => q ∈ L)) (F0 m 32 ls []) := by
    intro  H locs hB ls hl
    refine q_vret cx hr hlk hB dX10_meetOrMiss_32 ?_
    trivial
  have J138 : ∀ (f138 : Nat → va_E) (H : Heap) (locs : List Loc) (hB : q_B g K L (fun q => q ∈ L) [(16, 12, 12), (20, 3, 3), (24, 2, 4)] f f138 s H locs) (ls : Array Slot) (hl : lv_has ls 7 []), W p l e { frames := 2, cells := 0, slots := 0, locals := 44 } s m ([.ref v, .ref p0] : List Value).toArray below meth c H locs 0 0 (MQ below (q_Q g K L [(16, 12, 12), (20, 3, 3), (24, 2, 4)] f (q_Pv (fun (f1 : Nat → va_E) => True))) ([.ref v, .ref p0] : List Value).toArray s 0 0 (fun q => q ∈ L)) (F0 m 138 ls []) := by
    intro f138 H locs hB ls hl
    refine q_vret cx hr hlk hB dX10_meetOrMiss_138 ?_
    trivial
  have J133 : ∀  (H : Heap) (locs : List Loc) (hB : q_B g K L (fun q => q ∈ L) [(16, 12, 12), (20, 3, 3), (24, 2, 4)] f f s H locs) (ls : Array Slot) (hl : lv_has ls 7 [(0, .ref v), (1, .ref p0)]), W p l e { frames := 2, cells := 0, slots := 0, locals := 44 } s m ([.ref v, .ref p0] : List Value).toArray below meth c H locs 0 0 (MQ below (q_Q g K L [(16, 12, 12), (20, 3, 3), (24, 2, 4)] f (q_Pv (fun (f1 : Nat → va_E) => True))) ([.ref v, .ref p0] : List Value).toArray s 0 0 (fun q => q ∈ L)) (F0 m 133 ls []) := by
    intro  H locs hB ls hl
    refine q_ald_n cx dX10_meetOrMiss_133 rfl (lv_at hl 0 rfl) ?_
    refine q_ald_n cx dX10_meetOrMiss_134 rfl (lv_at hl 1 rfl) ?_
    refine q_cVv (As := [.ref p0]) (rest := []) cx hB (fun _ h => h) hN hv kv (by decide) rfl (g_X10_miss_4 l g hN hB.2.1 v hv kv p0 hp0 kp0) q_cX10_268 q_dX10_miss (by decide) rfl rfl hl.1 rfl (Nat.le_of_ble_eq_true rfl) dX10_meetOrMiss_135 (fun H locs f53 h55 hF hB => ?_)
    exact J138 f53 H locs hB ls (lv_sub hl [] rfl)
  have J113 : ∀ (v113_2 : Nat) (hv113_2 : v113_2 ∈ L) (kv113_2 : K v113_2 = 20) (v113_3 : Nat) (hv113_3 : v113_3 ∈ L) (kv113_3 : K v113_3 = 20) (t113_0 : Int) (lt113_0 : (-2147483648) ≤ t113_0) (ut113_0 : t113_0 ≤ 2147483647) (H : Heap) (locs : List Loc) (hB : q_B g K L (fun q => q ∈ L) [(16, 12, 12), (20, 3, 3), (24, 2, 4)] f f s H locs) (ls : Array Slot) (hl : lv_has ls 7 [(0, .ref v), (1, .ref p0), (2, .ref v113_2), (3, .ref v113_3)]), W p l e { frames := 2, cells := 0, slots := 0, locals := 44 } s m ([.ref v, .ref p0] : List Value).toArray below meth c H locs 0 0 (MQ below (q_Q g K L [(16, 12, 12), (20, 3, 3), (24, 2, 4)] f (q_Pv (fun (f1 : Nat → va_E) => True))) ([.ref v, .ref p0] : List Value).toArray s 0 0 (fun q => q ∈ L)) (F0 m 113 ls [.int (q_i t113_0)]) := by
    intro v113_2 hv113_2 kv113_2 v113_3 hv113_3 kv113_3 t113_0 lt113_0 ut113_0 H locs hB ls hl
    refine lv_istore (lv' := [(6, .int (q_i t113_0)), (0, .ref v), (1, .ref p0), (2, .ref v113_2), (3, .ref v113_3)]) cx.1 cx.2.1 dX10_meetOrMiss_113 hl (by decide) rfl (fun ls hl => ?_)
    refine lv_iload cx.1 cx.2.1 dX10_meetOrMiss_115 (lv_at hl 0 rfl) ?_
    refine q_ald_n cx dX10_meetOrMiss_117 rfl (lv_at hl 3 rfl) ?_
    obtain ⟨x56, ex56⟩ : ∃ zz, q_is (q_z f v113_2 2) zz := ⟨_, q_isr _⟩
    refine q_gX10_95_20 cx hB hv113_2 kv113_2 ex56 dX10_meetOrMiss_118 (fun lb57 ub57 => ?_)
    refine q_iceq (tgt := 133) cx ⟨by omega, by omega⟩ ⟨by omega, by omega⟩ dX10_meetOrMiss_121 (by decide) (fun c58 => ?_) (fun c58 => ?_)
    · exact J133  H locs hB ls (lv_sub hl [1, 2] rfl)
    · refine lv_iload cx.1 cx.2.1 dX10_meetOrMiss_124 (lv_at hl 0 rfl) ?_
      refine q_ald_n cx dX10_meetOrMiss_126 rfl (lv_at hl 4 rfl) ?_
      obtain ⟨x59, ex59⟩ : ∃ zz, q_is (q_z f v113_3 2) zz := ⟨_, q_isr _⟩
      refine q_gX10_95_20 cx hB hv113_3 kv113_3 ex59 dX10_meetOrMiss_127 (fun lb60 ub60 => ?_)
      refine q_icne (tgt := 138) cx ⟨by omega, by omega⟩ ⟨by omega, by omega⟩ dX10_meetOrMiss_130 (by decide) (fun c61 => ?_) (fun c61 => ?_)
      · exact J138 f H locs hB ls (lv_sub hl [] rfl)
      · exact J133  H locs hB ls (lv_sub hl [1, 2] rfl)
  have J97 : ∀ (v97_2 : Nat) (hv97_2 : v97_2 ∈ L) (kv97_2 : K v97_2 = 20) (v97_3 : Nat) (hv97_3 : v97_3 ∈ L) (kv97_3 : K v97_3 = 20) (v97_4 : Int) (lv97_4 : 0 ≤ v97_4) (uv97_4 : v97_4 ≤ 1) (H : Heap) (locs : List Loc) (hB : q_B g K L (fun q => q ∈ L) [(16, 12, 12), (20, 3, 3), (24, 2, 4)] f f s H locs) (ls : Array Slot) (hl : lv_has ls 7 [(0, .ref v), (1, .ref p0), (2, .ref v97_2), (3, .ref v97_3), (4, .int (q_i v97_4))]), W p l e { frames := 2, cells := 0, slots := 0, locals := 44 } s m ([.ref v, .ref p0] : List Value).toArray below meth c H locs 0 0 (MQ below (q_Q g K L [(16, 12, 12), (20, 3, 3), (24, 2, 4)] f (q_Pv (fun (f1 : Nat → va_E) => True))) ([.ref v, .ref p0] : List Value).toArray s 0 0 (fun q => q ∈ L)) (F0 m 97 ls []) := by
    intro v97_2 hv97_2 kv97_2 v97_3 hv97_3 kv97_3 v97_4 lv97_4 uv97_4 H locs hB ls hl
    refine lv_iload cx.1 cx.2.1 dX10_meetOrMiss_97 (lv_at hl 4 rfl) ?_
    refine q_ifeq (tgt := 109) cx ⟨by omega, by omega⟩ dX10_meetOrMiss_99 (by decide) (fun c62 => ?_) (fun c62 => ?_)
    · refine q_ald_n cx dX10_meetOrMiss_109 rfl (lv_at hl 3 rfl) ?_
      obtain ⟨x63, ex63⟩ : ∃ zz, q_is (q_z f v97_3 9) zz := ⟨_, q_isr _⟩
      refine q_gX10_265_20 cx hB hv97_3 kv97_3 ex63 dX10_meetOrMiss_110 (fun lb64 ub64 => ?_)
      exact J113 v97_2 hv97_2 kv97_2 v97_3 hv97_3 kv97_3 x63 (by omega) (by omega) H locs hB ls (lv_sub hl [0, 1, 2, 3] rfl)
    · refine q_ald_n cx dX10_meetOrMiss_102 rfl (lv_at hl 2 rfl) ?_
      obtain ⟨x65, ex65⟩ : ∃ zz, q_is (q_z f v97_2 9) zz := ⟨_, q_isr _⟩
      refine q_gX10_265_20 cx hB hv97_2 kv97_2 ex65 dX10_meetOrMiss_103 (fun lb66 ub66 => ?_)
      refine lv_goto (tgt := 113) cx.1 cx.2.1 dX10_meetOrMiss_106 (by decide) ?_
      exact J113 v97_2 hv97_2 kv97_2 v97_3 hv97_3 kv97_3 x65 (by omega) (by omega) H locs hB ls (lv_sub hl [0, 1, 2, 3] rfl)
  have J87 : ∀ (v87_2 : Nat) (hv87_2 : v87_2 ∈ L) (kv87_2 : K v87_2 = 20) (v87_3 : Nat) (hv87_3 : v87_3 ∈ L) (kv87_3 : K v87_3 = 20) (v87_4 : Int) (lv87_4 : 0 ≤ v87_4) (uv87_4 : v87_4 ≤ 1) (v87_5 : Int) (lv87_5 : 0 ≤ v87_5) (uv87_5 : v87_5 ≤ 1) (H : Heap) (locs : List Loc) (hB : q_B g K L (fun q => q ∈ L) [(16, 12, 12), (20, 3, 3), (24, 2, 4)] f f s H locs) (ls : Array Slot) (hl : lv_has ls 7 [(0, .ref v), (1, .ref p0), (2, .ref v87_2), (3, .ref v87_3), (4, .int (q_i v87_4)), (5, .int (q_i v87_5))]), W p l e { frames := 2, cells := 0, slots := 0, locals := 44 } s m ([.ref v, .ref p0] : List Value).toArray below meth c H locs 0 0 (MQ below (q_Q g K L [(16, 12, 12), (20, 3, 3), (24, 2, 4)] f (q_Pv (fun (f1 : Nat → va_E) => True))) ([.ref v, .ref p0] : List Value).toArray s 0 0 (fun q => q ∈ L)) (F0 m 87 ls []) := by
    intro v87_2 hv87_2 kv87_2 v87_3 hv87_3 kv87_3 v87_4 lv87_4 uv87_4 v87_5 lv87_5 uv87_5 H locs hB ls hl
    refine lv_iload cx.1 cx.2.1 dX10_meetOrMiss_87 (lv_at hl 4 rfl) ?_
    refine q_ifne (tgt := 97) cx ⟨by omega, by omega⟩ dX10_meetOrMiss_89 (by decide) (fun c67 => ?_) (fun c67 => ?_)
    · exact J97 v87_2 hv87_2 kv87_2 v87_3 hv87_3 kv87_3 v87_4 (by omega) (by omega) H locs hB ls (lv_sub hl [0, 1, 2, 3, 4] rfl)
    · refine lv_iload cx.1 cx.2.1 dX10_meetOrMiss_92 (lv_at hl 5 rfl) ?_
      refine q_ifeq (tgt := 138) cx ⟨by omega, by omega⟩ dX10_meetOrMiss_94 (by decide) (fun c68 => ?_) (fun c68 => ?_)
      · exact J138 f H locs hB ls (lv_sub hl [] rfl)
      · exact J97 v87_2 hv87_2 kv87_2 v87_3 hv87_3 kv87_3 v87_4 (by omega) (by omega) H locs hB ls (lv_sub hl [0, 1, 2, 3, 4] rfl)
  obtain ⟨H, hH⟩ : ∃ H : Heap, H = s.heap := ⟨_, rfl⟩
  obtain ⟨locs, hlocs⟩ : ∃ z : List Loc, z = [] := ⟨_, rfl⟩
  rw [← hH, ← hlocs] at hB
  rw [← hH, ← hlocs]
  refine q_ald_n cx dX10_meetOrMiss_0 rfl (lv_at hl 0 rfl) ?_
  refine q_ald_n cx dX10_meetOrMiss_1 rfl (lv_at hl 1 rfl) ?_
  obtain ⟨x69, ex69⟩ : ∃ zz, q_is (q_z f p0 0) zz := ⟨_, q_isr _⟩
  refine q_gX10_116_24 cx hB hp0 kp0 ex69 dX10_meetOrMiss_2 (fun lb70 ub70 => ?_)
  refine q_cVr (As := [.int (q_i x69)]) (rest := []) cx hB (fun _ h => h) hN hv kv (by decide) rfl (g_X10_nodeAt_4 l g hN hB.2.1 v hv kv x69 (by omega) (by omega)) q_cX10_66 q_dX10_nodeAt (by decide) rfl rfl hl.1 rfl (Nat.le_of_ble_eq_true rfl) dX10_meetOrMiss_5 (fun y72 H locs f71 h73 hF hB => ?_)
  obtain ⟨rfl, hy72, ky72⟩ := h73
  refine lv_astore_n (lv' := [(2, .ref y72), (0, .ref v), (1, .ref p0)]) cx.1 cx.2.1 dX10_meetOrMiss_8 rfl hl (by decide) rfl (fun ls hl => ?_)
  refine q_ald_n cx dX10_meetOrMiss_9 rfl (lv_at hl 1 rfl) ?_
  refine q_ald_n cx dX10_meetOrMiss_10 rfl (lv_at hl 2 rfl) ?_
  obtain ⟨x74, ex74⟩ : ∃ zz, q_is (q_z f p0 1) zz := ⟨_, q_isr _⟩
  refine q_gX10_119_24 cx hB hp0 kp0 ex74 dX10_meetOrMiss_11 (fun lb75 ub75 => ?_)
  refine q_cVr (As := [.int (q_i x74)]) (rest := []) cx hB (fun _ h => h) hN hv kv (by decide) rfl (g_X10_nodeAt_4 l g hN hB.2.1 v hv kv x74 (by omega) (by omega)) q_cX10_66 q_dX10_nodeAt (by decide) rfl rfl hl.1 rfl (Nat.le_of_ble_eq_true rfl) dX10_meetOrMiss_14 (fun y77 H locs f76 h78 hF hB => ?_)
  obtain ⟨rfl, hy77, ky77⟩ := h78
  refine lv_astore_n (lv' := [(3, .ref y77), (2, .ref y72), (0, .ref v), (1, .ref p0)]) cx.1 cx.2.1 dX10_meetOrMiss_17 rfl hl (by decide) rfl (fun ls hl => ?_)
  refine q_ald_n cx dX10_meetOrMiss_18 rfl (lv_at hl 1 rfl) ?_
  obtain ⟨x79, ex79⟩ : ∃ zz, q_is (q_z f y72 4) zz := ⟨_, q_isr _⟩
  refine q_gX10_101_20 cx hB hy72 ky72 ex79 dX10_meetOrMiss_19 (fun lb80 ub80 => ?_)
  refine q_ifeq (tgt := 32) cx ⟨by omega, by omega⟩ dX10_meetOrMiss_22 (by decide) (fun c81 => ?_) (fun c81 => ?_)
  · exact J32  H locs hB ls (lv_sub hl [] rfl)
  · refine q_ald_n cx dX10_meetOrMiss_25 rfl (lv_at hl 0 rfl) ?_
    obtain ⟨x82, ex82⟩ : ∃ zz, q_is (q_z f y77 4) zz := ⟨_, q_isr _⟩
    refine q_gX10_101_20 cx hB hy77 ky77 ex82 dX10_meetOrMiss_26 (fun lb83 ub83 => ?_)
    refine q_ifne (tgt := 33) cx ⟨by omega, by omega⟩ dX10_meetOrMiss_29 (by decide) (fun c84 => ?_) (fun c84 => ?_)
    · refine q_ald_n cx dX10_meetOrMiss_33 rfl (lv_at hl 2 rfl) ?_
      obtain ⟨x85, ex85⟩ : ∃ zz, q_is (q_z f v 13) zz := ⟨_, q_isr _⟩
      refine q_gX10_262_16 cx hB hv kv ex85 dX10_meetOrMiss_34 (fun lb86 ub86 => ?_)
      refine q_ald_n cx dX10_meetOrMiss_37 rfl (lv_at hl 3 rfl) ?_
      refine q_gX10_116_24 cx hB hp0 kp0 ex69 dX10_meetOrMiss_38 (fun lb87 ub87 => ?_)
      refine q_cSi (As := [.int (q_i x85), .int (q_i x69)]) (rest := []) cx hB (fun _ h => h) hN (g_X10_has l g hN hB.2.1 x85 (by omega) (by omega) x69 (by omega) (by omega)) q_cX10_181 q_dX10_has (by decide) rfl rfl hl.1 rfl (Nat.le_of_ble_eq_true rfl) dX10_meetOrMiss_41 (fun y89 H locs f88 ry89 h90 hF hB => ?_)
      obtain ⟨rfl, ly89, uy89⟩ := h90
      refine lv_istore (lv' := [(4, .int (q_i y89)), (3, .ref y77), (2, .ref y72), (0, .ref v), (1, .ref p0)]) cx.1 cx.2.1 dX10_meetOrMiss_44 hl (by decide) rfl (fun ls hl => ?_)
      refine q_ald_n cx dX10_meetOrMiss_46 rfl (lv_at hl 3 rfl) ?_
      refine q_gX10_262_16 cx hB hv kv ex85 dX10_meetOrMiss_47 (fun lb91 ub91 => ?_)
      refine q_ald_n cx dX10_meetOrMiss_50 rfl (lv_at hl 4 rfl) ?_
      refine q_gX10_119_24 cx hB hp0 kp0 ex74 dX10_meetOrMiss_51 (fun lb92 ub92 => ?_)
      refine q_cSi (As := [.int (q_i x85), .int (q_i x74)]) (rest := []) cx hB (fun _ h => h) hN (g_X10_has l g hN hB.2.1 x85 (by omega) (by omega) x74 (by omega) (by omega)) q_cX10_181 q_dX10_has (by decide) rfl rfl hl.1 rfl (Nat.le_of_ble_eq_true rfl) dX10_meetOrMiss_54 (fun y94 H locs f93 ry94 h95 hF hB => ?_)
      obtain ⟨rfl, ly94, uy94⟩ := h95
      refine lv_istore (lv' := [(5, .int (q_i y94)), (4, .int (q_i y89)), (3, .ref y77), (2, .ref y72), (0, .ref v), (1, .ref p0)]) cx.1 cx.2.1 dX10_meetOrMiss_57 hl (by decide) rfl (fun ls hl => ?_)
      refine lv_iload cx.1 cx.2.1 dX10_meetOrMiss_59 (lv_at hl 1 rfl) ?_
      refine q_ifeq (tgt := 87) cx ⟨by omega, by omega⟩ dX10_meetOrMiss_61 (by decide) (fun c96 => ?_) (fun c96 => ?_)
      · exact J87 y72 hy72 ky72 y77 hy77 ky77 y89 (by omega) (by omega) y94 (by omega) (by omega) H locs hB ls (lv_sub hl [4, 5, 3, 2, 1, 0] rfl)
      · refine lv_iload cx.1 cx.2.1 dX10_meetOrMiss_64 (lv_at hl 0 rfl) ?_
        refine q_ifeq (tgt := 87) cx ⟨by omega, by omega⟩ dX10_meetOrMiss_66 (by decide) (fun c97 => ?_) (fun c97 => ?_)
        · exact J87 y72 hy72 ky72 y77 hy77 ky77 y89 (by omega) (by omega) y94 (by omega) (by omega) H locs hB ls (lv_sub hl [4, 5, 3, 2, 1, 0] rfl)
        · refine q_ald_n cx dX10_meetOrMiss_69 rfl (lv_at hl 5 rfl) ?_
          refine lv_dup cx.1 cx.2.1 dX10_meetOrMiss_70 rfl ?_
          obtain ⟨x98, ex98⟩ : ∃ zz, q_is (q_z f p0 3) zz := ⟨_, q_isr _⟩
          refine q_gX10_125_24 cx hB hp0 kp0 ex98 dX10_meetOrMiss_71 (fun lb99 ub99 => ?_)
          refine q_iconst cx dX10_meetOrMiss_74 ?_
          refine q_iadd cx dX10_meetOrMiss_75 ?_
          refine q_any (fun y100 ry100 ey100 => ?_)
          refine q_pX10_125_24 cx hB hp0 kp0 ⟨by omega, by omega⟩ (by omega) (by omega) rfl dX10_meetOrMiss_76 (fun H locs f101 ef101 z102 hB => ?_)
          refine q_ald_n cx dX10_meetOrMiss_79 rfl (lv_at hl 5 rfl) ?_
          refine q_iconst cx dX10_meetOrMiss_80 ?_
          refine q_pX10_122_24 cx hB hp0 kp0 ⟨by decide, by decide⟩ (by decide) (by decide) rfl dX10_meetOrMiss_81 (fun H locs f103 ef103 z104 hB => ?_)
          refine lv_goto (tgt := 138) cx.1 cx.2.1 dX10_meetOrMiss_84 (by decide) ?_
          exact J138 f103 H locs hB ls (lv_sub hl [] rfl)
    · exact J32  H locs hB ls (lv_sub hl [] rfl)
set_option maxHeartbeats 4000000 in
set_option maxRecDepth 100000 in
theorem g_X10_notOut (l : Launch) (g : q_G) {K : Nat → Nat} {L : List Nat} (hN : L.Nodup) {f : Nat → va_E} (hT : q_Ty g K L f) (v : Nat) (hv : v ∈ L) (kv : K v = 10) : q_Ct l g K L yX10_notOut cX10_notOut 3 (some .int) 1 21 [.ref v] f [] (q_Pi (fun (z : Int) (f1 : Nat → va_E) => f = f1)) := by
  refine q_ofb (by decide +kernel) hN hT (Nat.le_of_ble_eq_true rfl) ?_
  intro p e s m below meth c ls cx hr hlk hB hl
  have hl : lv_has ls 3 [(0, .ref v)] := hl
  have J4 : ∀ (n : Nat) (v4_1 : Int) (lv4_1 : (-2147483648) ≤ v4_1) (uv4_1 : v4_1 ≤ 2147483647) (v4_2 : Int) (lv4_2 : 0 ≤ v4_2) (uv4_2 : v4_2 ≤ 10) (hmu : (Int.toNat (2147483647 - v4_2)) < n) (H : Heap) (locs : List Loc) (hB : q_B g K L (fun q => q ∈ L) [] f f s H locs) (ls : Array Slot) (hl : lv_has ls 3 [(0, .ref v), (1, .int (q_i v4_1)), (2, .int (q_i v4_2))]), W p l e { frames := 1, cells := 0, slots := 0, locals := 21 } s m ([.ref v] : List Value).toArray below meth c H locs 0 0 (MQ below (q_Q g K L [] f (q_Pi (fun (z : Int) (f1 : Nat → va_E) => f = f1))) ([.ref v] : List Value).toArray s 0 0 (fun q => q ∈ L)) (F0 m 4 ls []) := by
    intro n
    induction n with
    | zero =>
      intro v4_1 lv4_1 uv4_1 v4_2 lv4_2 uv4_2 hmu
      exact absurd hmu (Nat.not_lt_zero _)
    | succ n ih4 =>
      intro v4_1 lv4_1 uv4_1 v4_2 lv4_2 uv4_2 hmu H locs hB ls hl
      have J29 : ∀ (v29_1 : Int) (lv29_1 : (-2147483648) ≤ v29_1) (uv29_1 : v29_1 ≤ 2147483647) (buv4_2 : v4_2 ≤ 9) (H : Heap) (locs : List Loc) (hB : q_B g K L (fun q => q ∈ L) [] f f s H locs) (ls : Array Slot) (hl : lv_has ls 3 [(0, .ref v), (1, .int (q_i v29_1)), (2, .int (q_i v4_2))]), W p l e { frames := 1, cells := 0, slots := 0, locals := 21 } s m ([.ref v] : List Value).toArray below meth c H locs 0 0 (MQ below (q_Q g K L [] f (q_Pi (fun (z : Int) (f1 : Nat → va_E) => f = f1))) ([.ref v] : List Value).toArray s 0 0 (fun q => q ∈ L)) (F0 m 29 ls []) := by
        intro v29_1 lv29_1 uv29_1 buv4_2 H locs hB ls hl
        refine q_iinc (lv' := [(2, .int (q_i (v4_2 + 1))), (0, .ref v), (1, .int (q_i v29_1))]) cx dX10_notOut_29 hl (k := 2) rfl (by decide) rfl (fun ls hl => ?_)
        refine lv_goto (tgt := 4) cx.1 cx.2.1 dX10_notOut_32 (by decide) ?_
        exact ih4 v29_1 (by omega) (by omega) (v4_2 + 1) (by omega) (by omega) (by omega) H locs hB ls (lv_sub hl [1, 2, 0] rfl)
      refine q_ild_n cx dX10_notOut_4 rfl (lv_at hl 2 rfl) ?_
      refine q_ald_n cx dX10_notOut_5 rfl (lv_at hl 0 rfl) ?_
      obtain ⟨x111, ex111⟩ : ∃ zz, q_is (q_z f v 3) zz := ⟨_, q_isr _⟩
      refine q_gX10_35 cx hB hv kv ex111 dX10_notOut_6 (fun lb112 ub112 => ?_)
      refine q_icge (tgt := 35) cx ⟨by omega, by omega⟩ ⟨by omega, by omega⟩ dX10_notOut_9 (by decide) (fun c113 => ?_) (fun c113 => ?_)
      · refine q_ild_n cx dX10_notOut_35 rfl (lv_at hl 1 rfl) ?_
        refine q_iret cx hr hlk hB dX10_notOut_36 ⟨by omega, by omega⟩ ?_
        exact rfl
      · refine q_ald_n cx dX10_notOut_12 rfl (lv_at hl 0 rfl) ?_
        refine q_ild_n cx dX10_notOut_13 rfl (lv_at hl 2 rfl) ?_
        refine q_cVr (As := [.int (q_i v4_2)]) (rest := []) cx hB (fun _ h => h) hN hv kv (by decide) rfl (g_X10_nodeAt l g hN hB.2.1 v hv kv v4_2 (by omega) (by omega)) q_cX10_66 q_dX10_nodeAt (by decide) rfl rfl hl.1 rfl (Nat.le_of_ble_eq_true rfl) dX10_notOut_14 (fun y115 H locs f114 h116 hF hB => ?_)
        obtain ⟨rfl, hy115, ky115⟩ := h116
        obtain ⟨x117, ex117⟩ : ∃ zz, q_is (q_z f y115 4) zz := ⟨_, q_isr _⟩
        refine q_gX10_101 cx hB hy115 ky115 ex117 dX10_notOut_17 (fun lb118 ub118 => ?_)
        refine q_ifle (tgt := 29) cx ⟨by omega, by omega⟩ dX10_notOut_20 (by decide) (fun c119 => ?_) (fun c119 => ?_)
        · exact J29 v4_1 (by omega) (by omega) (by omega) H locs hB ls (lv_sub hl [0, 1, 2] rfl)
        · refine q_ild_n cx dX10_notOut_23 rfl (lv_at hl 1 rfl) ?_
          refine q_iconst cx dX10_notOut_24 ?_
          refine q_ild_n cx dX10_notOut_25 rfl (lv_at hl 2 rfl) ?_
          refine q_ishl cx dX10_notOut_26 (fun y120 ry120 ey120 => ?_)
          refine q_ior cx dX10_notOut_27 (fun y121 ry121 ey121 => ?_)
          refine lv_istore_n (lv' := [(1, .int (q_i y121)), (0, .ref v), (2, .int (q_i v4_2))]) cx.1 cx.2.1 dX10_notOut_28 rfl hl (by decide) rfl (fun ls hl => ?_)
          exact J29 y121 (by omega) (by omega) (by omega) H locs hB ls (lv_sub hl [1, 0, 2] rfl)
  obtain ⟨H, hH⟩ : ∃ H : Heap, H = s.heap := ⟨_, rfl⟩
  obtain ⟨locs, hlocs⟩ : ∃ z : List Loc, z = [] := ⟨_, rfl⟩
  rw [← hH, ← hlocs] at hB
  rw [← hH, ← hlocs]
  refine q_iconst cx dX10_notOut_0 ?_
  refine lv_istore_n (lv' := [(1, .int (q_i 0)), (0, .ref v)]) cx.1 cx.2.1 dX10_notOut_1 rfl hl (by decide) rfl (fun ls hl => ?_)
  refine q_iconst cx dX10_notOut_2 ?_
  refine lv_istore_n (lv' := [(2, .int (q_i 0)), (1, .int (q_i 0)), (0, .ref v)]) cx.1 cx.2.1 dX10_notOut_3 rfl hl (by decide) rfl (fun ls hl => ?_)
  exact J4 ((Int.toNat (2147483647 - 0)) + 1) 0 (by decide) (by decide) 0 (by decide) (by decide) (Nat.lt_succ_self _) H locs hB ls (lv_sub hl [2, 1, 0] rfl)
set_option maxHeartbeats 4000000 in
set_option maxRecDepth 100000 in
theorem g_X10_notOut_1 (l : Launch) (g : q_G) {K : Nat → Nat} {L : List Nat} (hN : L.Nodup) {f : Nat → va_E} (hT : q_Ty g K L f) (v : Nat) (hv : v ∈ L) (kv : K v = 13) : q_Ct l g K L yX10_notOut cX10_notOut 3 (some .int) 1 21 [.ref v] f [] (q_Pi (fun (z : Int) (f1 : Nat → va_E) => f = f1)) := by
  refine q_ofb (by decide +kernel) hN hT (Nat.le_of_ble_eq_true rfl) ?_
  intro p e s m below meth c ls cx hr hlk hB hl
  have hl : lv_has ls 3 [(0, .ref v)] := hl
  have J4 : ∀ (n : Nat) (v4_1 : Int) (lv4_1 : (-2147483648) ≤ v4_1) (uv4_1 : v4_1 ≤ 2147483647) (v4_2 : Int) (lv4_2 : 0 ≤ v4_2) (uv4_2 : v4_2 ≤ 10) (hmu : (Int.toNat (2147483647 - v4_2)) < n) (H : Heap) (locs : List Loc) (hB : q_B g K L (fun q => q ∈ L) [] f f s H locs) (ls : Array Slot) (hl : lv_has ls 3 [(0, .ref v), (1, .int (q_i v4_1)), (2, .int (q_i v4_2))]), W p l e { frames := 1, cells := 0, slots := 0, locals := 21 } s m ([.ref v] : List Value).toArray below meth c H locs 0 0 (MQ below (q_Q g K L [] f (q_Pi (fun (z : Int) (f1 : Nat → va_E) => f = f1))) ([.ref v] : List Value).toArray s 0 0 (fun q => q ∈ L)) (F0 m 4 ls []) := by
    intro n
    induction n with
    | zero =>
      intro v4_1 lv4_1 uv4_1 v4_2 lv4_2 uv4_2 hmu
      exact absurd hmu (Nat.not_lt_zero _)
    | succ n ih4 =>
      intro v4_1 lv4_1 uv4_1 v4_2 lv4_2 uv4_2 hmu H locs hB ls hl
      have J29 : ∀ (v29_1 : Int) (lv29_1 : (-2147483648) ≤ v29_1) (uv29_1 : v29_1 ≤ 2147483647) (buv4_2 : v4_2 ≤ 9) (H : Heap) (locs : List Loc) (hB : q_B g K L (fun q => q ∈ L) [] f f s H locs) (ls : Array Slot) (hl : lv_has ls 3 [(0, .ref v), (1, .int (q_i v29_1)), (2, .int (q_i v4_2))]), W p l e { frames := 1, cells := 0, slots := 0, locals := 21 } s m ([.ref v] : List Value).toArray below meth c H locs 0 0 (MQ below (q_Q g K L [] f (q_Pi (fun (z : Int) (f1 : Nat → va_E) => f = f1))) ([.ref v] : List Value).toArray s 0 0 (fun q => q ∈ L)) (F0 m 29 ls []) := by
        intro v29_1 lv29_1 uv29_1 buv4_2 H locs hB ls hl
        refine q_iinc (lv' := [(2, .int (q_i (v4_2 + 1))), (0, .ref v), (1, .int (q_i v29_1))]) cx dX10_notOut_29 hl (k := 2) rfl (by decide) rfl (fun ls hl => ?_)
        refine lv_goto (tgt := 4) cx.1 cx.2.1 dX10_notOut_32 (by decide) ?_
        exact ih4 v29_1 (by omega) (by omega) (v4_2 + 1) (by omega) (by omega) (by omega) H locs hB ls (lv_sub hl [1, 2, 0] rfl)
      refine q_ild_n cx dX10_notOut_4 rfl (lv_at hl 2 rfl) ?_
      refine q_ald_n cx dX10_notOut_5 rfl (lv_at hl 0 rfl) ?_
      obtain ⟨x111, ex111⟩ : ∃ zz, q_is (q_z f v 3) zz := ⟨_, q_isr _⟩
      refine q_gX10_35_13 cx hB hv kv ex111 dX10_notOut_6 (fun lb112 ub112 => ?_)
      refine q_icge (tgt := 35) cx ⟨by omega, by omega⟩ ⟨by omega, by omega⟩ dX10_notOut_9 (by decide) (fun c113 => ?_) (fun c113 => ?_)
      · refine q_ild_n cx dX10_notOut_35 rfl (lv_at hl 1 rfl) ?_
        refine q_iret cx hr hlk hB dX10_notOut_36 ⟨by omega, by omega⟩ ?_
        exact rfl
      · refine q_ald_n cx dX10_notOut_12 rfl (lv_at hl 0 rfl) ?_
        refine q_ild_n cx dX10_notOut_13 rfl (lv_at hl 2 rfl) ?_
        refine q_cVr (As := [.int (q_i v4_2)]) (rest := []) cx hB (fun _ h => h) hN hv kv (by decide) rfl (g_X10_nodeAt_1 l g hN hB.2.1 v hv kv v4_2 (by omega) (by omega)) q_cX10_66 q_dX10_nodeAt (by decide) rfl rfl hl.1 rfl (Nat.le_of_ble_eq_true rfl) dX10_notOut_14 (fun y115 H locs f114 h116 hF hB => ?_)
        obtain ⟨rfl, hy115, ky115⟩ := h116
        obtain ⟨x117, ex117⟩ : ∃ zz, q_is (q_z f y115 4) zz := ⟨_, q_isr _⟩
        refine q_gX10_101_17 cx hB hy115 ky115 ex117 dX10_notOut_17 (fun lb118 ub118 => ?_)
        refine q_ifle (tgt := 29) cx ⟨by omega, by omega⟩ dX10_notOut_20 (by decide) (fun c119 => ?_) (fun c119 => ?_)
        · exact J29 v4_1 (by omega) (by omega) (by omega) H locs hB ls (lv_sub hl [0, 1, 2] rfl)
        · refine q_ild_n cx dX10_notOut_23 rfl (lv_at hl 1 rfl) ?_
          refine q_iconst cx dX10_notOut_24 ?_
          refine q_ild_n cx dX10_notOut_25 rfl (lv_at hl 2 rfl) ?_
          refine q_ishl cx dX10_notOut_26 (fun y120 ry120 ey120 => ?_)
          refine q_ior cx dX10_notOut_27 (fun y121 ry121 ey121 => ?_)
          refine lv_istore_n (lv' := [(1, .int (q_i y121)), (0, .ref v), (2, .int (q_i v4_2))]) cx.1 cx.2.1 dX10_notOut_28 rfl hl (by decide) rfl (fun ls hl => ?_)
          exact J29 y121 (by omega) (by omega) (by omega) H locs hB ls (lv_sub hl [1, 0, 2] rfl)
  obtain ⟨H, hH⟩ : ∃ H : Heap, H = s.heap := ⟨_, rfl⟩
  obtain ⟨locs, hlocs⟩ : ∃ z : List Loc, z = [] := ⟨_, rfl⟩
  rw [← hH, ← hlocs] at hB
  rw [← hH, ← hlocs]
  refine q_iconst cx dX10_notOut_0 ?_
  refine lv_istore_n (lv' := [(1, .int (q_i 0)), (0, .ref v)]) cx.1 cx.2.1 dX10_notOut_1 rfl hl (by decide) rfl (fun ls hl => ?_)
  refine q_iconst cx dX10_notOut_2 ?_
  refine lv_istore_n (lv' := [(2, .int (q_i 0)), (1, .int (q_i 0)), (0, .ref v)]) cx.1 cx.2.1 dX10_notOut_3 rfl hl (by decide) rfl (fun ls hl => ?_)
  exact J4 ((Int.toNat (2147483647 - 0)) + 1) 0 (by decide) (by decide) 0 (by decide) (by decide) (Nat.lt_succ_self _) H locs hB ls (lv_sub hl [2, 1, 0] rfl)
set_option maxHeartbeats 4000000 in
set_option maxRecDepth 100000 in
theorem g_X10_notOut_2 (l : Launch) (g : q_G) {K : Nat → Nat} {L : List Nat} (hN : L.Nodup) {f : Nat → va_E} (hT : q_Ty g K L f) (v : Nat) (hv : v ∈ L) (kv : K v = 14) : q_Ct l g K L yX10_notOut cX10_notOut 3 (some .int) 1 21 [.ref v] f [] (q_Pi (fun (z : Int) (f1 : Nat → va_E) => f = f1)) := by
  refine q_ofb (by decide +kernel) hN hT (Nat.le_of_ble_eq_true rfl) ?_
  intro p e s m below meth c ls cx hr hlk hB hl
  have hl : lv_has ls 3 [(0, .ref v)] := hl
  have J4 : ∀ (n : Nat) (v4_1 : Int) (lv4_1 : (-2147483648) ≤ v4_1) (uv4_1 : v4_1 ≤ 2147483647) (v4_2 : Int) (lv4_2 : 0 ≤ v4_2) (uv4_2 : v4_2 ≤ 10) (hmu : (Int.toNat (2147483647 - v4_2)) < n) (H : Heap) (locs : List Loc) (hB : q_B g K L (fun q => q ∈ L) [] f f s H locs) (ls : Array Slot) (hl : lv_has ls 3 [(0, .ref v), (1, .int (q_i v4_1)), (2, .int (q_i v4_2))]), W p l e { frames := 1, cells := 0, slots := 0, locals := 21 } s m ([.ref v] : List Value).toArray below meth c H locs 0 0 (MQ below (q_Q g K L [] f (q_Pi (fun (z : Int) (f1 : Nat → va_E) => f = f1))) ([.ref v] : List Value).toArray s 0 0 (fun q => q ∈ L)) (F0 m 4 ls []) := by
    intro n
    induction n with
    | zero =>
      intro v4_1 lv4_1 uv4_1 v4_2 lv4_2 uv4_2 hmu
      exact absurd hmu (Nat.not_lt_zero _)
    | succ n ih4 =>
      intro v4_1 lv4_1 uv4_1 v4_2 lv4_2 uv4_2 hmu H locs hB ls hl
      have J29 : ∀ (v29_1 : Int) (lv29_1 : (-2147483648) ≤ v29_1) (uv29_1 : v29_1 ≤ 2147483647) (buv4_2 : v4_2 ≤ 9) (H : Heap) (locs : List Loc) (hB : q_B g K L (fun q => q ∈ L) [] f f s H locs) (ls : Array Slot) (hl : lv_has ls 3 [(0, .ref v), (1, .int (q_i v29_1)), (2, .int (q_i v4_2))]), W p l e { frames := 1, cells := 0, slots := 0, locals := 21 } s m ([.ref v] : List Value).toArray below meth c H locs 0 0 (MQ below (q_Q g K L [] f (q_Pi (fun (z : Int) (f1 : Nat → va_E) => f = f1))) ([.ref v] : List Value).toArray s 0 0 (fun q => q ∈ L)) (F0 m 29 ls []) := by
        intro v29_1 lv29_1 uv29_1 buv4_2 H locs hB ls hl
        refine q_iinc (lv' := [(2, .int (q_i (v4_2 + 1))), (0, .ref v), (1, .int (q_i v29_1))]) cx dX10_notOut_29 hl (k := 2) rfl (by decide) rfl (fun ls hl => ?_)
        refine lv_goto (tgt := 4) cx.1 cx.2.1 dX10_notOut_32 (by decide) ?_
        exact ih4 v29_1 (by omega) (by omega) (v4_2 + 1) (by omega) (by omega) (by omega) H locs hB ls (lv_sub hl [1, 2, 0] rfl)
      refine q_ild_n cx dX10_notOut_4 rfl (lv_at hl 2 rfl) ?_
      refine q_ald_n cx dX10_notOut_5 rfl (lv_at hl 0 rfl) ?_
      obtain ⟨x111, ex111⟩ : ∃ zz, q_is (q_z f v 3) zz := ⟨_, q_isr _⟩
      refine q_gX10_35_14 cx hB hv kv ex111 dX10_notOut_6 (fun lb112 ub112 => ?_)
      refine q_icge (tgt := 35) cx ⟨by omega, by omega⟩ ⟨by omega, by omega⟩ dX10_notOut_9 (by decide) (fun c113 => ?_) (fun c113 => ?_)
      · refine q_ild_n cx dX10_notOut_35 rfl (lv_at hl 1 rfl) ?_
        refine q_iret cx hr hlk hB dX10_notOut_36 ⟨by omega, by omega⟩ ?_
        exact rfl
      · refine q_ald_n cx dX10_notOut_12 rfl (lv_at hl 0 rfl) ?_
        refine q_ild_n cx dX10_notOut_13 rfl (lv_at hl 2 rfl) ?_
        refine q_cVr (As := [.int (q_i v4_2)]) (rest := []) cx hB (fun _ h => h) hN hv kv (by decide) rfl (g_X10_nodeAt_2 l g hN hB.2.1 v hv kv v4_2 (by omega) (by omega)) q_cX10_66 q_dX10_nodeAt (by decide) rfl rfl hl.1 rfl (Nat.le_of_ble_eq_true rfl) dX10_notOut_14 (fun y115 H locs f114 h116 hF hB => ?_)
        obtain ⟨rfl, hy115, ky115⟩ := h116
        obtain ⟨x117, ex117⟩ : ∃ zz, q_is (q_z f y115 4) zz := ⟨_, q_isr _⟩
        refine q_gX10_101_18 cx hB hy115 ky115 ex117 dX10_notOut_17 (fun lb118 ub118 => ?_)
        refine q_ifle (tgt := 29) cx ⟨by omega, by omega⟩ dX10_notOut_20 (by decide) (fun c119 => ?_) (fun c119 => ?_)
        · exact J29 v4_1 (by omega) (by omega) (by omega) H locs hB ls (lv_sub hl [0, 1, 2] rfl)
        · refine q_ild_n cx dX10_notOut_23 rfl (lv_at hl 1 rfl) ?_
          refine q_iconst cx dX10_notOut_24 ?_
          refine q_ild_n cx dX10_notOut_25 rfl (lv_at hl 2 rfl) ?_
          refine q_ishl cx dX10_notOut_26 (fun y120 ry120 ey120 => ?_)
          refine q_ior cx dX10_notOut_27 (fun y121 ry121 ey121 => ?_)
          refine lv_istore_n (lv' := [(1, .int (q_i y121)), (0, .ref v), (2, .int (q_i v4_2))]) cx.1 cx.2.1 dX10_notOut_28 rfl hl (by decide) rfl (fun ls hl => ?_)
          exact J29 y121 (by omega) (by omega) (by omega) H locs hB ls (lv_sub hl [1, 0, 2] rfl)
  obtain ⟨H, hH⟩ : ∃ H : Heap, H = s.heap := ⟨_, rfl⟩
  obtain ⟨locs, hlocs⟩ : ∃ z : List Loc, z = [] := ⟨_, rfl⟩
  rw [← hH, ← hlocs] at hB
  rw [← hH, ← hlocs]
  refine q_iconst cx dX10_notOut_0 ?_
  refine lv_istore_n (lv' := [(1, .int (q_i 0)), (0, .ref v)]) cx.1 cx.2.1 dX10_notOut_1 rfl hl (by decide) rfl (fun ls hl => ?_)
  refine q_iconst cx dX10_notOut_2 ?_
  refine lv_istore_n (lv' := [(2, .int (q_i 0)), (1, .int (q_i 0)), (0, .ref v)]) cx.1 cx.2.1 dX10_notOut_3 rfl hl (by decide) rfl (fun ls hl => ?_)
  exact J4 ((Int.toNat (2147483647 - 0)) + 1) 0 (by decide) (by decide) 0 (by decide) (by decide) (Nat.lt_succ_self _) H locs hB ls (lv_sub hl [2, 1, 0] rfl)
set_option maxHeartbeats 4000000 in
set_option maxRecDepth 100000 in
theorem g_X10_notOut_3 (l : Launch) (g : q_G) {K : Nat → Nat} {L : List Nat} (hN : L.Nodup) {f : Nat → va_E} (hT : q_Ty g K L f) (v : Nat) (hv : v ∈ L) (kv : K v = 15) : q_Ct l g K L yX10_notOut cX10_notOut 3 (some .int) 1 21 [.ref v] f [] (q_Pi (fun (z : Int) (f1 : Nat → va_E) => f = f1)) := by
  refine q_ofb (by decide +kernel) hN hT (Nat.le_of_ble_eq_true rfl) ?_
  intro p e s m below meth c ls cx hr hlk hB hl
  have hl : lv_has ls 3 [(0, .ref v)] := hl
  have J4 : ∀ (n : Nat) (v4_1 : Int) (lv4_1 : (-2147483648) ≤ v4_1) (uv4_1 : v4_1 ≤ 2147483647) (v4_2 : Int) (lv4_2 : 0 ≤ v4_2) (uv4_2 : v4_2 ≤ 10) (hmu : (Int.toNat (2147483647 - v4_2)) < n) (H : Heap) (locs : List Loc) (hB : q_B g K L (fun q => q ∈ L) [] f f s H locs) (ls : Array Slot) (hl : lv_has ls 3 [(0, .ref v), (1, .int (q_i v4_1)), (2, .int (q_i v4_2))]), W p l e { frames := 1, cells := 0, slots := 0, locals := 21 } s m ([.ref v] : List Value).toArray below meth c H locs 0 0 (MQ below (q_Q g K L [] f (q_Pi (fun (z : Int) (f1 : Nat → va_E) => f = f1))) ([.ref v] : List Value).toArray s 0 0 (fun q => q ∈ L)) (F0 m 4 ls []) := by
    intro n
    induction n with
    | zero =>
      intro v4_1 lv4_1 uv4_1 v4_2 lv4_2 uv4_2 hmu
      exact absurd hmu (Nat.not_lt_zero _)
    | succ n ih4 =>
      intro v4_1 lv4_1 uv4_1 v4_2 lv4_2 uv4_2 hmu H locs hB ls hl
      have J29 : ∀ (v29_1 : Int) (lv29_1 : (-2147483648) ≤ v29_1) (uv29_1 : v29_1 ≤ 2147483647) (buv4_2 : v4_2 ≤ 9) (H : Heap) (locs : List Loc) (hB : q_B g K L (fun q => q ∈ L) [] f f s H locs) (ls : Array Slot) (hl : lv_has ls 3 [(0, .ref v), (1, .int (q_i v29_1)), (2, .int (q_i v4_2))]), W p l e { frames := 1, cells := 0, slots := 0, locals := 21 } s m ([.ref v] : List Value).toArray below meth c H locs 0 0 (MQ below (q_Q g K L [] f (q_Pi (fun (z : Int) (f1 : Nat → va_E) => f = f1))) ([.ref v] : List Value).toArray s 0 0 (fun q => q ∈ L)) (F0 m 29 ls []) := by
        intro v29_1 lv29_1 uv29_1 buv4_2 H locs hB ls hl
        refine q_iinc (lv' := [(2, .int (q_i (v4_2 + 1))), (0, .ref v), (1, .int (q_i v29_1))]) cx dX10_notOut_29 hl (k := 2) rfl (by decide) rfl (fun ls hl => ?_)
        refine lv_goto (tgt := 4) cx.1 cx.2.1 dX10_notOut_32 (by decide) ?_
        exact ih4 v29_1 (by omega) (by omega) (v4_2 + 1) (by omega) (by omega) (by omega) H locs hB ls (lv_sub hl [1, 2, 0] rfl)
      refine q_ild_n cx dX10_notOut_4 rfl (lv_at hl 2 rfl) ?_
      refine q_ald_n cx dX10_notOut_5 rfl (lv_at hl 0 rfl) ?_
      obtain ⟨x111, ex111⟩ : ∃ zz, q_is (q_z f v 3) zz := ⟨_, q_isr _⟩
      refine q_gX10_35_15 cx hB hv kv ex111 dX10_notOut_6 (fun lb112 ub112 => ?_)
      refine q_icge (tgt := 35) cx ⟨by omega, by omega⟩ ⟨by omega, by omega⟩ dX10_notOut_9 (by decide) (fun c113 => ?_) (fun c113 => ?_)
      · refine q_ild_n cx dX10_notOut_35 rfl (lv_at hl 1 rfl) ?_
        refine q_iret cx hr hlk hB dX10_notOut_36 ⟨by omega, by omega⟩ ?_
        exact rfl
      · refine q_ald_n cx dX10_notOut_12 rfl (lv_at hl 0 rfl) ?_
        refine q_ild_n cx dX10_notOut_13 rfl (lv_at hl 2 rfl) ?_
        refine q_cVr (As := [.int (q_i v4_2)]) (rest := []) cx hB (fun _ h => h) hN hv kv (by decide) rfl (g_X10_nodeAt_3 l g hN hB.2.1 v hv kv v4_2 (by omega) (by omega)) q_cX10_66 q_dX10_nodeAt (by decide) rfl rfl hl.1 rfl (Nat.le_of_ble_eq_true rfl) dX10_notOut_14 (fun y115 H locs f114 h116 hF hB => ?_)
        obtain ⟨rfl, hy115, ky115⟩ := h116
        obtain ⟨x117, ex117⟩ : ∃ zz, q_is (q_z f y115 4) zz := ⟨_, q_isr _⟩
        refine q_gX10_101_19 cx hB hy115 ky115 ex117 dX10_notOut_17 (fun lb118 ub118 => ?_)
        refine q_ifle (tgt := 29) cx ⟨by omega, by omega⟩ dX10_notOut_20 (by decide) (fun c119 => ?_) (fun c119 => ?_)
        · exact J29 v4_1 (by omega) (by omega) (by omega) H locs hB ls (lv_sub hl [0, 1, 2] rfl)
        · refine q_ild_n cx dX10_notOut_23 rfl (lv_at hl 1 rfl) ?_
          refine q_iconst cx dX10_notOut_24 ?_
          refine q_ild_n cx dX10_notOut_25 rfl (lv_at hl 2 rfl) ?_
          refine q_ishl cx dX10_notOut_26 (fun y120 ry120 ey120 => ?_)
          refine q_ior cx dX10_notOut_27 (fun y121 ry121 ey121 => ?_)
          refine lv_istore_n (lv' := [(1, .int (q_i y121)), (0, .ref v), (2, .int (q_i v4_2))]) cx.1 cx.2.1 dX10_notOut_28 rfl hl (by decide) rfl (fun ls hl => ?_)
          exact J29 y121 (by omega) (by omega) (by omega) H locs hB ls (lv_sub hl [1, 0, 2] rfl)
  obtain ⟨H, hH⟩ : ∃ H : Heap, H = s.heap := ⟨_, rfl⟩
  obtain ⟨locs, hlocs⟩ : ∃ z : List Loc, z = [] := ⟨_, rfl⟩
  rw [← hH, ← hlocs] at hB
  rw [← hH, ← hlocs]
  refine q_iconst cx dX10_notOut_0 ?_
  refine lv_istore_n (lv' := [(1, .int (q_i 0)), (0, .ref v)]) cx.1 cx.2.1 dX10_notOut_1 rfl hl (by decide) rfl (fun ls hl => ?_)
  refine q_iconst cx dX10_notOut_2 ?_
  refine lv_istore_n (lv' := [(2, .int (q_i 0)), (1, .int (q_i 0)), (0, .ref v)]) cx.1 cx.2.1 dX10_notOut_3 rfl hl (by decide) rfl (fun ls hl => ?_)
  exact J4 ((Int.toNat (2147483647 - 0)) + 1) 0 (by decide) (by decide) 0 (by decide) (by decide) (Nat.lt_succ_self _) H locs hB ls (lv_sub hl [2, 1, 0] rfl)
set_option maxHeartbeats 4000000 in
set_option maxRecDepth 100000 in
theorem g_X10_notOut_4 (l : Launch) (g : q_G) {K : Nat → Nat} {L : List Nat} (hN : L.Nodup) {f : Nat → va_E} (hT : q_Ty g K L f) (v : Nat) (hv : v ∈ L) (kv : K v = 16) : q_Ct l g K L yX10_notOut cX10_notOut 3 (some .int) 1 21 [.ref v] f [] (q_Pi (fun (z : Int) (f1 : Nat → va_E) => f = f1)) := by
  refine q_ofb (by decide +kernel) hN hT (Nat.le_of_ble_eq_true rfl) ?_
  intro p e s m below meth c ls cx hr hlk hB hl
  have hl : lv_has ls 3 [(0, .ref v)] := hl
  have J4 : ∀ (n : Nat) (v4_1 : Int) (lv4_1 : (-2147483648) ≤ v4_1) (uv4_1 : v4_1 ≤ 2147483647) (v4_2 : Int) (lv4_2 : 0 ≤ v4_2) (uv4_2 : v4_2 ≤ 10) (hmu : (Int.toNat (2147483647 - v4_2)) < n) (H : Heap) (locs : List Loc) (hB : q_B g K L (fun q => q ∈ L) [] f f s H locs) (ls : Array Slot) (hl : lv_has ls 3 [(0, .ref v), (1, .int (q_i v4_1)), (2, .int (q_i v4_2))]), W p l e { frames := 1, cells := 0, slots := 0, locals := 21 } s m ([.ref v] : List Value).toArray below meth c H locs 0 0 (MQ below (q_Q g K L [] f (q_Pi (fun (z : Int) (f1 : Nat → va_E) => f = f1))) ([.ref v] : List Value).toArray s 0 0 (fun q => q ∈ L)) (F0 m 4 ls []) := by
    intro n
    induction n with
    | zero =>
      intro v4_1 lv4_1 uv4_1 v4_2 lv4_2 uv4_2 hmu
      exact absurd hmu (Nat.not_lt_zero _)
    | succ n ih4 =>
      intro v4_1 lv4_1 uv4_1 v4_2 lv4_2 uv4_2 hmu H locs hB ls hl
      have J29 : ∀ (v29_1 : Int) (lv29_1 : (-2147483648) ≤ v29_1) (uv29_1 : v29_1 ≤ 2147483647) (buv4_2 : v4_2 ≤ 9) (H : Heap) (locs : List Loc) (hB : q_B g K L (fun q => q ∈ L) [] f f s H locs) (ls : Array Slot) (hl : lv_has ls 3 [(0, .ref v), (1, .int (q_i v29_1)), (2, .int (q_i v4_2))]), W p l e { frames := 1, cells := 0, slots := 0, locals := 21 } s m ([.ref v] : List Value).toArray below meth c H locs 0 0 (MQ below (q_Q g K L [] f (q_Pi (fun (z : Int) (f1 : Nat → va_E) => f = f1))) ([.ref v] : List Value).toArray s 0 0 (fun q => q ∈ L)) (F0 m 29 ls []) := by
        intro v29_1 lv29_1 uv29_1 buv4_2 H locs hB ls hl
        refine q_iinc (lv' := [(2, .int (q_i (v4_2 + 1))), (0, .ref v), (1, .int (q_i v29_1))]) cx dX10_notOut_29 hl (k := 2) rfl (by decide) rfl (fun ls hl => ?_)
        refine lv_goto (tgt := 4) cx.1 cx.2.1 dX10_notOut_32 (by decide) ?_
        exact ih4 v29_1 (by omega) (by omega) (v4_2 + 1) (by omega) (by omega) (by omega) H locs hB ls (lv_sub hl [1, 2, 0] rfl)
      refine q_ild_n cx dX10_notOut_4 rfl (lv_at hl 2 rfl) ?_
      refine q_ald_n cx dX10_notOut_5 rfl (lv_at hl 0 rfl) ?_
      obtain ⟨x111, ex111⟩ : ∃ zz, q_is (q_z f v 3) zz := ⟨_, q_isr _⟩
      refine q_gX10_35_16 cx hB hv kv ex111 dX10_notOut_6 (fun lb112 ub112 => ?_)
      refine q_icge (tgt := 35) cx ⟨by omega, by omega⟩ ⟨by omega, by omega⟩ dX10_notOut_9 (by decide) (fun c113 => ?_) (fun c113 => ?_)
      · refine q_ild_n cx dX10_notOut_35 rfl (lv_at hl 1 rfl) ?_
        refine q_iret cx hr hlk hB dX10_notOut_36 ⟨by omega, by omega⟩ ?_
        exact rfl
      · refine q_ald_n cx dX10_notOut_12 rfl (lv_at hl 0 rfl) ?_
        refine q_ild_n cx dX10_notOut_13 rfl (lv_at hl 2 rfl) ?_
        refine q_cVr (As := [.int (q_i v4_2)]) (rest := []) cx hB (fun _ h => h) hN hv kv (by decide) rfl (g_X10_nodeAt_4 l g hN hB.2.1 v hv kv v4_2 (by omega) (by omega)) q_cX10_66 q_dX10_nodeAt (by decide) rfl rfl hl.1 rfl (Nat.le_of_ble_eq_true rfl) dX10_notOut_14 (fun y115 H locs f114 h116 hF hB => ?_)
        obtain ⟨rfl, hy115, ky115⟩ := h116
        obtain ⟨x117, ex117⟩ : ∃ zz, q_is (q_z f y115 4) zz := ⟨_, q_isr _⟩
        refine q_gX10_101_20 cx hB hy115 ky115 ex117 dX10_notOut_17 (fun lb118 ub118 => ?_)
        refine q_ifle (tgt := 29) cx ⟨by omega, by omega⟩ dX10_notOut_20 (by decide) (fun c119 => ?_) (fun c119 => ?_)
        · exact J29 v4_1 (by omega) (by omega) (by omega) H locs hB ls (lv_sub hl [0, 1, 2] rfl)
        · refine q_ild_n cx dX10_notOut_23 rfl (lv_at hl 1 rfl) ?_
          refine q_iconst cx dX10_notOut_24 ?_
          refine q_ild_n cx dX10_notOut_25 rfl (lv_at hl 2 rfl) ?_
          refine q_ishl cx dX10_notOut_26 (fun y120 ry120 ey120 => ?_)
          refine q_ior cx dX10_notOut_27 (fun y121 ry121 ey121 => ?_)
          refine lv_istore_n (lv' := [(1, .int (q_i y121)), (0, .ref v), (2, .int (q_i v4_2))]) cx.1 cx.2.1 dX10_notOut_28 rfl hl (by decide) rfl (fun ls hl => ?_)
          exact J29 y121 (by omega) (by omega) (by omega) H locs hB ls (lv_sub hl [1, 0, 2] rfl)
  obtain ⟨H, hH⟩ : ∃ H : Heap, H = s.heap := ⟨_, rfl⟩
  obtain ⟨locs, hlocs⟩ : ∃ z : List Loc, z = [] := ⟨_, rfl⟩
  rw [← hH, ← hlocs] at hB
  rw [← hH, ← hlocs]
  refine q_iconst cx dX10_notOut_0 ?_
  refine lv_istore_n (lv' := [(1, .int (q_i 0)), (0, .ref v)]) cx.1 cx.2.1 dX10_notOut_1 rfl hl (by decide) rfl (fun ls hl => ?_)
  refine q_iconst cx dX10_notOut_2 ?_
  refine lv_istore_n (lv' := [(2, .int (q_i 0)), (1, .int (q_i 0)), (0, .ref v)]) cx.1 cx.2.1 dX10_notOut_3 rfl hl (by decide) rfl (fun ls hl => ?_)
  exact J4 ((Int.toNat (2147483647 - 0)) + 1) 0 (by decide) (by decide) 0 (by decide) (by decide) (Nat.lt_succ_self _) H locs hB ls (lv_sub hl [2, 1, 0] rfl)
set_option maxHeartbeats 4000000 in
set_option maxRecDepth 100000 in
theorem g_X10_lowestOf (l : Launch) (g : q_G) {K : Nat → Nat} {L : List Nat} (hN : L.Nodup) {f : Nat → va_E} (hT : q_Ty g K L f) (p0 : Int) (lp0 : (-2147483648) ≤ p0) (up0 : p0 ≤ 2147483647) : q_Ct l g K L yX10_lowestOf cX10_lowestOf 2 (some .int) 0 0 [.int (q_i p0)] f [] (q_Pi (fun (z : Int) (f1 : Nat → va_E) => f = f1 ∧ (-1) ≤ z ∧ z ≤ 9)) := by
  refine q_ofb (by decide +kernel) hN hT (Nat.le_of_ble_eq_true rfl) ?_
  intro p e s m below meth c ls cx hr hlk hB hl
  have hl : lv_has ls 2 [(0, .int (q_i p0))] := hl
  have J2 : ∀ (n : Nat) (v2_1 : Int) (lv2_1 : 0 ≤ v2_1) (uv2_1 : v2_1 ≤ 10) (hmu : (Int.toNat (2147483647 - v2_1)) < n) (H : Heap) (locs : List Loc) (hB : q_B g K L (fun q => q ∈ L) [] f f s H locs) (ls : Array Slot) (hl : lv_has ls 2 [(0, .int (q_i p0)), (1, .int (q_i v2_1))]), W p l e { frames := 0, cells := 0, slots := 0, locals := 0 } s m ([.int (q_i p0)] : List Value).toArray below meth c H locs 0 0 (MQ below (q_Q g K L [] f (q_Pi (fun (z : Int) (f1 : Nat → va_E) => f = f1 ∧ (-1) ≤ z ∧ z ≤ 9))) ([.int (q_i p0)] : List Value).toArray s 0 0 (fun q => q ∈ L)) (F0 m 2 ls []) := by
    intro n
    induction n with
    | zero =>
      intro v2_1 lv2_1 uv2_1 hmu
      exact absurd hmu (Nat.not_lt_zero _)
    | succ n ih2 =>
      intro v2_1 lv2_1 uv2_1 hmu H locs hB ls hl
      refine q_ild_n cx dX10_lowestOf_2 rfl (lv_at hl 1 rfl) ?_
      refine q_bipush cx dX10_lowestOf_3 rfl ?_
      refine q_icge (tgt := 24) cx ⟨by omega, by omega⟩ ⟨by decide, by decide⟩ dX10_lowestOf_5 (by decide) (fun c41 => ?_) (fun c41 => ?_)
      · refine q_iconst cx dX10_lowestOf_24 ?_
        refine q_iret cx hr hlk hB dX10_lowestOf_25 ⟨by decide, by decide⟩ ?_
        exact ⟨rfl, (by decide), (by decide)⟩
      · refine q_ild_n cx dX10_lowestOf_8 rfl (lv_at hl 0 rfl) ?_
        refine q_ild_n cx dX10_lowestOf_9 rfl (lv_at hl 1 rfl) ?_
        refine q_ishr cx dX10_lowestOf_10 (fun y42 ry42 ey42 => ?_)
        refine q_iconst cx dX10_lowestOf_11 ?_
        refine q_iandm cx 1 (by decide) rfl dX10_lowestOf_12 (fun y43 ly43 uy43 ey43 => ?_)
        refine q_ifeq (tgt := 18) cx ⟨by omega, by omega⟩ dX10_lowestOf_13 (by decide) (fun c44 => ?_) (fun c44 => ?_)
        · refine q_iinc (lv' := [(1, .int (q_i (v2_1 + 1))), (0, .int (q_i p0))]) cx dX10_lowestOf_18 hl (k := 1) rfl (by decide) rfl (fun ls hl => ?_)
          refine lv_goto (tgt := 2) cx.1 cx.2.1 dX10_lowestOf_21 (by decide) ?_
          exact ih2 (v2_1 + 1) (by omega) (by omega) (by omega) H locs hB ls (lv_sub hl [1, 0] rfl)
        · refine q_ild_n cx dX10_lowestOf_16 rfl (lv_at hl 1 rfl) ?_
          refine q_iret cx hr hlk hB dX10_lowestOf_17 ⟨by omega, by omega⟩ ?_
          exact ⟨rfl, (by omega), (by omega)⟩
  obtain ⟨H, hH⟩ : ∃ H : Heap, H = s.heap := ⟨_, rfl⟩
  obtain ⟨locs, hlocs⟩ : ∃ z : List Loc, z = [] := ⟨_, rfl⟩
  rw [← hH, ← hlocs] at hB
  rw [← hH, ← hlocs]
  refine q_iconst cx dX10_lowestOf_0 ?_
  refine lv_istore_n (lv' := [(1, .int (q_i 0)), (0, .int (q_i p0))]) cx.1 cx.2.1 dX10_lowestOf_1 rfl hl (by decide) rfl (fun ls hl => ?_)
  exact J2 ((Int.toNat (2147483647 - 0)) + 1) 0 (by decide) (by decide) (Nat.lt_succ_self _) H locs hB ls (lv_sub hl [1, 0] rfl)
set_option maxHeartbeats 4000000 in
set_option maxRecDepth 100000 in
theorem g_X10_grown (l : Launch) (g : q_G) {K : Nat → Nat} {L : List Nat} (hN : L.Nodup) {f : Nat → va_E} (hT : q_Ty g K L f) (v : Nat) (hv : v ∈ L) (kv : K v = 10) (p0 : Int) (lp0 : (-2147483648) ≤ p0) (up0 : p0 ≤ 2147483647) (p1 : Int) (lp1 : (-2147483648) ≤ p1) (up1 : p1 ≤ 2147483647) : q_Ct l g K L yX10_grown cX10_grown 5 (some .int) 0 0 [.ref v, .int (q_i p0), .int (q_i p1)] f [] (q_Pi (fun (z : Int) (f1 : Nat → va_E) => f = f1)) := by
  refine q_ofb (by decide +kernel) hN hT (Nat.le_of_ble_eq_true rfl) ?_
  intro p e s m below meth c ls cx hr hlk hB hl
  have hl : lv_has ls 5 [(0, .ref v), (1, .int (q_i p0)), (2, .int (q_i p1))] := hl
  have J5 : ∀ (n : Nat) (v5_3 : Int) (lv5_3 : (-2147483648) ≤ v5_3) (uv5_3 : v5_3 ≤ 2147483647) (v5_4 : Int) (lv5_4 : 0 ≤ v5_4) (uv5_4 : v5_4 ≤ 10) (hmu : (Int.toNat (2147483647 - v5_4)) < n) (H : Heap) (locs : List Loc) (hB : q_B g K L (fun q => q ∈ L) [] f f s H locs) (ls : Array Slot) (hl : lv_has ls 5 [(0, .ref v), (1, .int (q_i p0)), (2, .int (q_i p1)), (3, .int (q_i v5_3)), (4, .int (q_i v5_4))]), W p l e { frames := 0, cells := 0, slots := 0, locals := 0 } s m ([.ref v, .int (q_i p0), .int (q_i p1)] : List Value).toArray below meth c H locs 0 0 (MQ below (q_Q g K L [] f (q_Pi (fun (z : Int) (f1 : Nat → va_E) => f = f1))) ([.ref v, .int (q_i p0), .int (q_i p1)] : List Value).toArray s 0 0 (fun q => q ∈ L)) (F0 m 5 ls []) := by
    intro n
    induction n with
    | zero =>
      intro v5_3 lv5_3 uv5_3 v5_4 lv5_4 uv5_4 hmu
      exact absurd hmu (Nat.not_lt_zero _)
    | succ n ih5 =>
      intro v5_3 lv5_3 uv5_3 v5_4 lv5_4 uv5_4 hmu H locs hB ls hl
      have J48 : ∀ (v48_3 : Int) (lv48_3 : (-2147483648) ≤ v48_3) (uv48_3 : v48_3 ≤ 2147483647) (buv5_4 : v5_4 ≤ 9) (H : Heap) (locs : List Loc) (hB : q_B g K L (fun q => q ∈ L) [] f f s H locs) (ls : Array Slot) (hl : lv_has ls 5 [(0, .ref v), (1, .int (q_i p0)), (2, .int (q_i p1)), (3, .int (q_i v48_3)), (4, .int (q_i v5_4))]), W p l e { frames := 0, cells := 0, slots := 0, locals := 0 } s m ([.ref v, .int (q_i p0), .int (q_i p1)] : List Value).toArray below meth c H locs 0 0 (MQ below (q_Q g K L [] f (q_Pi (fun (z : Int) (f1 : Nat → va_E) => f = f1))) ([.ref v, .int (q_i p0), .int (q_i p1)] : List Value).toArray s 0 0 (fun q => q ∈ L)) (F0 m 48 ls []) := by
        intro v48_3 lv48_3 uv48_3 buv5_4 H locs hB ls hl
        refine q_iinc (lv' := [(4, .int (q_i (v5_4 + 1))), (0, .ref v), (1, .int (q_i p0)), (2, .int (q_i p1)), (3, .int (q_i v48_3))]) cx dX10_grown_48 hl (k := 4) rfl (by decide) rfl (fun ls hl => ?_)
        refine lv_goto (tgt := 5) cx.1 cx.2.1 dX10_grown_51 (by decide) ?_
        exact ih5 v48_3 (by omega) (by omega) (v5_4 + 1) (by omega) (by omega) (by omega) H locs hB ls (lv_sub hl [1, 2, 3, 4, 0] rfl)
      refine lv_iload cx.1 cx.2.1 dX10_grown_5 (lv_at hl 4 rfl) ?_
      refine q_ald_n cx dX10_grown_7 rfl (lv_at hl 0 rfl) ?_
      obtain ⟨x161, ex161⟩ : ∃ zz, q_is (q_z f v 3) zz := ⟨_, q_isr _⟩
      refine q_gX10_35 cx hB hv kv ex161 dX10_grown_8 (fun lb162 ub162 => ?_)
      refine q_icge (tgt := 54) cx ⟨by omega, by omega⟩ ⟨by omega, by omega⟩ dX10_grown_11 (by decide) (fun c163 => ?_) (fun c163 => ?_)
      · refine q_ild_n cx dX10_grown_54 rfl (lv_at hl 3 rfl) ?_
        refine q_iret cx hr hlk hB dX10_grown_55 ⟨by omega, by omega⟩ ?_
        exact rfl
      · refine lv_iload cx.1 cx.2.1 dX10_grown_14 (lv_at hl 4 rfl) ?_
        refine q_ald_n cx dX10_grown_16 rfl (lv_at hl 0 rfl) ?_
        obtain ⟨p164, ep164⟩ : ∃ zz, q_ir (q_r f v 0) zz := ⟨_, q_irr _⟩
        refine q_gX10_13 cx hB hv kv ep164 dX10_grown_17 (fun hb165 kb165 => ?_)
        refine q_alen (n := 10) cx hB hb165 kb165 (by decide) rfl 7 rfl rfl dX10_grown_20 ?_
        refine q_icge (tgt := 48) cx ⟨by omega, by omega⟩ ⟨by decide, by decide⟩ dX10_grown_21 (by decide) (fun c166 => ?_) (fun c166 => ?_)
        · exact absurd c166 (by omega)
        · refine q_ild_n cx dX10_grown_24 rfl (lv_at hl 1 rfl) ?_
          refine lv_iload cx.1 cx.2.1 dX10_grown_25 (lv_at hl 4 rfl) ?_
          refine q_ishr cx dX10_grown_27 (fun y167 ry167 ey167 => ?_)
          refine q_iconst cx dX10_grown_28 ?_
          refine q_iandm cx 1 (by decide) rfl dX10_grown_29 (fun y168 ly168 uy168 ey168 => ?_)
          refine q_ifeq (tgt := 48) cx ⟨by omega, by omega⟩ dX10_grown_30 (by decide) (fun c169 => ?_) (fun c169 => ?_)
          · exact J48 v5_3 (by omega) (by omega) (by omega) H locs hB ls (lv_sub hl [0, 1, 2, 3, 4] rfl)
          · refine q_ild_n cx dX10_grown_33 rfl (lv_at hl 3 rfl) ?_
            refine q_ald_n cx dX10_grown_34 rfl (lv_at hl 0 rfl) ?_
            refine q_gX10_13 cx hB hv kv ep164 dX10_grown_35 (fun hb170 kb170 => ?_)
            refine lv_iload cx.1 cx.2.1 dX10_grown_38 (lv_at hl 4 rfl) ?_
            obtain ⟨p171, ep171⟩ : ∃ zz, q_ir (q_r f p164 (Int.toNat v5_4)) zz := ⟨_, q_irr _⟩
            refine q_aald (k2 := 5) (n := 10) cx hB hb165 kb165 (by decide) rfl 7 rfl (by decide) rfl (by omega) (by omega) (by decide) rfl ep171 dX10_grown_40 (fun hb172 kb172 => ?_)
            obtain ⟨x173, ex173⟩ : ∃ zz, q_is (q_z f p171 5) zz := ⟨_, q_isr _⟩
            refine q_gX10_104 cx hB hb172 kb172 ex173 dX10_grown_41 (fun lb174 ub174 => ?_)
            refine q_ild_n cx dX10_grown_44 rfl (lv_at hl 2 rfl) ?_
            refine q_iand cx dX10_grown_45 (fun y175 ry175 ey175 => ?_)
            refine q_ior cx dX10_grown_46 (fun y176 ry176 ey176 => ?_)
            refine lv_istore_n (lv' := [(3, .int (q_i y176)), (0, .ref v), (1, .int (q_i p0)), (2, .int (q_i p1)), (4, .int (q_i v5_4))]) cx.1 cx.2.1 dX10_grown_47 rfl hl (by decide) rfl (fun ls hl => ?_)
            exact J48 y176 (by omega) (by omega) (by omega) H locs hB ls (lv_sub hl [1, 2, 3, 0, 4] rfl)
  obtain ⟨H, hH⟩ : ∃ H : Heap, H = s.heap := ⟨_, rfl⟩
  obtain ⟨locs, hlocs⟩ : ∃ z : List Loc, z = [] := ⟨_, rfl⟩
  rw [← hH, ← hlocs] at hB
  rw [← hH, ← hlocs]
  refine q_ild_n cx dX10_grown_0 rfl (lv_at hl 1 rfl) ?_
  refine lv_istore_n (lv' := [(3, .int (q_i p0)), (0, .ref v), (1, .int (q_i p0)), (2, .int (q_i p1))]) cx.1 cx.2.1 dX10_grown_1 rfl hl (by decide) rfl (fun ls hl => ?_)
  refine q_iconst cx dX10_grown_2 ?_
  refine lv_istore (lv' := [(4, .int (q_i 0)), (3, .int (q_i p0)), (0, .ref v), (1, .int (q_i p0)), (2, .int (q_i p1))]) cx.1 cx.2.1 dX10_grown_3 hl (by decide) rfl (fun ls hl => ?_)
  exact J5 ((Int.toNat (2147483647 - 0)) + 1) p0 (by omega) (by omega) 0 (by decide) (by decide) (Nat.lt_succ_self _) H locs hB ls (lv_sub hl [2, 3, 4, 1, 0] rfl)
set_option maxHeartbeats 4000000 in
set_option maxRecDepth 100000 in
theorem g_X10_grown_1 (l : Launch) (g : q_G) {K : Nat → Nat} {L : List Nat} (hN : L.Nodup) {f : Nat → va_E} (hT : q_Ty g K L f) (v : Nat) (hv : v ∈ L) (kv : K v = 13) (p0 : Int) (lp0 : (-2147483648) ≤ p0) (up0 : p0 ≤ 2147483647) (p1 : Int) (lp1 : (-2147483648) ≤ p1) (up1 : p1 ≤ 2147483647) : q_Ct l g K L yX10_grown cX10_grown 5 (some .int) 0 0 [.ref v, .int (q_i p0), .int (q_i p1)] f [] (q_Pi (fun (z : Int) (f1 : Nat → va_E) => f = f1)) := by
  refine q_ofb (by decide +kernel) hN hT (Nat.le_of_ble_eq_true rfl) ?_
  intro p e s m below meth c ls cx hr hlk hB hl
  have hl : lv_has ls 5 [(0, .ref v), (1, .int (q_i p0)), (2, .int (q_i p1))] := hl
  have J5 : ∀ (n : Nat) (v5_3 : Int) (lv5_3 : (-2147483648) ≤ v5_3) (uv5_3 : v5_3 ≤ 2147483647) (v5_4 : Int) (lv5_4 : 0 ≤ v5_4) (uv5_4 : v5_4 ≤ 10) (hmu : (Int.toNat (2147483647 - v5_4)) < n) (H : Heap) (locs : List Loc) (hB : q_B g K L (fun q => q ∈ L) [] f f s H locs) (ls : Array Slot) (hl : lv_has ls 5 [(0, .ref v), (1, .int (q_i p0)), (2, .int (q_i p1)), (3, .int (q_i v5_3)), (4, .int (q_i v5_4))]), W p l e { frames := 0, cells := 0, slots := 0, locals := 0 } s m ([.ref v, .int (q_i p0), .int (q_i p1)] : List Value).toArray below meth c H locs 0 0 (MQ below (q_Q g K L [] f (q_Pi (fun (z : Int) (f1 : Nat → va_E) => f = f1))) ([.ref v, .int (q_i p0), .int (q_i p1)] : List Value).toArray s 0 0 (fun q => q ∈ L)) (F0 m 5 ls []) := by
    intro n
    induction n with
    | zero =>
      intro v5_3 lv5_3 uv5_3 v5_4 lv5_4 uv5_4 hmu
      exact absurd hmu (Nat.not_lt_zero _)
    | succ n ih5 =>
      intro v5_3 lv5_3 uv5_3 v5_4 lv5_4 uv5_4 hmu H locs hB ls hl
      have J48 : ∀ (v48_3 : Int) (lv48_3 : (-2147483648) ≤ v48_3) (uv48_3 : v48_3 ≤ 2147483647) (buv5_4 : v5_4 ≤ 9) (H : Heap) (locs : List Loc) (hB : q_B g K L (fun q => q ∈ L) [] f f s H locs) (ls : Array Slot) (hl : lv_has ls 5 [(0, .ref v), (1, .int (q_i p0)), (2, .int (q_i p1)), (3, .int (q_i v48_3)), (4, .int (q_i v5_4))]), W p l e { frames := 0, cells := 0, slots := 0, locals := 0 } s m ([.ref v, .int (q_i p0), .int (q_i p1)] : List Value).toArray below meth c H locs 0 0 (MQ below (q_Q g K L [] f (q_Pi (fun (z : Int) (f1 : Nat → va_E) => f = f1))) ([.ref v, .int (q_i p0), .int (q_i p1)] : List Value).toArray s 0 0 (fun q => q ∈ L)) (F0 m 48 ls []) := by
        intro v48_3 lv48_3 uv48_3 buv5_4 H locs hB ls hl
        refine q_iinc (lv' := [(4, .int (q_i (v5_4 + 1))), (0, .ref v), (1, .int (q_i p0)), (2, .int (q_i p1)), (3, .int (q_i v48_3))]) cx dX10_grown_48 hl (k := 4) rfl (by decide) rfl (fun ls hl => ?_)
        refine lv_goto (tgt := 5) cx.1 cx.2.1 dX10_grown_51 (by decide) ?_
        exact ih5 v48_3 (by omega) (by omega) (v5_4 + 1) (by omega) (by omega) (by omega) H locs hB ls (lv_sub hl [1, 2, 3, 4, 0] rfl)
      refine lv_iload cx.1 cx.2.1 dX10_grown_5 (lv_at hl 4 rfl) ?_
      refine q_ald_n cx dX10_grown_7 rfl (lv_at hl 0 rfl) ?_
      obtain ⟨x161, ex161⟩ : ∃ zz, q_is (q_z f v 3) zz := ⟨_, q_isr _⟩
      refine q_gX10_35_13 cx hB hv kv ex161 dX10_grown_8 (fun lb162 ub162 => ?_)
      refine q_icge (tgt := 54) cx ⟨by omega, by omega⟩ ⟨by omega, by omega⟩ dX10_grown_11 (by decide) (fun c163 => ?_) (fun c163 => ?_)
      · refine q_ild_n cx dX10_grown_54 rfl (lv_at hl 3 rfl) ?_
        refine q_iret cx hr hlk hB dX10_grown_55 ⟨by omega, by omega⟩ ?_
        exact rfl
      · refine lv_iload cx.1 cx.2.1 dX10_grown_14 (lv_at hl 4 rfl) ?_
        refine q_ald_n cx dX10_grown_16 rfl (lv_at hl 0 rfl) ?_
        obtain ⟨p164, ep164⟩ : ∃ zz, q_ir (q_r f v 0) zz := ⟨_, q_irr _⟩
        refine q_gX10_13_13 cx hB hv kv ep164 dX10_grown_17 (fun hb165 kb165 => ?_)
        refine q_alen (n := 10) cx hB hb165 kb165 (by decide) rfl 7 rfl rfl dX10_grown_20 ?_
        refine q_icge (tgt := 48) cx ⟨by omega, by omega⟩ ⟨by decide, by decide⟩ dX10_grown_21 (by decide) (fun c166 => ?_) (fun c166 => ?_)
        · exact absurd c166 (by omega)
        · refine q_ild_n cx dX10_grown_24 rfl (lv_at hl 1 rfl) ?_
          refine lv_iload cx.1 cx.2.1 dX10_grown_25 (lv_at hl 4 rfl) ?_
          refine q_ishr cx dX10_grown_27 (fun y167 ry167 ey167 => ?_)
          refine q_iconst cx dX10_grown_28 ?_
          refine q_iandm cx 1 (by decide) rfl dX10_grown_29 (fun y168 ly168 uy168 ey168 => ?_)
          refine q_ifeq (tgt := 48) cx ⟨by omega, by omega⟩ dX10_grown_30 (by decide) (fun c169 => ?_) (fun c169 => ?_)
          · exact J48 v5_3 (by omega) (by omega) (by omega) H locs hB ls (lv_sub hl [0, 1, 2, 3, 4] rfl)
          · refine q_ild_n cx dX10_grown_33 rfl (lv_at hl 3 rfl) ?_
            refine q_ald_n cx dX10_grown_34 rfl (lv_at hl 0 rfl) ?_
            refine q_gX10_13_13 cx hB hv kv ep164 dX10_grown_35 (fun hb170 kb170 => ?_)
            refine lv_iload cx.1 cx.2.1 dX10_grown_38 (lv_at hl 4 rfl) ?_
            obtain ⟨p171, ep171⟩ : ∃ zz, q_ir (q_r f p164 (Int.toNat v5_4)) zz := ⟨_, q_irr _⟩
            refine q_aald (k2 := 17) (n := 10) cx hB hb165 kb165 (by decide) rfl 7 rfl (by decide) rfl (by omega) (by omega) (by decide) rfl ep171 dX10_grown_40 (fun hb172 kb172 => ?_)
            obtain ⟨x173, ex173⟩ : ∃ zz, q_is (q_z f p171 5) zz := ⟨_, q_isr _⟩
            refine q_gX10_104_17 cx hB hb172 kb172 ex173 dX10_grown_41 (fun lb174 ub174 => ?_)
            refine q_ild_n cx dX10_grown_44 rfl (lv_at hl 2 rfl) ?_
            refine q_iand cx dX10_grown_45 (fun y175 ry175 ey175 => ?_)
            refine q_ior cx dX10_grown_46 (fun y176 ry176 ey176 => ?_)
            refine lv_istore_n (lv' := [(3, .int (q_i y176)), (0, .ref v), (1, .int (q_i p0)), (2, .int (q_i p1)), (4, .int (q_i v5_4))]) cx.1 cx.2.1 dX10_grown_47 rfl hl (by decide) rfl (fun ls hl => ?_)
            exact J48 y176 (by omega) (by omega) (by omega) H locs hB ls (lv_sub hl [1, 2, 3, 0, 4] rfl)
  obtain ⟨H, hH⟩ : ∃ H : Heap, H = s.heap := ⟨_, rfl⟩
  obtain ⟨locs, hlocs⟩ : ∃ z : List Loc, z = [] := ⟨_, rfl⟩
  rw [← hH, ← hlocs] at hB
  rw [← hH, ← hlocs]
  refine q_ild_n cx dX10_grown_0 rfl (lv_at hl 1 rfl) ?_
  refine lv_istore_n (lv' := [(3, .int (q_i p0)), (0, .ref v), (1, .int (q_i p0)), (2, .int (q_i p1))]) cx.1 cx.2.1 dX10_grown_1 rfl hl (by decide) rfl (fun ls hl => ?_)
  refine q_iconst cx dX10_grown_2 ?_
  refine lv_istore (lv' := [(4, .int (q_i 0)), (3, .int (q_i p0)), (0, .ref v), (1, .int (q_i p0)), (2, .int (q_i p1))]) cx.1 cx.2.1 dX10_grown_3 hl (by decide) rfl (fun ls hl => ?_)
  exact J5 ((Int.toNat (2147483647 - 0)) + 1) p0 (by omega) (by omega) 0 (by decide) (by decide) (Nat.lt_succ_self _) H locs hB ls (lv_sub hl [2, 3, 4, 1, 0] rfl)
