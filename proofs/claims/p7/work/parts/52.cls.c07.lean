set_option maxHeartbeats 4000000 in
set_option maxRecDepth 100000 in
theorem g_X10_miss_1 (l : Launch) (g : q_G) {K : Nat → Nat} {L : List Nat} (hN : L.Nodup) {f : Nat → va_E} (hT : q_Ty g K L f) (v : Nat) (hv : v ∈ L) (kv : K v = 13) (p0 : Nat) (hp0 : p0 ∈ L) (kp0 : K p0 = 21) : q_Ct l g K L yX10_miss cX10_miss 4 none 1 21 [.ref v, .ref p0] f [(13, 12, 12), (17, 3, 3), (21, 2, 2), (21, 4, 4)] (q_Pv (fun (f1 : Nat → va_E) => True)) := by
  refine q_ofb (by decide +kernel) hN hT (Nat.le_of_ble_eq_true rfl) ?_
  intro p e s m below meth c ls cx hr hlk hB hl
  have hl : lv_has ls 4 [(0, .ref v), (1, .ref p0)] := hl
  have J86 : ∀ (f86 : Nat → va_E) (H : Heap) (locs : List Loc) (hB : q_B g K L (fun q => q ∈ L) [(13, 12, 12), (17, 3, 3), (21, 2, 2), (21, 4, 4)] f f86 s H locs) (ls : Array Slot) (hl : lv_has ls 4 []), W p l e { frames := 1, cells := 0, slots := 0, locals := 21 } s m ([.ref v, .ref p0] : List Value).toArray below meth c H locs 0 0 (MQ below (q_Q g K L [(13, 12, 12), (17, 3, 3), (21, 2, 2), (21, 4, 4)] f (q_Pv (fun (f1 : Nat → va_E) => True))) ([.ref v, .ref p0] : List Value).toArray s 0 0 (fun q => q ∈ L)) (F0 m 86 ls []) := by
    intro f86 H locs hB ls hl
    refine q_vret cx hr hlk hB dX10_miss_86 ?_
    trivial
  obtain ⟨H, hH⟩ : ∃ H : Heap, H = s.heap := ⟨_, rfl⟩
  obtain ⟨locs, hlocs⟩ : ∃ z : List Loc, z = [] := ⟨_, rfl⟩
  rw [← hH, ← hlocs] at hB
  rw [← hH, ← hlocs]
  refine q_ald_n cx dX10_miss_0 rfl (lv_at hl 1 rfl) ?_
  refine lv_dup cx.1 cx.2.1 dX10_miss_1 rfl ?_
  obtain ⟨x40, ex40⟩ : ∃ zz, q_is (q_z f p0 4) zz := ⟨_, q_isr _⟩
  refine q_gX10_128_21 cx hB hp0 kp0 ex40 dX10_miss_2 (fun lb41 ub41 => ?_)
  refine q_iconst cx dX10_miss_5 ?_
  refine q_iadd cx dX10_miss_6 ?_
  refine q_any (fun y42 ry42 ey42 => ?_)
  refine q_pX10_128_21 cx hB hp0 kp0 ⟨by omega, by omega⟩ (by omega) (by omega) rfl dX10_miss_7 (fun H locs f43 ef43 z44 hB => ?_)
  refine q_ald_n cx dX10_miss_10 rfl (lv_at hl 1 rfl) ?_
  refine lv_dup cx.1 cx.2.1 dX10_miss_11 rfl ?_
  obtain ⟨x45, ex45⟩ : ∃ zz, q_is (q_z f43 p0 2) zz := ⟨_, q_isr _⟩
  refine q_gX10_122_21 cx hB hp0 kp0 ex45 dX10_miss_12 (fun lb46 ub46 => ?_)
  refine q_iconst cx dX10_miss_15 ?_
  refine q_iadd cx dX10_miss_16 ?_
  refine q_any (fun y47 ry47 ey47 => ?_)
  refine q_pX10_122_21 cx hB hp0 kp0 ⟨by omega, by omega⟩ (by omega) (by omega) rfl dX10_miss_17 (fun H locs f48 ef48 z49 hB => ?_)
  refine q_ald_n cx dX10_miss_20 rfl (lv_at hl 1 rfl) ?_
  refine q_gX10_122_21 cx hB hp0 kp0 z49 dX10_miss_21 (fun lb50 ub50 => ?_)
  refine q_ald_n cx dX10_miss_24 rfl (lv_at hl 0 rfl) ?_
  obtain ⟨x51, ex51⟩ : ∃ zz, q_is (q_z f48 v 10) zz := ⟨_, q_isr _⟩
  refine q_gX10_57_13 cx hB hv kv ex51 dX10_miss_25 (fun lb52 ub52 => ?_)
  refine q_iclt (tgt := 86) cx ⟨by omega, by omega⟩ ⟨by omega, by omega⟩ dX10_miss_28 (by decide) (fun c53 => ?_) (fun c53 => ?_)
  · exact J86 f48 H locs hB ls (lv_sub hl [] rfl)
  · refine q_ald_n cx dX10_miss_31 rfl (lv_at hl 1 rfl) ?_
    obtain ⟨x54, ex54⟩ : ∃ zz, q_is (q_z f48 p0 0) zz := ⟨_, q_isr _⟩
    refine q_gX10_116_21 cx hB hp0 kp0 ex54 dX10_miss_32 (fun lb55 ub55 => ?_)
    refine q_ald_n cx dX10_miss_35 rfl (lv_at hl 1 rfl) ?_
    obtain ⟨x56, ex56⟩ : ∃ zz, q_is (q_z f48 p0 1) zz := ⟨_, q_isr _⟩
    refine q_gX10_119_21 cx hB hp0 kp0 ex56 dX10_miss_36 (fun lb57 ub57 => ?_)
    refine q_mmin (rest := []) cx hl.1 q_h713 q_h714 q_h157 q_h715 (by decide) (Nat.le_of_ble_eq_true rfl) (by decide) (by decide) ⟨by omega, by omega⟩ ⟨by omega, by omega⟩ dX10_miss_39 (fun y58 ay58 by58 ey58 => ?_)
    refine lv_istore_n (lv' := [(2, .int (q_i y58)), (0, .ref v), (1, .ref p0)]) cx.1 cx.2.1 dX10_miss_42 rfl hl (by decide) rfl (fun ls hl => ?_)
    refine q_ald_n cx dX10_miss_43 rfl (lv_at hl 2 rfl) ?_
    refine q_gX10_116_21 cx hB hp0 kp0 ex54 dX10_miss_44 (fun lb59 ub59 => ?_)
    refine q_ald_n cx dX10_miss_47 rfl (lv_at hl 2 rfl) ?_
    refine q_gX10_119_21 cx hB hp0 kp0 ex56 dX10_miss_48 (fun lb60 ub60 => ?_)
    refine q_mmax (rest := []) cx hl.1 q_h658 q_h659 q_h157 q_h660 (by decide) (Nat.le_of_ble_eq_true rfl) (by decide) (by decide) ⟨by omega, by omega⟩ ⟨by omega, by omega⟩ dX10_miss_51 (fun y61 ay61 by61 ey61 => ?_)
    refine lv_istore_n (lv' := [(3, .int (q_i y61)), (2, .int (q_i y58)), (0, .ref v), (1, .ref p0)]) cx.1 cx.2.1 dX10_miss_54 rfl hl (by decide) rfl (fun ls hl => ?_)
    refine q_ald_n cx dX10_miss_55 rfl (lv_at hl 2 rfl) ?_
    refine q_ild_n cx dX10_miss_56 rfl (lv_at hl 0 rfl) ?_
    refine q_cVr (As := [.int (q_i y61)]) (rest := []) cx hB (fun _ h => h) hN hv kv (by decide) rfl (g_X10_nodeAt_1 l g hN hB.2.1 v hv kv y61 (by omega) (by omega)) q_cX10_66 q_dX10_nodeAt (by decide) rfl rfl hl.1 rfl (Nat.le_of_ble_eq_true rfl) dX10_miss_57 (fun y63 H locs f62 h64 hF hB => ?_)
    obtain ⟨rfl, hy63, ky63⟩ := h64
    refine q_ald_n cx dX10_miss_60 rfl (lv_at hl 2 rfl) ?_
    refine q_ild_n cx dX10_miss_61 rfl (lv_at hl 1 rfl) ?_
    refine q_cVr (As := [.int (q_i y58)]) (rest := [.ref y63]) cx hB (fun _ h => h) hN hv kv (by decide) rfl (g_X10_nodeAt_1 l g hN hB.2.1 v hv kv y58 (by omega) (by omega)) q_cX10_66 q_dX10_nodeAt (by decide) rfl rfl hl.1 rfl (Nat.le_of_ble_eq_true rfl) dX10_miss_62 (fun y66 H locs f65 h67 hF hB => ?_)
    obtain ⟨rfl, hy66, ky66⟩ := h67
    obtain ⟨x68, ex68⟩ : ∃ zz, q_is (q_z f48 y66 3) zz := ⟨_, q_isr _⟩
    refine q_gX10_98_17 cx hB hy66 ky66 ex68 dX10_miss_65 (fun lb69 ub69 => ?_)
    refine q_pX10_98_17 cx hB hy63 ky63 ⟨by omega, by omega⟩ (by omega) (by omega) rfl dX10_miss_68 (fun H locs f70 ef70 z71 hB => ?_)
    refine q_ald_n cx dX10_miss_71 rfl (lv_at hl 3 rfl) ?_
    refine q_iconst cx dX10_miss_72 ?_
    refine q_pX10_122_21 cx hB hp0 kp0 ⟨by decide, by decide⟩ (by decide) (by decide) rfl dX10_miss_73 (fun H locs f72 ef72 z73 hB => ?_)
    refine q_ald_n cx dX10_miss_76 rfl (lv_at hl 2 rfl) ?_
    refine lv_dup cx.1 cx.2.1 dX10_miss_77 rfl ?_
    obtain ⟨x74, ex74⟩ : ∃ zz, q_is (q_z f72 v 12) zz := ⟨_, q_isr _⟩
    refine q_gX10_63_13 cx hB hv kv ex74 dX10_miss_78 (fun lb75 ub75 => ?_)
    refine q_iconst cx dX10_miss_81 ?_
    refine q_iadd cx dX10_miss_82 ?_
    refine q_any (fun y76 ry76 ey76 => ?_)
    refine q_pX10_63_13 cx hB hv kv ⟨by omega, by omega⟩ (by omega) (by omega) rfl dX10_miss_83 (fun H locs f77 ef77 z78 hB => ?_)
    exact J86 f77 H locs hB ls (lv_sub hl [] rfl)
set_option maxHeartbeats 4000000 in
set_option maxRecDepth 100000 in
theorem g_X10_miss_2 (l : Launch) (g : q_G) {K : Nat → Nat} {L : List Nat} (hN : L.Nodup) {f : Nat → va_E} (hT : q_Ty g K L f) (v : Nat) (hv : v ∈ L) (kv : K v = 14) (p0 : Nat) (hp0 : p0 ∈ L) (kp0 : K p0 = 22) : q_Ct l g K L yX10_miss cX10_miss 4 none 1 21 [.ref v, .ref p0] f [(14, 12, 12), (18, 3, 3), (22, 2, 2), (22, 4, 4)] (q_Pv (fun (f1 : Nat → va_E) => True)) := by
  refine q_ofb (by decide +kernel) hN hT (Nat.le_of_ble_eq_true rfl) ?_
  intro p e s m below meth c ls cx hr hlk hB hl
  have hl : lv_has ls 4 [(0, .ref v), (1, .ref p0)] := hl
  have J86 : ∀ (f86 : Nat → va_E) (H : Heap) (locs : List Loc) (hB : q_B g K L (fun q => q ∈ L) [(14, 12, 12), (18, 3, 3), (22, 2, 2), (22, 4, 4)] f f86 s H locs) (ls : Array Slot) (hl : lv_has ls 4 []), W p l e { frames := 1, cells := 0, slots := 0, locals := 21 } s m ([.ref v, .ref p0] : List Value).toArray below meth c H locs 0 0 (MQ below (q_Q g K L [(14, 12, 12), (18, 3, 3), (22, 2, 2), (22, 4, 4)] f (q_Pv (fun (f1 : Nat → va_E) => True))) ([.ref v, .ref p0] : List Value).toArray s 0 0 (fun q => q ∈ L)) (F0 m 86 ls []) := by
    intro f86 H locs hB ls hl
    refine q_vret cx hr hlk hB dX10_miss_86 ?_
    trivial
  obtain ⟨H, hH⟩ : ∃ H : Heap, H = s.heap := ⟨_, rfl⟩
  obtain ⟨locs, hlocs⟩ : ∃ z : List Loc, z = [] := ⟨_, rfl⟩
  rw [← hH, ← hlocs] at hB
  rw [← hH, ← hlocs]
  refine q_ald_n cx dX10_miss_0 rfl (lv_at hl 1 rfl) ?_
  refine lv_dup cx.1 cx.2.1 dX10_miss_1 rfl ?_
  obtain ⟨x40, ex40⟩ : ∃ zz, q_is (q_z f p0 4) zz := ⟨_, q_isr _⟩
  refine q_gX10_128_22 cx hB hp0 kp0 ex40 dX10_miss_2 (fun lb41 ub41 => ?_)
  refine q_iconst cx dX10_miss_5 ?_
  refine q_iadd cx dX10_miss_6 ?_
  refine q_any (fun y42 ry42 ey42 => ?_)
  refine q_pX10_128_22 cx hB hp0 kp0 ⟨by omega, by omega⟩ (by omega) (by omega) rfl dX10_miss_7 (fun H locs f43 ef43 z44 hB => ?_)
  refine q_ald_n cx dX10_miss_10 rfl (lv_at hl 1 rfl) ?_
  refine lv_dup cx.1 cx.2.1 dX10_miss_11 rfl ?_
  obtain ⟨x45, ex45⟩ : ∃ zz, q_is (q_z f43 p0 2) zz := ⟨_, q_isr _⟩
  refine q_gX10_122_22 cx hB hp0 kp0 ex45 dX10_miss_12 (fun lb46 ub46 => ?_)
  refine q_iconst cx dX10_miss_15 ?_
  refine q_iadd cx dX10_miss_16 ?_
  refine q_any (fun y47 ry47 ey47 => ?_)
  refine q_pX10_122_22 cx hB hp0 kp0 ⟨by omega, by omega⟩ (by omega) (by omega) rfl dX10_miss_17 (fun H locs f48 ef48 z49 hB => ?_)
  refine q_ald_n cx dX10_miss_20 rfl (lv_at hl 1 rfl) ?_
  refine q_gX10_122_22 cx hB hp0 kp0 z49 dX10_miss_21 (fun lb50 ub50 => ?_)
  refine q_ald_n cx dX10_miss_24 rfl (lv_at hl 0 rfl) ?_
  obtain ⟨x51, ex51⟩ : ∃ zz, q_is (q_z f48 v 10) zz := ⟨_, q_isr _⟩
  refine q_gX10_57_14 cx hB hv kv ex51 dX10_miss_25 (fun lb52 ub52 => ?_)
  refine q_iclt (tgt := 86) cx ⟨by omega, by omega⟩ ⟨by omega, by omega⟩ dX10_miss_28 (by decide) (fun c53 => ?_) (fun c53 => ?_)
  · exact J86 f48 H locs hB ls (lv_sub hl [] rfl)
  · refine q_ald_n cx dX10_miss_31 rfl (lv_at hl 1 rfl) ?_
    obtain ⟨x54, ex54⟩ : ∃ zz, q_is (q_z f48 p0 0) zz := ⟨_, q_isr _⟩
    refine q_gX10_116_22 cx hB hp0 kp0 ex54 dX10_miss_32 (fun lb55 ub55 => ?_)
    refine q_ald_n cx dX10_miss_35 rfl (lv_at hl 1 rfl) ?_
    obtain ⟨x56, ex56⟩ : ∃ zz, q_is (q_z f48 p0 1) zz := ⟨_, q_isr _⟩
    refine q_gX10_119_22 cx hB hp0 kp0 ex56 dX10_miss_36 (fun lb57 ub57 => ?_)
    refine q_mmin (rest := []) cx hl.1 q_h713 q_h714 q_h157 q_h715 (by decide) (Nat.le_of_ble_eq_true rfl) (by decide) (by decide) ⟨by omega, by omega⟩ ⟨by omega, by omega⟩ dX10_miss_39 (fun y58 ay58 by58 ey58 => ?_)
    refine lv_istore_n (lv' := [(2, .int (q_i y58)), (0, .ref v), (1, .ref p0)]) cx.1 cx.2.1 dX10_miss_42 rfl hl (by decide) rfl (fun ls hl => ?_)
    refine q_ald_n cx dX10_miss_43 rfl (lv_at hl 2 rfl) ?_
    refine q_gX10_116_22 cx hB hp0 kp0 ex54 dX10_miss_44 (fun lb59 ub59 => ?_)
    refine q_ald_n cx dX10_miss_47 rfl (lv_at hl 2 rfl) ?_
    refine q_gX10_119_22 cx hB hp0 kp0 ex56 dX10_miss_48 (fun lb60 ub60 => ?_)
    refine q_mmax (rest := []) cx hl.1 q_h658 q_h659 q_h157 q_h660 (by decide) (Nat.le_of_ble_eq_true rfl) (by decide) (by decide) ⟨by omega, by omega⟩ ⟨by omega, by omega⟩ dX10_miss_51 (fun y61 ay61 by61 ey61 => ?_)
    refine lv_istore_n (lv' := [(3, .int (q_i y61)), (2, .int (q_i y58)), (0, .ref v), (1, .ref p0)]) cx.1 cx.2.1 dX10_miss_54 rfl hl (by decide) rfl (fun ls hl => ?_)
    refine q_ald_n cx dX10_miss_55 rfl (lv_at hl 2 rfl) ?_
    refine q_ild_n cx dX10_miss_56 rfl (lv_at hl 0 rfl) ?_
    refine q_cVr (As := [.int (q_i y61)]) (rest := []) cx hB (fun _ h => h) hN hv kv (by decide) rfl (g_X10_nodeAt_2 l g hN hB.2.1 v hv kv y61 (by omega) (by omega)) q_cX10_66 q_dX10_nodeAt (by decide) rfl rfl hl.1 rfl (Nat.le_of_ble_eq_true rfl) dX10_miss_57 (fun y63 H locs f62 h64 hF hB => ?_)
    obtain ⟨rfl, hy63, ky63⟩ := h64
    refine q_ald_n cx dX10_miss_60 rfl (lv_at hl 2 rfl) ?_
    refine q_ild_n cx dX10_miss_61 rfl (lv_at hl 1 rfl) ?_
    refine q_cVr (As := [.int (q_i y58)]) (rest := [.ref y63]) cx hB (fun _ h => h) hN hv kv (by decide) rfl (g_X10_nodeAt_2 l g hN hB.2.1 v hv kv y58 (by omega) (by omega)) q_cX10_66 q_dX10_nodeAt (by decide) rfl rfl hl.1 rfl (Nat.le_of_ble_eq_true rfl) dX10_miss_62 (fun y66 H locs f65 h67 hF hB => ?_)
    obtain ⟨rfl, hy66, ky66⟩ := h67
    obtain ⟨x68, ex68⟩ : ∃ zz, q_is (q_z f48 y66 3) zz := ⟨_, q_isr _⟩
    refine q_gX10_98_18 cx hB hy66 ky66 ex68 dX10_miss_65 (fun lb69 ub69 => ?_)
    refine q_pX10_98_18 cx hB hy63 ky63 ⟨by omega, by omega⟩ (by omega) (by omega) rfl dX10_miss_68 (fun H locs f70 ef70 z71 hB => ?_)
    refine q_ald_n cx dX10_miss_71 rfl (lv_at hl 3 rfl) ?_
    refine q_iconst cx dX10_miss_72 ?_
    refine q_pX10_122_22 cx hB hp0 kp0 ⟨by decide, by decide⟩ (by decide) (by decide) rfl dX10_miss_73 (fun H locs f72 ef72 z73 hB => ?_)
    refine q_ald_n cx dX10_miss_76 rfl (lv_at hl 2 rfl) ?_
    refine lv_dup cx.1 cx.2.1 dX10_miss_77 rfl ?_
    obtain ⟨x74, ex74⟩ : ∃ zz, q_is (q_z f72 v 12) zz := ⟨_, q_isr _⟩
    refine q_gX10_63_14 cx hB hv kv ex74 dX10_miss_78 (fun lb75 ub75 => ?_)
    refine q_iconst cx dX10_miss_81 ?_
    refine q_iadd cx dX10_miss_82 ?_
    refine q_any (fun y76 ry76 ey76 => ?_)
    refine q_pX10_63_14 cx hB hv kv ⟨by omega, by omega⟩ (by omega) (by omega) rfl dX10_miss_83 (fun H locs f77 ef77 z78 hB => ?_)
    exact J86 f77 H locs hB ls (lv_sub hl [] rfl)
set_option maxHeartbeats 4000000 in
set_option maxRecDepth 100000 in
theorem g_X10_miss_3 (l : Launch) (g : q_G) {K : Nat → Nat} {L : List Nat} (hN : L.Nodup) {f : Nat → va_E} (hT : q_Ty g K L f) (v : Nat) (hv : v ∈ L) (kv : K v = 15) (p0 : Nat) (hp0 : p0 ∈ L) (kp0 : K p0 = 23) : q_Ct l g K L yX10_miss cX10_miss 4 none 1 21 [.ref v, .ref p0] f [(15, 12, 12), (19, 3, 3), (23, 2, 2), (23, 4, 4)] (q_Pv (fun (f1 : Nat → va_E) => True)) := by
  refine q_ofb (by decide +kernel) hN hT (Nat.le_of_ble_eq_true rfl) ?_
  intro p e s m below meth c ls cx hr hlk hB hl
  have hl : lv_has ls 4 [(0, .ref v), (1, .ref p0)] := hl
  have J86 : ∀ (f86 : Nat → va_E) (H : Heap) (locs : List Loc) (hB : q_B g K L (fun q => q ∈ L) [(15, 12, 12), (19, 3, 3), (23, 2, 2), (23, 4, 4)] f f86 s H locs) (ls : Array Slot) (hl : lv_has ls 4 []), W p l e { frames := 1, cells := 0, slots := 0, locals := 21 } s m ([.ref v, .ref p0] : List Value).toArray below meth c H locs 0 0 (MQ below (q_Q g K L [(15, 12, 12), (19, 3, 3), (23, 2, 2), (23, 4, 4)] f (q_Pv (fun (f1 : Nat → va_E) => True))) ([.ref v, .ref p0] : List Value).toArray s 0 0 (fun q => q ∈ L)) (F0 m 86 ls []) := by
    intro f86 H locs hB ls hl
    refine q_vret cx hr hlk hB dX10_miss_86 ?_
    trivial
  obtain ⟨H, hH⟩ : ∃ H : Heap, H = s.heap := ⟨_, rfl⟩
  obtain ⟨locs, hlocs⟩ : ∃ z : List Loc, z = [] := ⟨_, rfl⟩
  rw [← hH, ← hlocs] at hB
  rw [← hH, ← hlocs]
  refine q_ald_n cx dX10_miss_0 rfl (lv_at hl 1 rfl) ?_
  refine lv_dup cx.1 cx.2.1 dX10_miss_1 rfl ?_
  obtain ⟨x40, ex40⟩ : ∃ zz, q_is (q_z f p0 4) zz := ⟨_, q_isr _⟩
  refine q_gX10_128_23 cx hB hp0 kp0 ex40 dX10_miss_2 (fun lb41 ub41 => ?_)
  refine q_iconst cx dX10_miss_5 ?_
  refine q_iadd cx dX10_miss_6 ?_
  refine q_any (fun y42 ry42 ey42 => ?_)
  refine q_pX10_128_23 cx hB hp0 kp0 ⟨by omega, by omega⟩ (by omega) (by omega) rfl dX10_miss_7 (fun H locs f43 ef43 z44 hB => ?_)
  refine q_ald_n cx dX10_miss_10 rfl (lv_at hl 1 rfl) ?_
  refine lv_dup cx.1 cx.2.1 dX10_miss_11 rfl ?_
  obtain ⟨x45, ex45⟩ : ∃ zz, q_is (q_z f43 p0 2) zz := ⟨_, q_isr _⟩
  refine q_gX10_122_23 cx hB hp0 kp0 ex45 dX10_miss_12 (fun lb46 ub46 => ?_)
  refine q_iconst cx dX10_miss_15 ?_
  refine q_iadd cx dX10_miss_16 ?_
  refine q_any (fun y47 ry47 ey47 => ?_)
  refine q_pX10_122_23 cx hB hp0 kp0 ⟨by omega, by omega⟩ (by omega) (by omega) rfl dX10_miss_17 (fun H locs f48 ef48 z49 hB => ?_)
  refine q_ald_n cx dX10_miss_20 rfl (lv_at hl 1 rfl) ?_
  refine q_gX10_122_23 cx hB hp0 kp0 z49 dX10_miss_21 (fun lb50 ub50 => ?_)
  refine q_ald_n cx dX10_miss_24 rfl (lv_at hl 0 rfl) ?_
  obtain ⟨x51, ex51⟩ : ∃ zz, q_is (q_z f48 v 10) zz := ⟨_, q_isr _⟩
  refine q_gX10_57_15 cx hB hv kv ex51 dX10_miss_25 (fun lb52 ub52 => ?_)
  refine q_iclt (tgt := 86) cx ⟨by omega, by omega⟩ ⟨by omega, by omega⟩ dX10_miss_28 (by decide) (fun c53 => ?_) (fun c53 => ?_)
  · exact J86 f48 H locs hB ls (lv_sub hl [] rfl)
  · refine q_ald_n cx dX10_miss_31 rfl (lv_at hl 1 rfl) ?_
    obtain ⟨x54, ex54⟩ : ∃ zz, q_is (q_z f48 p0 0) zz := ⟨_, q_isr _⟩
    refine q_gX10_116_23 cx hB hp0 kp0 ex54 dX10_miss_32 (fun lb55 ub55 => ?_)
    refine q_ald_n cx dX10_miss_35 rfl (lv_at hl 1 rfl) ?_
    obtain ⟨x56, ex56⟩ : ∃ zz, q_is (q_z f48 p0 1) zz := ⟨_, q_isr _⟩
    refine q_gX10_119_23 cx hB hp0 kp0 ex56 dX10_miss_36 (fun lb57 ub57 => ?_)
    refine q_mmin (rest := []) cx hl.1 q_h713 q_h714 q_h157 q_h715 (by decide) (Nat.le_of_ble_eq_true rfl) (by decide) (by decide) ⟨by omega, by omega⟩ ⟨by omega, by omega⟩ dX10_miss_39 (fun y58 ay58 by58 ey58 => ?_)
    refine lv_istore_n (lv' := [(2, .int (q_i y58)), (0, .ref v), (1, .ref p0)]) cx.1 cx.2.1 dX10_miss_42 rfl hl (by decide) rfl (fun ls hl => ?_)
    refine q_ald_n cx dX10_miss_43 rfl (lv_at hl 2 rfl) ?_
    refine q_gX10_116_23 cx hB hp0 kp0 ex54 dX10_miss_44 (fun lb59 ub59 => ?_)
    refine q_ald_n cx dX10_miss_47 rfl (lv_at hl 2 rfl) ?_
    refine q_gX10_119_23 cx hB hp0 kp0 ex56 dX10_miss_48 (fun lb60 ub60 => ?_)
    refine q_mmax (rest := []) cx hl.1 q_h658 q_h659 q_h157 q_h660 (by decide) (Nat.le_of_ble_eq_true rfl) (by decide) (by decide) ⟨by omega, by omega⟩ ⟨by omega, by omega⟩ dX10_miss_51 (fun y61 ay61 by61 ey61 => ?_)
    refine lv_istore_n (lv' := [(3, .int (q_i y61)), (2, .int (q_i y58)), (0, .ref v), (1, .ref p0)]) cx.1 cx.2.1 dX10_miss_54 rfl hl (by decide) rfl (fun ls hl => ?_)
    refine q_ald_n cx dX10_miss_55 rfl (lv_at hl 2 rfl) ?_
    refine q_ild_n cx dX10_miss_56 rfl (lv_at hl 0 rfl) ?_
    refine q_cVr (As := [.int (q_i y61)]) (rest := []) cx hB (fun _ h => h) hN hv kv (by decide) rfl (g_X10_nodeAt_3 l g hN hB.2.1 v hv kv y61 (by omega) (by omega)) q_cX10_66 q_dX10_nodeAt (by decide) rfl rfl hl.1 rfl (Nat.le_of_ble_eq_true rfl) dX10_miss_57 (fun y63 H locs f62 h64 hF hB => ?_)
    obtain ⟨rfl, hy63, ky63⟩ := h64
    refine q_ald_n cx dX10_miss_60 rfl (lv_at hl 2 rfl) ?_
    refine q_ild_n cx dX10_miss_61 rfl (lv_at hl 1 rfl) ?_
    refine q_cVr (As := [.int (q_i y58)]) (rest := [.ref y63]) cx hB (fun _ h => h) hN hv kv (by decide) rfl (g_X10_nodeAt_3 l g hN hB.2.1 v hv kv y58 (by omega) (by omega)) q_cX10_66 q_dX10_nodeAt (by decide) rfl rfl hl.1 rfl (Nat.le_of_ble_eq_true rfl) dX10_miss_62 (fun y66 H locs f65 h67 hF hB => ?_)
    obtain ⟨rfl, hy66, ky66⟩ := h67
    obtain ⟨x68, ex68⟩ : ∃ zz, q_is (q_z f48 y66 3) zz := ⟨_, q_isr _⟩
    refine q_gX10_98_19 cx hB hy66 ky66 ex68 dX10_miss_65 (fun lb69 ub69 => ?_)
    refine q_pX10_98_19 cx hB hy63 ky63 ⟨by omega, by omega⟩ (by omega) (by omega) rfl dX10_miss_68 (fun H locs f70 ef70 z71 hB => ?_)
    refine q_ald_n cx dX10_miss_71 rfl (lv_at hl 3 rfl) ?_
    refine q_iconst cx dX10_miss_72 ?_
    refine q_pX10_122_23 cx hB hp0 kp0 ⟨by decide, by decide⟩ (by decide) (by decide) rfl dX10_miss_73 (fun H locs f72 ef72 z73 hB => ?_)
    refine q_ald_n cx dX10_miss_76 rfl (lv_at hl 2 rfl) ?_
    refine lv_dup cx.1 cx.2.1 dX10_miss_77 rfl ?_
    obtain ⟨x74, ex74⟩ : ∃ zz, q_is (q_z f72 v 12) zz := ⟨_, q_isr _⟩
    refine q_gX10_63_15 cx hB hv kv ex74 dX10_miss_78 (fun lb75 ub75 => ?_)
    refine q_iconst cx dX10_miss_81 ?_
    refine q_iadd cx dX10_miss_82 ?_
    refine q_any (fun y76 ry76 ey76 => ?_)
    refine q_pX10_63_15 cx hB hv kv ⟨by omega, by omega⟩ (by omega) (by omega) rfl dX10_miss_83 (fun H locs f77 ef77 z78 hB => ?_)
    exact J86 f77 H locs hB ls (lv_sub hl [] rfl)
set_option maxHeartbeats 4000000 in
set_option maxRecDepth 100000 in
theorem g_X10_miss_4 (l : Launch) (g : q_G) {K : Nat → Nat} {L : List Nat} (hN : L.Nodup) {f : Nat → va_E} (hT : q_Ty g K L f) (v : Nat) (hv : v ∈ L) (kv : K v = 16) (p0 : Nat) (hp0 : p0 ∈ L) (kp0 : K p0 = 24) : q_Ct l g K L yX10_miss cX10_miss 4 none 1 21 [.ref v, .ref p0] f [(16, 12, 12), (20, 3, 3), (24, 2, 2), (24, 4, 4)] (q_Pv (fun (f1 : Nat → va_E) => True)) := by
  refine q_ofb (by decide +kernel) hN hT (Nat.le_of_ble_eq_true rfl) ?_
  intro p e s m below meth c ls cx hr hlk hB hl
  have hl : lv_has ls 4 [(0, .ref v), (1, .ref p0)] := hl
  have J86 : ∀ (f86 : Nat → va_E) (H : Heap) (locs : List Loc) (hB : q_B g K L (fun q => q ∈ L) [(16, 12, 12), (20, 3, 3), (24, 2, 2), (24, 4, 4)] f f86 s H locs) (ls : Array Slot) (hl : lv_has ls 4 []), W p l e { frames := 1, cells := 0, slots := 0, locals := 21 } s m ([.ref v, .ref p0] : List Value).toArray below meth c H locs 0 0 (MQ below (q_Q g K L [(16, 12, 12), (20, 3, 3), (24, 2, 2), (24, 4, 4)] f (q_Pv (fun (f1 : Nat → va_E) => True))) ([.ref v, .ref p0] : List Value).toArray s 0 0 (fun q => q ∈ L)) (F0 m 86 ls []) := by
    intro f86 H locs hB ls hl
    refine q_vret cx hr hlk hB dX10_miss_86 ?_
    trivial
  obtain ⟨H, hH⟩ : ∃ H : Heap, H = s.heap := ⟨_, rfl⟩
  obtain ⟨locs, hlocs⟩ : ∃ z : List Loc, z = [] := ⟨_, rfl⟩
  rw [← hH, ← hlocs] at hB
  rw [← hH, ← hlocs]
  refine q_ald_n cx dX10_miss_0 rfl (lv_at hl 1 rfl) ?_
  refine lv_dup cx.1 cx.2.1 dX10_miss_1 rfl ?_
  obtain ⟨x40, ex40⟩ : ∃ zz, q_is (q_z f p0 4) zz := ⟨_, q_isr _⟩
  refine q_gX10_128_24 cx hB hp0 kp0 ex40 dX10_miss_2 (fun lb41 ub41 => ?_)
  refine q_iconst cx dX10_miss_5 ?_
  refine q_iadd cx dX10_miss_6 ?_
  refine q_any (fun y42 ry42 ey42 => ?_)
  refine q_pX10_128_24 cx hB hp0 kp0 ⟨by omega, by omega⟩ (by omega) (by omega) rfl dX10_miss_7 (fun H locs f43 ef43 z44 hB => ?_)
  refine q_ald_n cx dX10_miss_10 rfl (lv_at hl 1 rfl) ?_
  refine lv_dup cx.1 cx.2.1 dX10_miss_11 rfl ?_
  obtain ⟨x45, ex45⟩ : ∃ zz, q_is (q_z f43 p0 2) zz := ⟨_, q_isr _⟩
  refine q_gX10_122_24 cx hB hp0 kp0 ex45 dX10_miss_12 (fun lb46 ub46 => ?_)
  refine q_iconst cx dX10_miss_15 ?_
  refine q_iadd cx dX10_miss_16 ?_
  refine q_any (fun y47 ry47 ey47 => ?_)
  refine q_pX10_122_24 cx hB hp0 kp0 ⟨by omega, by omega⟩ (by omega) (by omega) rfl dX10_miss_17 (fun H locs f48 ef48 z49 hB => ?_)
  refine q_ald_n cx dX10_miss_20 rfl (lv_at hl 1 rfl) ?_
  refine q_gX10_122_24 cx hB hp0 kp0 z49 dX10_miss_21 (fun lb50 ub50 => ?_)
  refine q_ald_n cx dX10_miss_24 rfl (lv_at hl 0 rfl) ?_
  obtain ⟨x51, ex51⟩ : ∃ zz, q_is (q_z f48 v 10) zz := ⟨_, q_isr _⟩
  refine q_gX10_57_16 cx hB hv kv ex51 dX10_miss_25 (fun lb52 ub52 => ?_)
  refine q_iclt (tgt := 86) cx ⟨by omega, by omega⟩ ⟨by omega, by omega⟩ dX10_miss_28 (by decide) (fun c53 => ?_) (fun c53 => ?_)
  · exact J86 f48 H locs hB ls (lv_sub hl [] rfl)
  · refine q_ald_n cx dX10_miss_31 rfl (lv_at hl 1 rfl) ?_
    obtain ⟨x54, ex54⟩ : ∃ zz, q_is (q_z f48 p0 0) zz := ⟨_, q_isr _⟩
    refine q_gX10_116_24 cx hB hp0 kp0 ex54 dX10_miss_32 (fun lb55 ub55 => ?_)
    refine q_ald_n cx dX10_miss_35 rfl (lv_at hl 1 rfl) ?_
    obtain ⟨x56, ex56⟩ : ∃ zz, q_is (q_z f48 p0 1) zz := ⟨_, q_isr _⟩
    refine q_gX10_119_24 cx hB hp0 kp0 ex56 dX10_miss_36 (fun lb57 ub57 => ?_)
    refine q_mmin (rest := []) cx hl.1 q_h713 q_h714 q_h157 q_h715 (by decide) (Nat.le_of_ble_eq_true rfl) (by decide) (by decide) ⟨by omega, by omega⟩ ⟨by omega, by omega⟩ dX10_miss_39 (fun y58 ay58 by58 ey58 => ?_)
    refine lv_istore_n (lv' := [(2, .int (q_i y58)), (0, .ref v), (1, .ref p0)]) cx.1 cx.2.1 dX10_miss_42 rfl hl (by decide) rfl (fun ls hl => ?_)
    refine q_ald_n cx dX10_miss_43 rfl (lv_at hl 2 rfl) ?_
    refine q_gX10_116_24 cx hB hp0 kp0 ex54 dX10_miss_44 (fun lb59 ub59 => ?_)
    refine q_ald_n cx dX10_miss_47 rfl (lv_at hl 2 rfl) ?_
    refine q_gX10_119_24 cx hB hp0 kp0 ex56 dX10_miss_48 (fun lb60 ub60 => ?_)
    refine q_mmax (rest := []) cx hl.1 q_h658 q_h659 q_h157 q_h660 (by decide) (Nat.le_of_ble_eq_true rfl) (by decide) (by decide) ⟨by omega, by omega⟩ ⟨by omega, by omega⟩ dX10_miss_51 (fun y61 ay61 by61 ey61 => ?_)
    refine lv_istore_n (lv' := [(3, .int (q_i y61)), (2, .int (q_i y58)), (0, .ref v), (1, .ref p0)]) cx.1 cx.2.1 dX10_miss_54 rfl hl (by decide) rfl (fun ls hl => ?_)
    refine q_ald_n cx dX10_miss_55 rfl (lv_at hl 2 rfl) ?_
    refine q_ild_n cx dX10_miss_56 rfl (lv_at hl 0 rfl) ?_
    refine q_cVr (As := [.int (q_i y61)]) (rest := []) cx hB (fun _ h => h) hN hv kv (by decide) rfl (g_X10_nodeAt_4 l g hN hB.2.1 v hv kv y61 (by omega) (by omega)) q_cX10_66 q_dX10_nodeAt (by decide) rfl rfl hl.1 rfl (Nat.le_of_ble_eq_true rfl) dX10_miss_57 (fun y63 H locs f62 h64 hF hB => ?_)
    obtain ⟨rfl, hy63, ky63⟩ := h64
    refine q_ald_n cx dX10_miss_60 rfl (lv_at hl 2 rfl) ?_
    refine q_ild_n cx dX10_miss_61 rfl (lv_at hl 1 rfl) ?_
    refine q_cVr (As := [.int (q_i y58)]) (rest := [.ref y63]) cx hB (fun _ h => h) hN hv kv (by decide) rfl (g_X10_nodeAt_4 l g hN hB.2.1 v hv kv y58 (by omega) (by omega)) q_cX10_66 q_dX10_nodeAt (by decide) rfl rfl hl.1 rfl (Nat.le_of_ble_eq_true rfl) dX10_miss_62 (fun y66 H locs f65 h67 hF hB => ?_)
    obtain ⟨rfl, hy66, ky66⟩ := h67
    obtain ⟨x68, ex68⟩ : ∃ zz, q_is (q_z f48 y66 3) zz := ⟨_, q_isr _⟩
    refine q_gX10_98_20 cx hB hy66 ky66 ex68 dX10_miss_65 (fun lb69 ub69 => ?_)
    refine q_pX10_98_20 cx hB hy63 ky63 ⟨by omega, by omega⟩ (by omega) (by omega) rfl dX10_miss_68 (fun H locs f70 ef70 z71 hB => ?_)
    refine q_ald_n cx dX10_miss_71 rfl (lv_at hl 3 rfl) ?_
    refine q_iconst cx dX10_miss_72 ?_
    refine q_pX10_122_24 cx hB hp0 kp0 ⟨by decide, by decide⟩ (by decide) (by decide) rfl dX10_miss_73 (fun H locs f72 ef72 z73 hB => ?_)
    refine q_ald_n cx dX10_miss_76 rfl (lv_at hl 2 rfl) ?_
    refine lv_dup cx.1 cx.2.1 dX10_miss_77 rfl ?_
    obtain ⟨x74, ex74⟩ : ∃ zz, q_is (q_z f72 v 12) zz := ⟨_, q_isr _⟩
    refine q_gX10_63_16 cx hB hv kv ex74 dX10_miss_78 (fun lb75 ub75 => ?_)
    refine q_iconst cx dX10_miss_81 ?_
    refine q_iadd cx dX10_miss_82 ?_
    refine q_any (fun y76 ry76 ey76 => ?_)
    refine q_pX10_63_16 cx hB hv kv ⟨by omega, by omega⟩ (by omega) (by omega) rfl dX10_miss_83 (fun H locs f77 ef77 z78 hB => ?_)
    exact J86 f77 H locs hB ls (lv_sub hl [] rfl)
set_option maxHeartbeats 4000000 in
set_option maxRecDepth 100000 in
theorem g_X10_meetOrMiss (l : Launch) (g : q_G) {K : Nat → Nat} {L : List Nat} (hN : L.Nodup) {f : Nat → va_E} (hT : q_Ty g K L f) (v : Nat) (hv : v ∈ L) (kv : K v = 10) (p0 : Nat) (hp0 : p0 ∈ L) (kp0 : K p0 = 3) : q_Ct l g K L yX10_meetOrMiss cX10_meetOrMiss 7 none 2 44 [.ref v, .ref p0] f [(3, 2, 4), (5, 3, 3), (10, 12, 12)] (q_Pv (fun (f1 : Nat → va_E) => True)) := by
  refine q_ofb (by decide +kernel) hN hT (Nat.le_of_ble_eq_true rfl) ?_
  intro p e s m below meth c ls cx hr hlk hB hl
  have hl : lv_has ls 7 [(0, .ref v), (1, .ref p0)] := hl
  have J32 : ∀  (H : Heap) (locs : List Loc) (hB : q_B g K L (fun q => q ∈ L) [(3, 2, 4), (5, 3, 3), (10, 12, 12)] f f s H locs) (ls : Array Slot) (hl : lv_has ls 7 []), W p l e { frames := 2, cells := 0, slots := 0, locals := 44 } s m ([.ref v, .ref p0] : List Value).toArray below meth c H locs 0 0 (MQ below (q_Q g K L [(3, 2, 4), (5, 3, 3), (10, 12, 12)] f (q_Pv (fun (f1 : Nat → va_E) => True))) ([.ref v, .ref p0] : List Value).toArray s 0 0 (fun q => q ∈ L)) (F0 m 32 ls []) := by
    intro  H locs hB ls hl
    refine q_vret cx hr hlk hB dX10_meetOrMiss_32 ?_
    trivial
  have J138 : ∀ (f138 : Nat → va_E) (H : Heap) (locs : List Loc) (hB : q_B g K L (fun q => q ∈ L) [(3, 2, 4), (5, 3, 3), (10, 12, 12)] f f138 s H locs) (ls : Array Slot) (hl : lv_has ls 7 []), W p l e { frames := 2, cells := 0, slots := 0, locals := 44 } s m ([.ref v, .ref p0] : List Value).toArray below meth c H locs 0 0 (MQ below (q_Q g K L [(3, 2, 4), (5, 3, 3), (10, 12, 12)] f (q_Pv (fun (f1 : Nat → va_E) => True))) ([.ref v, .ref p0] : List Value).toArray s 0 0 (fun q => q ∈ L)) (F0 m 138 ls []) := by
    intro f138 H locs hB ls hl
    refine q_vret cx hr hlk hB dX10_meetOrMiss_138 ?_
    trivial
  have J133 : ∀  (H : Heap) (locs : List Loc) (hB : q_B g K L (fun q => q ∈ L) [(3, 2, 4), (5, 3, 3), (10, 12, 12)] f f s H locs) (ls : Array Slot) (hl : lv_has ls 7 [(0, .ref v), (1, .ref p0)]), W p l e { frames := 2, cells := 0, slots := 0, locals := 44 } s m ([.ref v, .ref p0] : List Value).toArray below meth c H locs 0 0 (MQ below (q_Q g K L [(3, 2, 4), (5, 3, 3), (10, 12, 12)] f (q_Pv (fun (f1 : Nat → va_E) => True))) ([.ref v, .ref p0] : List Value).toArray s 0 0 (fun q => q ∈ L)) (F0 m 133 ls []) := by
    intro  H locs hB ls hl
    refine q_ald_n cx dX10_meetOrMiss_133 rfl (lv_at hl 0 rfl) ?_
    refine q_ald_n cx dX10_meetOrMiss_134 rfl (lv_at hl 1 rfl) ?_
    refine q_cVv (As := [.ref p0]) (rest := []) cx hB (fun _ h => h) hN hv kv (by decide) rfl (g_X10_miss l g hN hB.2.1 v hv kv p0 hp0 kp0) q_cX10_268 q_dX10_miss (by decide) rfl rfl hl.1 rfl (Nat.le_of_ble_eq_true rfl) dX10_meetOrMiss_135 (fun H locs f53 h55 hF hB => ?_)
    exact J138 f53 H locs hB ls (lv_sub hl [] rfl)
  have J113 : ∀ (v113_2 : Nat) (hv113_2 : v113_2 ∈ L) (kv113_2 : K v113_2 = 5) (v113_3 : Nat) (hv113_3 : v113_3 ∈ L) (kv113_3 : K v113_3 = 5) (t113_0 : Int) (lt113_0 : (-2147483648) ≤ t113_0) (ut113_0 : t113_0 ≤ 2147483647) (H : Heap) (locs : List Loc) (hB : q_B g K L (fun q => q ∈ L) [(3, 2, 4), (5, 3, 3), (10, 12, 12)] f f s H locs) (ls : Array Slot) (hl : lv_has ls 7 [(0, .ref v), (1, .ref p0), (2, .ref v113_2), (3, .ref v113_3)]), W p l e { frames := 2, cells := 0, slots := 0, locals := 44 } s m ([.ref v, .ref p0] : List Value).toArray below meth c H locs 0 0 (MQ below (q_Q g K L [(3, 2, 4), (5, 3, 3), (10, 12, 12)] f (q_Pv (fun (f1 : Nat → va_E) => True))) ([.ref v, .ref p0] : List Value).toArray s 0 0 (fun q => q ∈ L)) (F0 m 113 ls [.int (q_i t113_0)]) := by
    intro v113_2 hv113_2 kv113_2 v113_3 hv113_3 kv113_3 t113_0 lt113_0 ut113_0 H locs hB ls hl
    refine lv_istore (lv' := [(6, .int (q_i t113_0)), (0, .ref v), (1, .ref p0), (2, .ref v113_2), (3, .ref v113_3)]) cx.1 cx.2.1 dX10_meetOrMiss_113 hl (by decide) rfl (fun ls hl => ?_)
    refine lv_iload cx.1 cx.2.1 dX10_meetOrMiss_115 (lv_at hl 0 rfl) ?_
    refine q_ald_n cx dX10_meetOrMiss_117 rfl (lv_at hl 3 rfl) ?_
    obtain ⟨x56, ex56⟩ : ∃ zz, q_is (q_z f v113_2 2) zz := ⟨_, q_isr _⟩
    refine q_gX10_95 cx hB hv113_2 kv113_2 ex56 dX10_meetOrMiss_118 (fun lb57 ub57 => ?_)
    refine q_iceq (tgt := 133) cx ⟨by omega, by omega⟩ ⟨by omega, by omega⟩ dX10_meetOrMiss_121 (by decide) (fun c58 => ?_) (fun c58 => ?_)
    · exact J133  H locs hB ls (lv_sub hl [1, 2] rfl)
    · refine lv_iload cx.1 cx.2.1 dX10_meetOrMiss_124 (lv_at hl 0 rfl) ?_
      refine q_ald_n cx dX10_meetOrMiss_126 rfl (lv_at hl 4 rfl) ?_
      obtain ⟨x59, ex59⟩ : ∃ zz, q_is (q_z f v113_3 2) zz := ⟨_, q_isr _⟩
      refine q_gX10_95 cx hB hv113_3 kv113_3 ex59 dX10_meetOrMiss_127 (fun lb60 ub60 => ?_)
      refine q_icne (tgt := 138) cx ⟨by omega, by omega⟩ ⟨by omega, by omega⟩ dX10_meetOrMiss_130 (by decide) (fun c61 => ?_) (fun c61 => ?_)
      · exact J138 f H locs hB ls (lv_sub hl [] rfl)
      · exact J133  H locs hB ls (lv_sub hl [1, 2] rfl)
  have J97 : ∀ (v97_2 : Nat) (hv97_2 : v97_2 ∈ L) (kv97_2 : K v97_2 = 5) (v97_3 : Nat) (hv97_3 : v97_3 ∈ L) (kv97_3 : K v97_3 = 5) (v97_4 : Int) (lv97_4 : 0 ≤ v97_4) (uv97_4 : v97_4 ≤ 1) (H : Heap) (locs : List Loc) (hB : q_B g K L (fun q => q ∈ L) [(3, 2, 4), (5, 3, 3), (10, 12, 12)] f f s H locs) (ls : Array Slot) (hl : lv_has ls 7 [(0, .ref v), (1, .ref p0), (2, .ref v97_2), (3, .ref v97_3), (4, .int (q_i v97_4))]), W p l e { frames := 2, cells := 0, slots := 0, locals := 44 } s m ([.ref v, .ref p0] : List Value).toArray below meth c H locs 0 0 (MQ below (q_Q g K L [(3, 2, 4), (5, 3, 3), (10, 12, 12)] f (q_Pv (fun (f1 : Nat → va_E) => True))) ([.ref v, .ref p0] : List Value).toArray s 0 0 (fun q => q ∈ L)) (F0 m 97 ls []) := by
    intro v97_2 hv97_2 kv97_2 v97_3 hv97_3 kv97_3 v97_4 lv97_4 uv97_4 H locs hB ls hl
    refine lv_iload cx.1 cx.2.1 dX10_meetOrMiss_97 (lv_at hl 4 rfl) ?_
    refine q_ifeq (tgt := 109) cx ⟨by omega, by omega⟩ dX10_meetOrMiss_99 (by decide) (fun c62 => ?_) (fun c62 => ?_)
    · refine q_ald_n cx dX10_meetOrMiss_109 rfl (lv_at hl 3 rfl) ?_
      obtain ⟨x63, ex63⟩ : ∃ zz, q_is (q_z f v97_3 9) zz := ⟨_, q_isr _⟩
      refine q_gX10_265 cx hB hv97_3 kv97_3 ex63 dX10_meetOrMiss_110 (fun lb64 ub64 => ?_)
      exact J113 v97_2 hv97_2 kv97_2 v97_3 hv97_3 kv97_3 x63 (by omega) (by omega) H locs hB ls (lv_sub hl [0, 1, 2, 3] rfl)
    · refine q_ald_n cx dX10_meetOrMiss_102 rfl (lv_at hl 2 rfl) ?_
      obtain ⟨x65, ex65⟩ : ∃ zz, q_is (q_z f v97_2 9) zz := ⟨_, q_isr _⟩
      refine q_gX10_265 cx hB hv97_2 kv97_2 ex65 dX10_meetOrMiss_103 (fun lb66 ub66 => ?_)
      refine lv_goto (tgt := 113) cx.1 cx.2.1 dX10_meetOrMiss_106 (by decide) ?_
      exact J113 v97_2 hv97_2 kv97_2 v97_3 hv97_3 kv97_3 x65 (by omega) (by omega) H locs hB ls (lv_sub hl [0, 1, 2, 3] rfl)
  have J87 : ∀ (v87_2 : Nat) (hv87_2 : v87_2 ∈ L) (kv87_2 : K v87_2 = 5) (v87_3 : Nat) (hv87_3 : v87_3 ∈ L) (kv87_3 : K v87_3 = 5) (v87_4 : Int) (lv87_4 : 0 ≤ v87_4) (uv87_4 : v87_4 ≤ 1) (v87_5 : Int) (lv87_5 : 0 ≤ v87_5) (uv87_5 : v87_5 ≤ 1) (H : Heap) (locs : List Loc) (hB : q_B g K L (fun q => q ∈ L) [(3, 2, 4), (5, 3, 3), (10, 12, 12)] f f s H locs) (ls : Array Slot) (hl : lv_has ls 7 [(0, .ref v), (1, .ref p0), (2, .ref v87_2), (3, .ref v87_3), (4, .int (q_i v87_4)), (5, .int (q_i v87_5))]), W p l e { frames := 2, cells := 0, slots := 0, locals := 44 } s m ([.ref v, .ref p0] : List Value).toArray below meth c H locs 0 0 (MQ below (q_Q g K L [(3, 2, 4), (5, 3, 3), (10, 12, 12)] f (q_Pv (fun (f1 : Nat → va_E) => True))) ([.ref v, .ref p0] : List Value).toArray s 0 0 (fun q => q ∈ L)) (F0 m 87 ls []) := by
    intro v87_2 hv87_2 kv87_2 v87_3 hv87_3 kv87_3 v87_4 lv87_4 uv87_4 v87_5 lv87_5 uv87_5 H locs hB ls hl
    refine lv_iload cx.1 cx.2.1 dX10_meetOrMiss_87 (lv_at hl 4 rfl) ?_
    refine q_ifne (tgt := 97) cx ⟨by omega, by omega⟩ dX10_meetOrMiss_89 (by decide) (fun c67 => ?_) (fun c67 => ?_)
    · exact J97 v87_2 hv87_2 kv87_2 v87_3 hv87_3 kv87_3 v87_4 (by omega) (by omega) H locs hB ls (lv_sub hl [0, 1, 2, 3, 4] rfl)
    · refine lv_iload cx.1 cx.2.1 dX10_meetOrMiss_92 (lv_at hl 5 rfl) ?_
      refine q_ifeq (tgt := 138) cx ⟨by omega, by omega⟩ dX10_meetOrMiss_94 (by decide) (fun c68 => ?_) (fun c68 => ?_)
      · exact J138 f H locs hB ls (lv_sub hl [] rfl)
      · exact J97 v87_2 hv87_2 kv87_2 v87_3 hv87_3 kv87_3 v87_4 (by omega) (by omega) H locs hB ls (lv_sub hl [0, 1, 2, 3, 4] rfl)
  obtain ⟨H, hH⟩ : ∃ H : Heap, H = s.heap := ⟨_, rfl⟩
  obtain ⟨locs, hlocs⟩ : ∃ z : List Loc, z = [] := ⟨_, rfl⟩
  rw [← hH, ← hlocs] at hB
  rw [← hH, ← hlocs]
  refine q_ald_n cx dX10_meetOrMiss_0 rfl (lv_at hl 0 rfl) ?_
  refine q_ald_n cx dX10_meetOrMiss_1 rfl (lv_at hl 1 rfl) ?_
  obtain ⟨x69, ex69⟩ : ∃ zz, q_is (q_z f p0 0) zz := ⟨_, q_isr _⟩
  refine q_gX10_116 cx hB hp0 kp0 ex69 dX10_meetOrMiss_2 (fun lb70 ub70 => ?_)
  refine q_cVr (As := [.int (q_i x69)]) (rest := []) cx hB (fun _ h => h) hN hv kv (by decide) rfl (g_X10_nodeAt l g hN hB.2.1 v hv kv x69 (by omega) (by omega)) q_cX10_66 q_dX10_nodeAt (by decide) rfl rfl hl.1 rfl (Nat.le_of_ble_eq_true rfl) dX10_meetOrMiss_5 (fun y72 H locs f71 h73 hF hB => ?_)
  obtain ⟨rfl, hy72, ky72⟩ := h73
  refine lv_astore_n (lv' := [(2, .ref y72), (0, .ref v), (1, .ref p0)]) cx.1 cx.2.1 dX10_meetOrMiss_8 rfl hl (by decide) rfl (fun ls hl => ?_)
  refine q_ald_n cx dX10_meetOrMiss_9 rfl (lv_at hl 1 rfl) ?_
  refine q_ald_n cx dX10_meetOrMiss_10 rfl (lv_at hl 2 rfl) ?_
  obtain ⟨x74, ex74⟩ : ∃ zz, q_is (q_z f p0 1) zz := ⟨_, q_isr _⟩
  refine q_gX10_119 cx hB hp0 kp0 ex74 dX10_meetOrMiss_11 (fun lb75 ub75 => ?_)
  refine q_cVr (As := [.int (q_i x74)]) (rest := []) cx hB (fun _ h => h) hN hv kv (by decide) rfl (g_X10_nodeAt l g hN hB.2.1 v hv kv x74 (by omega) (by omega)) q_cX10_66 q_dX10_nodeAt (by decide) rfl rfl hl.1 rfl (Nat.le_of_ble_eq_true rfl) dX10_meetOrMiss_14 (fun y77 H locs f76 h78 hF hB => ?_)
  obtain ⟨rfl, hy77, ky77⟩ := h78
  refine lv_astore_n (lv' := [(3, .ref y77), (2, .ref y72), (0, .ref v), (1, .ref p0)]) cx.1 cx.2.1 dX10_meetOrMiss_17 rfl hl (by decide) rfl (fun ls hl => ?_)
  refine q_ald_n cx dX10_meetOrMiss_18 rfl (lv_at hl 1 rfl) ?_
  obtain ⟨x79, ex79⟩ : ∃ zz, q_is (q_z f y72 4) zz := ⟨_, q_isr _⟩
  refine q_gX10_101 cx hB hy72 ky72 ex79 dX10_meetOrMiss_19 (fun lb80 ub80 => ?_)
  refine q_ifeq (tgt := 32) cx ⟨by omega, by omega⟩ dX10_meetOrMiss_22 (by decide) (fun c81 => ?_) (fun c81 => ?_)
  · exact J32  H locs hB ls (lv_sub hl [] rfl)
  · refine q_ald_n cx dX10_meetOrMiss_25 rfl (lv_at hl 0 rfl) ?_
    obtain ⟨x82, ex82⟩ : ∃ zz, q_is (q_z f y77 4) zz := ⟨_, q_isr _⟩
    refine q_gX10_101 cx hB hy77 ky77 ex82 dX10_meetOrMiss_26 (fun lb83 ub83 => ?_)
    refine q_ifne (tgt := 33) cx ⟨by omega, by omega⟩ dX10_meetOrMiss_29 (by decide) (fun c84 => ?_) (fun c84 => ?_)
    · refine q_ald_n cx dX10_meetOrMiss_33 rfl (lv_at hl 2 rfl) ?_
      obtain ⟨x85, ex85⟩ : ∃ zz, q_is (q_z f v 13) zz := ⟨_, q_isr _⟩
      refine q_gX10_262 cx hB hv kv ex85 dX10_meetOrMiss_34 (fun lb86 ub86 => ?_)
      refine q_ald_n cx dX10_meetOrMiss_37 rfl (lv_at hl 3 rfl) ?_
      refine q_gX10_116 cx hB hp0 kp0 ex69 dX10_meetOrMiss_38 (fun lb87 ub87 => ?_)
      refine q_cSi (As := [.int (q_i x85), .int (q_i x69)]) (rest := []) cx hB (fun _ h => h) hN (g_X10_has l g hN hB.2.1 x85 (by omega) (by omega) x69 (by omega) (by omega)) q_cX10_181 q_dX10_has (by decide) rfl rfl hl.1 rfl (Nat.le_of_ble_eq_true rfl) dX10_meetOrMiss_41 (fun y89 H locs f88 ry89 h90 hF hB => ?_)
      obtain ⟨rfl, ly89, uy89⟩ := h90
      refine lv_istore (lv' := [(4, .int (q_i y89)), (3, .ref y77), (2, .ref y72), (0, .ref v), (1, .ref p0)]) cx.1 cx.2.1 dX10_meetOrMiss_44 hl (by decide) rfl (fun ls hl => ?_)
      refine q_ald_n cx dX10_meetOrMiss_46 rfl (lv_at hl 3 rfl) ?_
      refine q_gX10_262 cx hB hv kv ex85 dX10_meetOrMiss_47 (fun lb91 ub91 => ?_)
      refine q_ald_n cx dX10_meetOrMiss_50 rfl (lv_at hl 4 rfl) ?_
      refine q_gX10_119 cx hB hp0 kp0 ex74 dX10_meetOrMiss_51 (fun lb92 ub92 => ?_)
      refine q_cSi (As := [.int (q_i x85), .int (q_i x74)]) (rest := []) cx hB (fun _ h => h) hN (g_X10_has l g hN hB.2.1 x85 (by omega) (by omega) x74 (by omega) (by omega)) q_cX10_181 q_dX10_has (by decide) rfl rfl hl.1 rfl (Nat.le_of_ble_eq_true rfl) dX10_meetOrMiss_54 (fun y94 H locs f93 ry94 h95 hF hB => ?_)
      obtain ⟨rfl, ly94, uy94⟩ := h95
      refine lv_istore (lv' := [(5, .int (q_i y94)), (4, .int (q_i y89)), (3, .ref y77), (2, .ref y72), (0, .ref v), (1, .ref p0)]) cx.1 cx.2.1 dX10_meetOrMiss_57 hl (by decide) rfl (fun ls hl => ?_)
      refine lv_iload cx.1 cx.2.1 dX10_meetOrMiss_59 (lv_at hl 1 rfl) ?_
      refine q_ifeq (tgt := 87) cx ⟨by omega, by omega⟩ dX10_meetOrMiss_61 (by decide) (fun c96 => ?_) (fun c96 => ?_)
      · exact J87 y72 hy72 ky72 y77 hy77 ky77 y89 (by omega) (by omega) y94 (by omega) (by omega) H locs hB ls (lv_sub hl [4, 5, 3, 2, 1, 0] rfl)
      · refine lv_iload cx.1 cx.2.1 dX10_meetOrMiss_64 (lv_at hl 0 rfl) ?_
        refine q_ifeq (tgt := 87) cx ⟨by omega, by omega⟩ dX10_meetOrMiss_66 (by decide) (fun c97 => ?_) (fun c97 => ?_)
        · exact J87 y72 hy72 ky72 y77 hy77 ky77 y89 (by omega) (by omega) y94 (by omega) (by omega) H locs hB ls (lv_sub hl [4, 5, 3, 2, 1, 0] rfl)
        · refine q_ald_n cx dX10_meetOrMiss_69 rfl (lv_at hl 5 rfl) ?_
          refine lv_dup cx.1 cx.2.1 dX10_meetOrMiss_70 rfl ?_
          obtain ⟨x98, ex98⟩ : ∃ zz, q_is (q_z f p0 3) zz := ⟨_, q_isr _⟩
          refine q_gX10_125 cx hB hp0 kp0 ex98 dX10_meetOrMiss_71 (fun lb99 ub99 => ?_)
          refine q_iconst cx dX10_meetOrMiss_74 ?_
          refine q_iadd cx dX10_meetOrMiss_75 ?_
          refine q_any (fun y100 ry100 ey100 => ?_)
          refine q_pX10_125 cx hB hp0 kp0 ⟨by omega, by omega⟩ (by omega) (by omega) rfl dX10_meetOrMiss_76 (fun H locs f101 ef101 z102 hB => ?_)
          refine q_ald_n cx dX10_meetOrMiss_79 rfl (lv_at hl 5 rfl) ?_
          refine q_iconst cx dX10_meetOrMiss_80 ?_
          refine q_pX10_122 cx hB hp0 kp0 ⟨by decide, by decide⟩ (by decide) (by decide) rfl dX10_meetOrMiss_81 (fun H locs f103 ef103 z104 hB => ?_)
          refine lv_goto (tgt := 138) cx.1 cx.2.1 dX10_meetOrMiss_84 (by decide) ?_
          exact J138 f103 H locs hB ls (lv_sub hl [] rfl)
    · exact J32  H locs hB ls (lv_sub hl [] rfl)
set_option maxHeartbeats 4000000 in
set_option maxRecDepth 100000 in
theorem g_X10_meetOrMiss_1 (l : Launch) (g : q_G) {K : Nat → Nat} {L : List Nat} (hN : L.Nodup) {f : Nat → va_E} (hT : q_Ty g K L f) (v : Nat) (hv : v ∈ L) (kv : K v = 13) (p0 : Nat) (hp0 : p0 ∈ L) (kp0 : K p0 = 21) : q_Ct l g K L yX10_meetOrMiss cX10_meetOrMiss 7 none 2 44 [.ref v, .ref p0] f [(13, 12, 12), (17, 3, 3), (21, 2, 4)] (q_Pv (fun (f1 : Nat → va_E) => True)) := by
  refine q_ofb (by decide +kernel) hN hT (Nat.le_of_ble_eq_true rfl) ?_
  intro p e s m below meth c ls cx hr hlk hB hl
  have hl : lv_has ls 7 [(0, .ref v), (1, .ref p0)] := hl
  have J32 : ∀  (H : Heap) (locs : List Loc) (hB : q_B g K L (fun q => q ∈ L) [(13, 12, 12), (17, 3, 3), (21, 2, 4)] f f s H locs) (ls : Array Slot) (hl : lv_has ls 7 []), W p l e { frames := 2, cells := 0, slots := 0, locals := 44 } s m ([.ref v, .ref p0] : List Value).toArray below meth c H locs 0 0 (MQ below (q_Q g K L [(13, 12, 12), (17, 3, 3), (21, 2, 4)] f (q_Pv (fun (f1 : Nat → va_E) => True))) ([.ref v, .ref p0] : List Value).toArray s 0 0 (fun q => q ∈ L)) (F0 m 32 ls []) := by
    intro  H locs hB ls hl
    refine q_vret cx hr hlk hB dX10_meetOrMiss_32 ?_
    trivial
  have J138 : ∀ (f138 : Nat → va_E) (H : Heap) (locs : List Loc) (hB : q_B g K L (fun q => q ∈ L) [(13, 12, 12), (17, 3, 3), (21, 2, 4)] f f138 s H locs) (ls : Array Slot) (hl : lv_has ls 7 []), W p l e { frames := 2, cells := 0, slots := 0, locals := 44 } s m ([.ref v, .ref p0] : List Value).toArray below meth c H locs 0 0 (MQ below (q_Q g K L [(13, 12, 12), (17, 3, 3), (21, 2, 4)] f (q_Pv (fun (f1 : Nat → va_E) => True))) ([.ref v, .ref p0] : List Value).toArray s 0 0 (fun q => q ∈ L)) (F0 m 138 ls []) := by
    intro f138 H locs hB ls hl
    refine q_vret cx hr hlk hB dX10_meetOrMiss_138 ?_
    trivial
  have J133 : ∀  (H : Heap) (locs : List Loc) (hB : q_B g K L (fun q => q ∈ L) [(13, 12, 12), (17, 3, 3), (21, 2, 4)] f f s H locs) (ls : Array Slot) (hl : lv_has ls 7 [(0, .ref v), (1, .ref p0)]), W p l e { frames := 2, cells := 0, slots := 0, locals := 44 } s m ([.ref v, .ref p0] : List Value).toArray below meth c H locs 0 0 (MQ below (q_Q g K L [(13, 12, 12), (17, 3, 3), (21, 2, 4)] f (q_Pv (fun (f1 : Nat → va_E) => True))) ([.ref v, .ref p0] : List Value).toArray s 0 0 (fun q => q ∈ L)) (F0 m 133 ls []) := by
    intro  H locs hB ls hl
    refine q_ald_n cx dX10_meetOrMiss_133 rfl (lv_at hl 0 rfl) ?_
    refine q_ald_n cx dX10_meetOrMiss_134 rfl (lv_at hl 1 rfl) ?_
    refine q_cVv (As := [.ref p0]) (rest := []) cx hB (fun _ h => h) hN hv kv (by decide) rfl (g_X10_miss_1 l g hN hB.2.1 v hv kv p0 hp0 kp0) q_cX10_268 q_dX10_miss (by decide) rfl rfl hl.1 rfl (Nat.le_of_ble_eq_true rfl) dX10_meetOrMiss_135 (fun H locs f53 h55 hF hB => ?_)
    exact J138 f53 H locs hB ls (lv_sub hl [] rfl)
  have J113 : ∀ (v113_2 : Nat) (hv113_2 : v113_2 ∈ L) (kv113_2 : K v113_2 = 17) (v113_3 : Nat) (hv113_3 : v113_3 ∈ L) (kv113_3 : K v113_3 = 17) (t113_0 : Int) (lt113_0 : (-2147483648) ≤ t113_0) (ut113_0 : t113_0 ≤ 2147483647) (H : Heap) (locs : List Loc) (hB : q_B g K L (fun q => q ∈ L) [(13, 12, 12), (17, 3, 3), (21, 2, 4)] f f s H locs) (ls : Array Slot) (hl : lv_has ls 7 [(0, .ref v), (1, .ref p0), (2, .ref v113_2), (3, .ref v113_3)]), W p l e { frames := 2, cells := 0, slots := 0, locals := 44 } s m ([.ref v, .ref p0] : List Value).toArray below meth c H locs 0 0 (MQ below (q_Q g K L [(13, 12, 12), (17, 3, 3), (21, 2, 4)] f (q_Pv (fun (f1 : Nat → va_E) => True))) ([.ref v, .ref p0] : List Value).toArray s 0 0 (fun q => q ∈ L)) (F0 m 113 ls [.int (q_i t113_0)]) := by
    intro v113_2 hv113_2 kv113_2 v113_3 hv113_3 kv113_3 t113_0 lt113_0 ut113_0 H locs hB ls hl
    refine lv_istore (lv' := [(6, .int (q_i t113_0)), (0, .ref v), (1, .ref p0), (2, .ref v113_2), (3, .ref v113_3)]) cx.1 cx.2.1 dX10_meetOrMiss_113 hl (by decide) rfl (fun ls hl => ?_)
    refine lv_iload cx.1 cx.2.1 dX10_meetOrMiss_115 (lv_at hl 0 rfl) ?_
    refine q_ald_n cx dX10_meetOrMiss_117 rfl (lv_at hl 3 rfl) ?_
    obtain ⟨x56, ex56⟩ : ∃ zz, q_is (q_z f v113_2 2) zz := ⟨_, q_isr _⟩
    refine q_gX10_95_17 cx hB hv113_2 kv113_2 ex56 dX10_meetOrMiss_118 (fun lb57 ub57 => ?_)
    refine q_iceq (tgt := 133) cx ⟨by omega, by omega⟩ ⟨by omega, by omega⟩ dX10_meetOrMiss_121 (by decide) (fun c58 => ?_) (fun c58 => ?_)
    · exact J133  H locs hB ls (lv_sub hl [1, 2] rfl)
    · refine lv_iload cx.1 cx.2.1 dX10_meetOrMiss_124 (lv_at hl 0 rfl) ?_
      refine q_ald_n cx dX10_meetOrMiss_126 rfl (lv_at hl 4 rfl) ?_
      obtain ⟨x59, ex59⟩ : ∃ zz, q_is (q_z f v113_3 2) zz := ⟨_, q_isr _⟩
      refine q_gX10_95_17 cx hB hv113_3 kv113_3 ex59 dX10_meetOrMiss_127 (fun lb60 ub60 => ?_)
      refine q_icne (tgt := 138) cx ⟨by omega, by omega⟩ ⟨by omega, by omega⟩ dX10_meetOrMiss_130 (by decide) (fun c61 => ?_) (fun c61 => ?_)
      · exact J138 f H locs hB ls (lv_sub hl [] rfl)
      · exact J133  H locs hB ls (lv_sub hl [1, 2] rfl)
  have J97 : ∀ (v97_2 : Nat) (hv97_2 : v97_2 ∈ L) (kv97_2 : K v97_2 = 17) (v97_3 : Nat) (hv97_3 : v97_3 ∈ L) (kv97_3 : K v97_3 = 17) (v97_4 : Int) (lv97_4 : 0 ≤ v97_4) (uv97_4 : v97_4 ≤ 1) (H : Heap) (locs : List Loc) (hB : q_B g K L (fun q => q ∈ L) [(13, 12, 12), (17, 3, 3), (21, 2, 4)] f f s H locs) (ls : Array Slot) (hl : lv_has ls 7 [(0, .ref v), (1, .ref p0), (2, .ref v97_2), (3, .ref v97_3), (4, .int (q_i v97_4))]), W p l e { frames := 2, cells := 0, slots := 0, locals := 44 } s m ([.ref v, .ref p0] : List Value).toArray below meth c H locs 0 0 (MQ below (q_Q g K L [(13, 12, 12), (17, 3, 3), (21, 2, 4)] f (q_Pv (fun (f1 : Nat → va_E) => True))) ([.ref v, .ref p0] : List Value).toArray s 0 0 (fun q => q ∈ L)) (F0 m 97 ls []) := by
    intro v97_2 hv97_2 kv97_2 v97_3 hv97_3 kv97_3 v97_4 lv97_4 uv97_4 H locs hB ls hl
    refine lv_iload cx.1 cx.2.1 dX10_meetOrMiss_97 (lv_at hl 4 rfl) ?_
    refine q_ifeq (tgt := 109) cx ⟨by omega, by omega⟩ dX10_meetOrMiss_99 (by decide) (fun c62 => ?_) (fun c62 => ?_)
    · refine q_ald_n cx dX10_meetOrMiss_109 rfl (lv_at hl 3 rfl) ?_
      obtain ⟨x63, ex63⟩ : ∃ zz, q_is (q_z f v97_3 9) zz := ⟨_, q_isr _⟩
      refine q_gX10_265_17 cx hB hv97_3 kv97_3 ex63 dX10_meetOrMiss_110 (fun lb64 ub64 => ?_)
      exact J113 v97_2 hv97_2 kv97_2 v97_3 hv97_3 kv97_3 x63 (by omega) (by omega) H locs hB ls (lv_sub hl [0, 1, 2, 3] rfl)
    · refine q_ald_n cx dX10_meetOrMiss_102 rfl (lv_at hl 2 rfl) ?_
      obtain ⟨x65, ex65⟩ : ∃ zz, q_is (q_z f v97_2 9) zz := ⟨_, q_isr _⟩
      refine q_gX10_265_17 cx hB hv97_2 kv97_2 ex65 dX10_meetOrMiss_103 (fun lb66 ub66 => ?_)
      refine lv_goto (tgt := 113) cx.1 cx.2.1 dX10_meetOrMiss_106 (by decide) ?_
      exact J113 v97_2 hv97_2 kv97_2 v97_3 hv97_3 kv97_3 x65 (by omega) (by omega) H locs hB ls (lv_sub hl [0, 1, 2, 3] rfl)
  have J87 : ∀ (v87_2 : Nat) (hv87_2 : v87_2 ∈ L) (kv87_2 : K v87_2 = 17) (v87_3 : Nat) (hv87_3 : v87_3 ∈ L) (kv87_3 : K v87_3 = 17) (v87_4 : Int) (lv87_4 : 0 ≤ v87_4) (uv87_4 : v87_4 ≤ 1) (v87_5 : Int) (lv87_5 : 0 ≤ v87_5) (uv87_5 : v87_5 ≤ 1) (H : Heap) (locs : List Loc) (hB : q_B g K L (fun q => q ∈ L) [(13, 12, 12), (17, 3, 3), (21, 2, 4)] f f s H locs) (ls : Array Slot) (hl : lv_has ls 7 [(0, .ref v), (1, .ref p0), (2, .ref v87_2), (3, .ref v87_3), (4, .int (q_i v87_4)), (5, .int (q_i v87_5))]), W p l e { frames := 2, cells := 0, slots := 0, locals := 44 } s m ([.ref v, .ref p0] : List Value).toArray below meth c H locs 0 0 (MQ below (q_Q g K L [(13, 12, 12), (17, 3, 3), (21, 2, 4)] f (q_Pv (fun (f1 : Nat → va_E) => True))) ([.ref v, .ref p0] : List Value).toArray s 0 0 (fun q => q ∈ L)) (F0 m 87 ls []) := by
    intro v87_2 hv87_2 kv87_2 v87_3 hv87_3 kv87_3 v87_4 lv87_4 uv87_4 v87_5 lv87_5 uv87_5 H locs hB ls hl
    refine lv_iload cx.1 cx.2.1 dX10_meetOrMiss_87 (lv_at hl 4 rfl) ?_
    refine q_ifne (tgt := 97) cx ⟨by omega, by omega⟩ dX10_meetOrMiss_89 (by decide) (fun c67 => ?_) (fun c67 => ?_)
    · exact J97 v87_2 hv87_2 kv87_2 v87_3 hv87_3 kv87_3 v87_4 (by omega) (by omega) H locs hB ls (lv_sub hl [0, 1, 2, 3, 4] rfl)
    · refine lv_iload cx.1 cx.2.1 dX10_meetOrMiss_92 (lv_at hl 5 rfl) ?_
      refine q_ifeq (tgt := 138) cx ⟨by omega, by omega⟩ dX10_meetOrMiss_94 (by decide) (fun c68 => ?_) (fun c68 => ?_)
      · exact J138 f H locs hB ls (lv_sub hl [] rfl)
      · exact J97 v87_2 hv87_2 kv87_2 v87_3 hv87_3 kv87_3 v87_4 (by omega) (by omega) H locs hB ls (lv_sub hl [0, 1, 2, 3, 4] rfl)
  obtain ⟨H, hH⟩ : ∃ H : Heap, H = s.heap := ⟨_, rfl⟩
  obtain ⟨locs, hlocs⟩ : ∃ z : List Loc, z = [] := ⟨_, rfl⟩
  rw [← hH, ← hlocs] at hB
  rw [← hH, ← hlocs]
  refine q_ald_n cx dX10_meetOrMiss_0 rfl (lv_at hl 0 rfl) ?_
  refine q_ald_n cx dX10_meetOrMiss_1 rfl (lv_at hl 1 rfl) ?_
  obtain ⟨x69, ex69⟩ : ∃ zz, q_is (q_z f p0 0) zz := ⟨_, q_isr _⟩
  refine q_gX10_116_21 cx hB hp0 kp0 ex69 dX10_meetOrMiss_2 (fun lb70 ub70 => ?_)
  refine q_cVr (As := [.int (q_i x69)]) (rest := []) cx hB (fun _ h => h) hN hv kv (by decide) rfl (g_X10_nodeAt_1 l g hN hB.2.1 v hv kv x69 (by omega) (by omega)) q_cX10_66 q_dX10_nodeAt (by decide) rfl rfl hl.1 rfl (Nat.le_of_ble_eq_true rfl) dX10_meetOrMiss_5 (fun y72 H locs f71 h73 hF hB => ?_)
  obtain ⟨rfl, hy72, ky72⟩ := h73
  refine lv_astore_n (lv' := [(2, .ref y72), (0, .ref v), (1, .ref p0)]) cx.1 cx.2.1 dX10_meetOrMiss_8 rfl hl (by decide) rfl (fun ls hl => ?_)
  refine q_ald_n cx dX10_meetOrMiss_9 rfl (lv_at hl 1 rfl) ?_
  refine q_ald_n cx dX10_meetOrMiss_10 rfl (lv_at hl 2 rfl) ?_
  obtain ⟨x74, ex74⟩ : ∃ zz, q_is (q_z f p0 1) zz := ⟨_, q_isr _⟩
  refine q_gX10_119_21 cx hB hp0 kp0 ex74 dX10_meetOrMiss_11 (fun lb75 ub75 => ?_)
  refine q_cVr (As := [.int (q_i x74)]) (rest := []) cx hB (fun _ h => h) hN hv kv (by decide) rfl (g_X10_nodeAt_1 l g hN hB.2.1 v hv kv x74 (by omega) (by omega)) q_cX10_66 q_dX10_nodeAt (by decide) rfl rfl hl.1 rfl (Nat.le_of_ble_eq_true rfl) dX10_meetOrMiss_14 (fun y77 H locs f76 h78 hF hB => ?_)
  obtain ⟨rfl, hy77, ky77⟩ := h78
  refine lv_astore_n (lv' := [(3, .ref y77), (2, .ref y72), (0, .ref v), (1, .ref p0)]) cx.1 cx.2.1 dX10_meetOrMiss_17 rfl hl (by decide) rfl (fun ls hl => ?_)
  refine q_ald_n cx dX10_meetOrMiss_18 rfl (lv_at hl 1 rfl) ?_
  obtain ⟨x79, ex79⟩ : ∃ zz, q_is (q_z f y72 4) zz := ⟨_, q_isr _⟩
  refine q_gX10_101_17 cx hB hy72 ky72 ex79 dX10_meetOrMiss_19 (fun lb80 ub80 => ?_)
  refine q_ifeq (tgt := 32) cx ⟨by omega, by omega⟩ dX10_meetOrMiss_22 (by decide) (fun c81 => ?_) (fun c81 => ?_)
  · exact J32  H locs hB ls (lv_sub hl [] rfl)
  · refine q_ald_n cx dX10_meetOrMiss_25 rfl (lv_at hl 0 rfl) ?_
    obtain ⟨x82, ex82⟩ : ∃ zz, q_is (q_z f y77 4) zz := ⟨_, q_isr _⟩
    refine q_gX10_101_17 cx hB hy77 ky77 ex82 dX10_meetOrMiss_26 (fun lb83 ub83 => ?_)
    refine q_ifne (tgt := 33) cx ⟨by omega, by omega⟩ dX10_meetOrMiss_29 (by decide) (fun c84 => ?_) (fun c84 => ?_)
    · refine q_ald_n cx dX10_meetOrMiss_33 rfl (lv_at hl 2 rfl) ?_
      obtain ⟨x85, ex85⟩ : ∃ zz, q_is (q_z f v 13) zz := ⟨_, q_isr _⟩
      refine q_gX10_262_13 cx hB hv kv ex85 dX10_meetOrMiss_34 (fun lb86 ub86 => ?_)
      refine q_ald_n cx dX10_meetOrMiss_37 rfl (lv_at hl 3 rfl) ?_
      refine q_gX10_116_21 cx hB hp0 kp0 ex69 dX10_meetOrMiss_38 (fun lb87 ub87 => ?_)
      refine q_cSi (As := [.int (q_i x85), .int (q_i x69)]) (rest := []) cx hB (fun _ h => h) hN (g_X10_has l g hN hB.2.1 x85 (by omega) (by omega) x69 (by omega) (by omega)) q_cX10_181 q_dX10_has (by decide) rfl rfl hl.1 rfl (Nat.le_of_ble_eq_true rfl) dX10_meetOrMiss_41 (fun y89 H locs f88 ry89 h90 hF hB => ?_)
      obtain ⟨rfl, ly89, uy89⟩ := h90
      refine lv_istore (lv' := [(4, .int (q_i y89)), (3, .ref y77), (2, .ref y72), (0, .ref v), (1, .ref p0)]) cx.1 cx.2.1 dX10_meetOrMiss_44 hl (by decide) rfl (fun ls hl => ?_)
      refine q_ald_n cx dX10_meetOrMiss_46 rfl (lv_at hl 3 rfl) ?_
      refine q_gX10_262_13 cx hB hv kv ex85 dX10_meetOrMiss_47 (fun lb91 ub91 => ?_)
      refine q_ald_n cx dX10_meetOrMiss_50 rfl (lv_at hl 4 rfl) ?_
      refine q_gX10_119_21 cx hB hp0 kp0 ex74 dX10_meetOrMiss_51 (fun lb92 ub92 => ?_)
      refine q_cSi (As := [.int (q_i x85), .int (q_i x74)]) (rest := []) cx hB (fun _ h => h) hN (g_X10_has l g hN hB.2.1 x85 (by omega) (by omega) x74 (by omega) (by omega)) q_cX10_181 q_dX10_has (by decide) rfl rfl hl.1 rfl (Nat.le_of_ble_eq_true rfl) dX10_meetOrMiss_54 (fun y94 H locs f93 ry94 h95 hF hB => ?_)
      obtain ⟨rfl, ly94, uy94⟩ := h95
      refine lv_istore (lv' := [(5, .int (q_i y94)), (4, .int (q_i y89)), (3, .ref y77), (2, .ref y72), (0, .ref v), (1, .ref p0)]) cx.1 cx.2.1 dX10_meetOrMiss_57 hl (by decide) rfl (fun ls hl => ?_)
      refine lv_iload cx.1 cx.2.1 dX10_meetOrMiss_59 (lv_at hl 1 rfl) ?_
      refine q_ifeq (tgt := 87) cx ⟨by omega, by omega⟩ dX10_meetOrMiss_61 (by decide) (fun c96 => ?_) (fun c96 => ?_)
      · exact J87 y72 hy72 ky72 y77 hy77 ky77 y89 (by omega) (by omega) y94 (by omega) (by omega) H locs hB ls (lv_sub hl [4, 5, 3, 2, 1, 0] rfl)
      · refine lv_iload cx.1 cx.2.1 dX10_meetOrMiss_64 (lv_at hl 0 rfl) ?_
        refine q_ifeq (tgt := 87) cx ⟨by omega, by omega⟩ dX10_meetOrMiss_66 (by decide) (fun c97 => ?_) (fun c97 => ?_)
        · exact J87 y72 hy72 ky72 y77 hy77 ky77 y89 (by omega) (by omega) y94 (by omega) (by omega) H locs hB ls (lv_sub hl [4, 5, 3, 2, 1, 0] rfl)
        · refine q_ald_n cx dX10_meetOrMiss_69 rfl (lv_at hl 5 rfl) ?_
          refine lv_dup cx.1 cx.2.1 dX10_meetOrMiss_70 rfl ?_
          obtain ⟨x98, ex98⟩ : ∃ zz, q_is (q_z f p0 3) zz := ⟨_, q_isr _⟩
          refine q_gX10_125_21 cx hB hp0 kp0 ex98 dX10_meetOrMiss_71 (fun lb99 ub99 => ?_)
          refine q_iconst cx dX10_meetOrMiss_74 ?_
          refine q_iadd cx dX10_meetOrMiss_75 ?_
          refine q_any (fun y100 ry100 ey100 => ?_)
          refine q_pX10_125_21 cx hB hp0 kp0 ⟨by omega, by omega⟩ (by omega) (by omega) rfl dX10_meetOrMiss_76 (fun H locs f101 ef101 z102 hB => ?_)
          refine q_ald_n cx dX10_meetOrMiss_79 rfl (lv_at hl 5 rfl) ?_
          refine q_iconst cx dX10_meetOrMiss_80 ?_
          refine q_pX10_122_21 cx hB hp0 kp0 ⟨by decide, by decide⟩ (by decide) (by decide) rfl dX10_meetOrMiss_81 (fun H locs f103 ef103 z104 hB => ?_)
          refine lv_goto (tgt := 138) cx.1 cx.2.1 dX10_meetOrMiss_84 (by decide) ?_
          exact J138 f103 H locs hB ls (lv_sub hl [] rfl)
    · exact J32  H locs hB ls (lv_sub hl [] rfl)
set_option maxHeartbeats 4000000 in
set_option maxRecDepth 100000 in
theorem g_X10_meetOrMiss_2 (l : Launch) (g : q_G) {K : Nat → Nat} {L : List Nat} (hN : L.Nodup) {f : Nat → va_E} (hT : q_Ty g K L f) (v : Nat) (hv : v ∈ L) (kv : K v = 14) (p0 : Nat) (hp0 : p0 ∈ L) (kp0 : K p0 = 22) : q_Ct l g K L yX10_meetOrMiss cX10_meetOrMiss 7 none 2 44 [.ref v, .ref p0] f [(14, 12, 12), (18, 3, 3), (22, 2, 4)] (q_Pv (fun (f1 : Nat → va_E) => True)) := by
  refine q_ofb (by decide +kernel) hN hT (Nat.le_of_ble_eq_true rfl) ?_
  intro p e s m below meth c ls cx hr hlk hB hl
  have hl : lv_has ls 7 [(0, .ref v), (1, .ref p0)] := hl
  have J32 : ∀  (H : Heap) (locs : List Loc) (hB : q_B g K L (fun q => q ∈ L) [(14, 12, 12), (18, 3, 3), (22, 2, 4)] f f s H locs) (ls : Array Slot) (hl : lv_has ls 7 []), W p l e { frames := 2, cells := 0, slots := 0, locals := 44 } s m ([.ref v, .ref p0] : List Value).toArray below meth c H locs 0 0 (MQ below (q_Q g K L [(14, 12, 12), (18, 3, 3), (22, 2, 4)] f (q_Pv (fun (f1 : Nat → va_E) => True))) ([.ref v, .ref p0] : List Value).toArray s 0 0 (fun q => q ∈ L)) (F0 m 32 ls []) := by
    intro  H locs hB ls hl
    refine q_vret cx hr hlk hB dX10_meetOrMiss_32 ?_
    trivial
  have J138 : ∀ (f138 : Nat → va_E) (H : Heap) (locs : List Loc) (hB : q_B g K L (fun q => q ∈ L) [(14, 12, 12), (18, 3, 3), (22, 2, 4)] f f138 s H locs) (ls : Array Slot) (hl : lv_has ls 7 []), W p l e { frames := 2, cells := 0, slots := 0, locals := 44 } s m ([.ref v, .ref p0] : List Value).toArray below meth c H locs 0 0 (MQ below (q_Q g K L [(14, 12, 12), (18, 3, 3), (22, 2, 4)] f (q_Pv (fun (f1 : Nat → va_E) => True))) ([.ref v, .ref p0] : List Value).toArray s 0 0 (fun q => q ∈ L)) (F0 m 138 ls []) := by
    intro f138 H locs hB ls hl
    refine q_vret cx hr hlk hB dX10_meetOrMiss_138 ?_
    trivial
  have J133 : ∀  (H : Heap) (locs : List Loc) (hB : q_B g K L (fun q => q ∈ L) [(14, 12, 12), (18, 3, 3), (22, 2, 4)] f f s H locs) (ls : Array Slot) (hl : lv_has ls 7 [(0, .ref v), (1, .ref p0)]), W p l e { frames := 2, cells := 0, slots := 0, locals := 44 } s m ([.ref v, .ref p0] : List Value).toArray below meth c H locs 0 0 (MQ below (q_Q g K L [(14, 12, 12), (18, 3, 3), (22, 2, 4)] f (q_Pv (fun (f1 : Nat → va_E) => True))) ([.ref v, .ref p0] : List Value).toArray s 0 0 (fun q => q ∈ L)) (F0 m 133 ls []) := by
    intro  H locs hB ls hl
    refine q_ald_n cx dX10_meetOrMiss_133 rfl (lv_at hl 0 rfl) ?_
    refine q_ald_n cx dX10_meetOrMiss_134 rfl (lv_at hl 1 rfl) ?_
    refine q_cVv (As := [.ref p0]) (rest := []) cx hB (fun _ h => h) hN hv kv (by decide) rfl (g_X10_miss_2 l g hN hB.2.1 v hv kv p0 hp0 kp0) q_cX10_268 q_dX10_miss (by decide) rfl rfl hl.1 rfl (Nat.le_of_ble_eq_true rfl) dX10_meetOrMiss_135 (fun H locs f53 h55 hF hB => ?_)
    exact J138 f53 H locs hB ls (lv_sub hl [] rfl)
  have J113 : ∀ (v113_2 : Nat) (hv113_2 : v113_2 ∈ L) (kv113_2 : K v113_2 = 18) (v113_3 : Nat) (hv113_3 : v113_3 ∈ L) (kv113_3 : K v113_3 = 18) (t113_0 : Int) (lt113_0 : (-2147483648) ≤ t113_0) (ut113_0 : t113_0 ≤ 2147483647) (H : Heap) (locs : List Loc) (hB : q_B g K L (fun q => q ∈ L) [(14, 12, 12), (18, 3, 3), (22, 2, 4)] f f s H locs) (ls : Array Slot) (hl : lv_has ls 7 [(0, .ref v), (1, .ref p0), (2, .ref v113_2), (3, .ref v113_3)]), W p l e { frames := 2, cells := 0, slots := 0, locals := 44 } s m ([.ref v, .ref p0] : List Value).toArray below meth c H locs 0 0 (MQ below (q_Q g K L [(14, 12, 12), (18, 3, 3), (22, 2, 4)] f (q_Pv (fun (f1 : Nat → va_E) => True))) ([.ref v, .ref p0] : List Value).toArray s 0 0 (fun q => q ∈ L)) (F0 m 113 ls [.int (q_i t113_0)]) := by
    intro v113_2 hv113_2 kv113_2 v113_3 hv113_3 kv113_3 t113_0 lt113_0 ut113_0 H locs hB ls hl
    refine lv_istore (lv' := [(6, .int (q_i t113_0)), (0, .ref v), (1, .ref p0), (2, .ref v113_2), (3, .ref v113_3)]) cx.1 cx.2.1 dX10_meetOrMiss_113 hl (by decide) rfl (fun ls hl => ?_)
    refine lv_iload cx.1 cx.2.1 dX10_meetOrMiss_115 (lv_at hl 0 rfl) ?_
    refine q_ald_n cx dX10_meetOrMiss_117 rfl (lv_at hl 3 rfl) ?_
    obtain ⟨x56, ex56⟩ : ∃ zz, q_is (q_z f v113_2 2) zz := ⟨_, q_isr _⟩
    refine q_gX10_95_18 cx hB hv113_2 kv113_2 ex56 dX10_meetOrMiss_118 (fun lb57 ub57 => ?_)
    refine q_iceq (tgt := 133) cx ⟨by omega, by omega⟩ ⟨by omega, by omega⟩ dX10_meetOrMiss_121 (by decide) (fun c58 => ?_) (fun c58 => ?_)
    · exact J133  H locs hB ls (lv_sub hl [1, 2] rfl)
    · refine lv_iload cx.1 cx.2.1 dX10_meetOrMiss_124 (lv_at hl 0 rfl) ?_
      refine q_ald_n cx dX10_meetOrMiss_126 rfl (lv_at hl 4 rfl) ?_
      obtain ⟨x59, ex59⟩ : ∃ zz, q_is (q_z f v113_3 2) zz := ⟨_, q_isr _⟩
      refine q_gX10_95_18 cx hB hv113_3 kv113_3 ex59 dX10_meetOrMiss_127 (fun lb60 ub60 => ?_)
      refine q_icne (tgt := 138) cx ⟨by omega, by omega⟩ ⟨by omega, by omega⟩ dX10_meetOrMiss_130 (by decide) (fun c61 => ?_) (fun c61 => ?_)
      · exact J138 f H locs hB ls (lv_sub hl [] rfl)
      · exact J133  H locs hB ls (lv_sub hl [1, 2] rfl)
  have J97 : ∀ (v97_2 : Nat) (hv97_2 : v97_2 ∈ L) (kv97_2 : K v97_2 = 18) (v97_3 : Nat) (hv97_3 : v97_3 ∈ L) (kv97_3 : K v97_3 = 18) (v97_4 : Int) (lv97_4 : 0 ≤ v97_4) (uv97_4 : v97_4 ≤ 1) (H : Heap) (locs : List Loc) (hB : q_B g K L (fun q => q ∈ L) [(14, 12, 12), (18, 3, 3), (22, 2, 4)] f f s H locs) (ls : Array Slot) (hl : lv_has ls 7 [(0, .ref v), (1, .ref p0), (2, .ref v97_2), (3, .ref v97_3), (4, .int (q_i v97_4))]), W p l e { frames := 2, cells := 0, slots := 0, locals := 44 } s m ([.ref v, .ref p0] : List Value).toArray below meth c H locs 0 0 (MQ below (q_Q g K L [(14, 12, 12), (18, 3, 3), (22, 2, 4)] f (q_Pv (fun (f1 : Nat → va_E) => True))) ([.ref v, .ref p0] : List Value).toArray s 0 0 (fun q => q ∈ L)) (F0 m 97 ls []) := by
    intro v97_2 hv97_2 kv97_2 v97_3 hv97_3 kv97_3 v97_4 lv97_4 uv97_4 H locs hB ls hl
    refine lv_iload cx.1 cx.2.1 dX10_meetOrMiss_97 (lv_at hl 4 rfl) ?_
    refine q_ifeq (tgt := 109) cx ⟨by omega, by omega⟩ dX10_meetOrMiss_99 (by decide) (fun c62 => ?_) (fun c62 => ?_)
    · refine q_ald_n cx dX10_meetOrMiss_109 rfl (lv_at hl 3 rfl) ?_
      obtain ⟨x63, ex63⟩ : ∃ zz, q_is (q_z f v97_3 9) zz := ⟨_, q_isr _⟩
      refine q_gX10_265_18 cx hB hv97_3 kv97_3 ex63 dX10_meetOrMiss_110 (fun lb64 ub64 => ?_)
      exact J113 v97_2 hv97_2 kv97_2 v97_3 hv97_3 kv97_3 x63 (by omega) (by omega) H locs hB ls (lv_sub hl [0, 1, 2, 3] rfl)
    · refine q_ald_n cx dX10_meetOrMiss_102 rfl (lv_at hl 2 rfl) ?_
      obtain ⟨x65, ex65⟩ : ∃ zz, q_is (q_z f v97_2 9) zz := ⟨_, q_isr _⟩
      refine q_gX10_265_18 cx hB hv97_2 kv97_2 ex65 dX10_meetOrMiss_103 (fun lb66 ub66 => ?_)
      refine lv_goto (tgt := 113) cx.1 cx.2.1 dX10_meetOrMiss_106 (by decide) ?_
      exact J113 v97_2 hv97_2 kv97_2 v97_3 hv97_3 kv97_3 x65 (by omega) (by omega) H locs hB ls (lv_sub hl [0, 1, 2, 3] rfl)
  have J87 : ∀ (v87_2 : Nat) (hv87_2 : v87_2 ∈ L) (kv87_2 : K v87_2 = 18) (v87_3 : Nat) (hv87_3 : v87_3 ∈ L) (kv87_3 : K v87_3 = 18) (v87_4 : Int) (lv87_4 : 0 ≤ v87_4) (uv87_4 : v87_4 ≤ 1) (v87_5 : Int) (lv87_5 : 0 ≤ v87_5) (uv87_5 : v87_5 ≤ 1) (H : Heap) (locs : List Loc) (hB : q_B g K L (fun q => q ∈ L) [(14, 12, 12), (18, 3, 3), (22, 2, 4)] f f s H locs) (ls : Array Slot) (hl : lv_has ls 7 [(0, .ref v), (1, .ref p0), (2, .ref v87_2), (3, .ref v87_3), (4, .int (q_i v87_4)), (5, .int (q_i v87_5))]), W p l e { frames := 2, cells := 0, slots := 0, locals := 44 } s m ([.ref v, .ref p0] : List Value).toArray below meth c H locs 0 0 (MQ below (q_Q g K L [(14, 12, 12), (18, 3, 3), (22, 2, 4)] f (q_Pv (fun (f1 : Nat → va_E) => True))) ([.ref v, .ref p0] : List Value).toArray s 0 0 (fun q => q ∈ L)) (F0 m 87 ls []) := by
    intro v87_2 hv87_2 kv87_2 v87_3 hv87_3 kv87_3 v87_4 lv87_4 uv87_4 v87_5 lv87_5 uv87_5 H locs hB ls hl
    refine lv_iload cx.1 cx.2.1 dX10_meetOrMiss_87 (lv_at hl 4 rfl) ?_
    refine q_ifne (tgt := 97) cx ⟨by omega, by omega⟩ dX10_meetOrMiss_89 (by decide) (fun c67 => ?_) (fun c67 => ?_)
    · exact J97 v87_2 hv87_2 kv87_2 v87_3 hv87_3 kv87_3 v87_4 (by omega) (by omega) H locs hB ls (lv_sub hl [0, 1, 2, 3, 4] rfl)
    · refine lv_iload cx.1 cx.2.1 dX10_meetOrMiss_92 (lv_at hl 5 rfl) ?_
      refine q_ifeq (tgt := 138) cx ⟨by omega, by omega⟩ dX10_meetOrMiss_94 (by decide) (fun c68 => ?_) (fun c68 => ?_)
      · exact J138 f H locs hB ls (lv_sub hl [] rfl)
      · exact J97 v87_2 hv87_2 kv87_2 v87_3 hv87_3 kv87_3 v87_4 (by omega) (by omega) H locs hB ls (lv_sub hl [0, 1, 2, 3, 4] rfl)
  obtain ⟨H, hH⟩ : ∃ H : Heap, H = s.heap := ⟨_, rfl⟩
  obtain ⟨locs, hlocs⟩ : ∃ z : List Loc, z = [] := ⟨_, rfl⟩
  rw [← hH, ← hlocs] at hB
  rw [← hH, ← hlocs]
  refine q_ald_n cx dX10_meetOrMiss_0 rfl (lv_at hl 0 rfl) ?_
  refine q_ald_n cx dX10_meetOrMiss_1 rfl (lv_at hl 1 rfl) ?_
  obtain ⟨x69, ex69⟩ : ∃ zz, q_is (q_z f p0 0) zz := ⟨_, q_isr _⟩
  refine q_gX10_116_22 cx hB hp0 kp0 ex69 dX10_meetOrMiss_2 (fun lb70 ub70 => ?_)
  refine q_cVr (As := [.int (q_i x69)]) (rest := []) cx hB (fun _ h => h) hN hv kv (by decide) rfl (g_X10_nodeAt_2 l g hN hB.2.1 v hv kv x69 (by omega) (by omega)) q_cX10_66 q_dX10_nodeAt (by decide) rfl rfl hl.1 rfl (Nat.le_of_ble_eq_true rfl) dX10_meetOrMiss_5 (fun y72 H locs f71 h73 hF hB => ?_)
  obtain ⟨rfl, hy72, ky72⟩ := h73
  refine lv_astore_n (lv' := [(2, .ref y72), (0, .ref v), (1, .ref p0)]) cx.1 cx.2.1 dX10_meetOrMiss_8 rfl hl (by decide) rfl (fun ls hl => ?_)
  refine q_ald_n cx dX10_meetOrMiss_9 rfl (lv_at hl 1 rfl) ?_
  refine q_ald_n cx dX10_meetOrMiss_10 rfl (lv_at hl 2 rfl) ?_
  obtain ⟨x74, ex74⟩ : ∃ zz, q_is (q_z f p0 1) zz := ⟨_, q_isr _⟩
  refine q_gX10_119_22 cx hB hp0 kp0 ex74 dX10_meetOrMiss_11 (fun lb75 ub75 => ?_)
  refine q_cVr (As := [.int (q_i x74)]) (rest := []) cx hB (fun _ h => h) hN hv kv (by decide) rfl (g_X10_nodeAt_2 l g hN hB.2.1 v hv kv x74 (by omega) (by omega)) q_cX10_66 q_dX10_nodeAt (by decide) rfl rfl hl.1 rfl (Nat.le_of_ble_eq_true rfl) dX10_meetOrMiss_14 (fun y77 H locs f76 h78 hF hB => ?_)
  obtain ⟨rfl, hy77, ky77⟩ := h78
  refine lv_astore_n (lv' := [(3, .ref y77), (2, .ref y72), (0, .ref v), (1, .ref p0)]) cx.1 cx.2.1 dX10_meetOrMiss_17 rfl hl (by decide) rfl (fun ls hl => ?_)
  refine q_ald_n cx dX10_meetOrMiss_18 rfl (lv_at hl 1 rfl) ?_
  obtain ⟨x79, ex79⟩ : ∃ zz, q_is (q_z f y72 4) zz := ⟨_, q_isr _⟩
  refine q_gX10_101_18 cx hB hy72 ky72 ex79 dX10_meetOrMiss_19 (fun lb80 ub80 => ?_)
  refine q_ifeq (tgt := 32) cx ⟨by omega, by omega⟩ dX10_meetOrMiss_22 (by decide) (fun c81 => ?_) (fun c81 => ?_)
  · exact J32  H locs hB ls (lv_sub hl [] rfl)
  · refine q_ald_n cx dX10_meetOrMiss_25 rfl (lv_at hl 0 rfl) ?_
    obtain ⟨x82, ex82⟩ : ∃ zz, q_is (q_z f y77 4) zz := ⟨_, q_isr _⟩
    refine q_gX10_101_18 cx hB hy77 ky77 ex82 dX10_meetOrMiss_26 (fun lb83 ub83 => ?_)
    refine q_ifne (tgt := 33) cx ⟨by omega, by omega⟩ dX10_meetOrMiss_29 (by decide) (fun c84 => ?_) (fun c84 => ?_)
    · refine q_ald_n cx dX10_meetOrMiss_33 rfl (lv_at hl 2 rfl) ?_
      obtain ⟨x85, ex85⟩ : ∃ zz, q_is (q_z f v 13) zz := ⟨_, q_isr _⟩
      refine q_gX10_262_14 cx hB hv kv ex85 dX10_meetOrMiss_34 (fun lb86 ub86 => ?_)
      refine q_ald_n cx dX10_meetOrMiss_37 rfl (lv_at hl 3 rfl) ?_
      refine q_gX10_116_22 cx hB hp0 kp0 ex69 dX10_meetOrMiss_38 (fun lb87 ub87 => ?_)
      refine q_cSi (As := [.int (q_i x85), .int (q_i x69)]) (rest := []) cx hB (fun _ h => h) hN (g_X10_has l g hN hB.2.1 x85 (by omega) (by omega) x69 (by omega) (by omega)) q_cX10_181 q_dX10_has (by decide) rfl rfl hl.1 rfl (Nat.le_of_ble_eq_true rfl) dX10_meetOrMiss_41 (fun y89 H locs f88 ry89 h90 hF hB => ?_)
      obtain ⟨rfl, ly89, uy89⟩ := h90
      refine lv_istore (lv' := [(4, .int (q_i y89)), (3, .ref y77), (2, .ref y72), (0, .ref v), (1, .ref p0)]) cx.1 cx.2.1 dX10_meetOrMiss_44 hl (by decide) rfl (fun ls hl => ?_)
      refine q_ald_n cx dX10_meetOrMiss_46 rfl (lv_at hl 3 rfl) ?_
      refine q_gX10_262_14 cx hB hv kv ex85 dX10_meetOrMiss_47 (fun lb91 ub91 => ?_)
      refine q_ald_n cx dX10_meetOrMiss_50 rfl (lv_at hl 4 rfl) ?_
      refine q_gX10_119_22 cx hB hp0 kp0 ex74 dX10_meetOrMiss_51 (fun lb92 ub92 => ?_)
      refine q_cSi (As := [.int (q_i x85), .int (q_i x74)]) (rest := []) cx hB (fun _ h => h) hN (g_X10_has l g hN hB.2.1 x85 (by omega) (by omega) x74 (by omega) (by omega)) q_cX10_181 q_dX10_has (by decide) rfl rfl hl.1 rfl (Nat.le_of_ble_eq_true rfl) dX10_meetOrMiss_54 (fun y94 H locs f93 ry94 h95 hF hB => ?_)
      obtain ⟨rfl, ly94, uy94⟩ := h95
      refine lv_istore (lv' := [(5, .int (q_i y94)), (4, .int (q_i y89)), (3, .ref y77), (2, .ref y72), (0, .ref v), (1, .ref p0)]) cx.1 cx.2.1 dX10_meetOrMiss_57 hl (by decide) rfl (fun ls hl => ?_)
      refine lv_iload cx.1 cx.2.1 dX10_meetOrMiss_59 (lv_at hl 1 rfl) ?_
      refine q_ifeq (tgt := 87) cx ⟨by omega, by omega⟩ dX10_meetOrMiss_61 (by decide) (fun c96 => ?_) (fun c96 => ?_)
      · exact J87 y72 hy72 ky72 y77 hy77 ky77 y89 (by omega) (by omega) y94 (by omega) (by omega) H locs hB ls (lv_sub hl [4, 5, 3, 2, 1, 0] rfl)
      · refine lv_iload cx.1 cx.2.1 dX10_meetOrMiss_64 (lv_at hl 0 rfl) ?_
        refine q_ifeq (tgt := 87) cx ⟨by omega, by omega⟩ dX10_meetOrMiss_66 (by decide) (fun c97 => ?_) (fun c97 => ?_)
        · exact J87 y72 hy72 ky72 y77 hy77 ky77 y89 (by omega) (by omega) y94 (by omega) (by omega) H locs hB ls (lv_sub hl [4, 5, 3, 2, 1, 0] rfl)
        · refine q_ald_n cx dX10_meetOrMiss_69 rfl (lv_at hl 5 rfl) ?_
          refine lv_dup cx.1 cx.2.1 dX10_meetOrMiss_70 rfl ?_
          obtain ⟨x98, ex98⟩ : ∃ zz, q_is (q_z f p0 3) zz := ⟨_, q_isr _⟩
          refine q_gX10_125_22 cx hB hp0 kp0 ex98 dX10_meetOrMiss_71 (fun lb99 ub99 => ?_)
          refine q_iconst cx dX10_meetOrMiss_74 ?_
          refine q_iadd cx dX10_meetOrMiss_75 ?_
          refine q_any (fun y100 ry100 ey100 => ?_)
          refine q_pX10_125_22 cx hB hp0 kp0 ⟨by omega, by omega⟩ (by omega) (by omega) rfl dX10_meetOrMiss_76 (fun H locs f101 ef101 z102 hB => ?_)
          refine q_ald_n cx dX10_meetOrMiss_79 rfl (lv_at hl 5 rfl) ?_
          refine q_iconst cx dX10_meetOrMiss_80 ?_
          refine q_pX10_122_22 cx hB hp0 kp0 ⟨by decide, by decide⟩ (by decide) (by decide) rfl dX10_meetOrMiss_81 (fun H locs f103 ef103 z104 hB => ?_)
          refine lv_goto (tgt := 138) cx.1 cx.2.1 dX10_meetOrMiss_84 (by decide) ?_
          exact J138 f103 H locs hB ls (lv_sub hl [] rfl)
    · exact J32  H locs hB ls (lv_sub hl [] rfl)
