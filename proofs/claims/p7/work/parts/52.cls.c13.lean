set_option maxHeartbeats 4000000 in
set_option maxRecDepth 100000 in
theorem g_X10_passTicks_4 (l : Launch) (g : q_G) {K : Nat → Nat} {L : List Nat} (hN : L.Nodup) {f : Nat → va_E} (hT : q_Ty g K L f) (v : Nat) (hv : v ∈ L) (kv : K v = 16) (p0 : Int) (lp0 : (-2147483648) ≤ p0) (up0 : p0 ≤ 2147483647) : q_Ct l g K L yX10_passTicks cX10_passTicks 5 (some .int) 4 101 [.ref v, .int (q_i p0)] f [(16, 11, 15), (20, 3, 4), (20, 6, 9), (24, 2, 4), (28, 2, 3), (28, 5, 6)] (q_Pi (fun (z : Int) (f1 : Nat → va_E) => True)) := by
  refine q_ofb (by decide +kernel) hN hT (Nat.le_of_ble_eq_true rfl) ?_
  intro p e s m below meth c ls cx hr hlk hB hl
  have hl : lv_has ls 5 [(0, .ref v), (1, .int (q_i p0))] := hl
  have J4 : ∀ (n : Nat) (f4 : Nat → va_E) (v4_2 : Int) (lv4_2 : (-2147483648) ≤ v4_2) (uv4_2 : v4_2 ≤ 2147483647) (v4_3 : Int) (lv4_3 : 0 ≤ v4_3) (uv4_3 : v4_3 ≤ 2147483647) (hmu : (Int.toNat (2147483647 - v4_3)) < n) (H : Heap) (locs : List Loc) (hB : q_B g K L (fun q => q ∈ L) [(16, 11, 15), (20, 3, 4), (20, 6, 9), (24, 2, 4), (28, 2, 3), (28, 5, 6)] f f4 s H locs) (ls : Array Slot) (hl : lv_has ls 5 [(0, .ref v), (1, .int (q_i p0)), (2, .int (q_i v4_2)), (3, .int (q_i v4_3))]), W p l e { frames := 4, cells := 0, slots := 0, locals := 101 } s m ([.ref v, .int (q_i p0)] : List Value).toArray below meth c H locs 0 0 (MQ below (q_Q g K L [(16, 11, 15), (20, 3, 4), (20, 6, 9), (24, 2, 4), (28, 2, 3), (28, 5, 6)] f (q_Pi (fun (z : Int) (f1 : Nat → va_E) => True))) ([.ref v, .int (q_i p0)] : List Value).toArray s 0 0 (fun q => q ∈ L)) (F0 m 4 ls []) := by
    intro n
    induction n with
    | zero =>
      intro f4 v4_2 lv4_2 uv4_2 v4_3 lv4_3 uv4_3 hmu
      exact absurd hmu (Nat.not_lt_zero _)
    | succ n ih4 =>
      intro f4 v4_2 lv4_2 uv4_2 v4_3 lv4_3 uv4_3 hmu H locs hB ls hl
      have J26 : ∀ (n : Nat) (f26 : Nat → va_E) (v26_4 : Int) (lv26_4 : 0 ≤ v26_4) (uv26_4 : v26_4 ≤ 16) (blp0 : 1 ≤ p0) (buv4_3 : v4_3 ≤ 2147483646) (hmu : (Int.toNat (2147483647 - v26_4)) < n) (H : Heap) (locs : List Loc) (hB : q_B g K L (fun q => q ∈ L) [(16, 11, 15), (20, 3, 4), (20, 6, 9), (24, 2, 4), (28, 2, 3), (28, 5, 6)] f f26 s H locs) (ls : Array Slot) (hl : lv_has ls 5 [(0, .ref v), (1, .int (q_i p0)), (2, .int (q_i v4_2)), (3, .int (q_i v4_3)), (4, .int (q_i v26_4))]), W p l e { frames := 4, cells := 0, slots := 0, locals := 101 } s m ([.ref v, .int (q_i p0)] : List Value).toArray below meth c H locs 0 0 (MQ below (q_Q g K L [(16, 11, 15), (20, 3, 4), (20, 6, 9), (24, 2, 4), (28, 2, 3), (28, 5, 6)] f (q_Pi (fun (z : Int) (f1 : Nat → va_E) => True))) ([.ref v, .int (q_i p0)] : List Value).toArray s 0 0 (fun q => q ∈ L)) (F0 m 26 ls []) := by
        intro n
        induction n with
        | zero =>
          intro f26 v26_4 lv26_4 uv26_4 blp0 buv4_3 hmu
          exact absurd hmu (Nat.not_lt_zero _)
        | succ n ih26 =>
          intro f26 v26_4 lv26_4 uv26_4 blp0 buv4_3 hmu H locs hB ls hl
          refine lv_iload cx.1 cx.2.1 dX10_passTicks_26 (lv_at hl 4 rfl) ?_
          refine q_ald_n cx dX10_passTicks_28 rfl (lv_at hl 0 rfl) ?_
          obtain ⟨x1155, ex1155⟩ : ∃ zz, q_is (q_z f26 v 4) zz := ⟨_, q_isr _⟩
          refine q_gX10_39_16 cx hB hv kv ex1155 dX10_passTicks_29 (fun lb1156 ub1156 => ?_)
          refine q_icge (tgt := 51) cx ⟨by omega, by omega⟩ ⟨by omega, by omega⟩ dX10_passTicks_32 (by decide) (fun c1157 => ?_) (fun c1157 => ?_)
          · refine q_ald_n cx dX10_passTicks_51 rfl (lv_at hl 0 rfl) ?_
            refine q_iconst cx dX10_passTicks_52 ?_
            refine q_pX10_249_16 cx hB hv kv ⟨by decide, by decide⟩ (by decide) (by decide) rfl dX10_passTicks_53 (fun H locs f1158 ef1158 z1159 hB => ?_)
            refine q_ald_n cx dX10_passTicks_56 rfl (lv_at hl 0 rfl) ?_
            refine q_iconst cx dX10_passTicks_57 ?_
            refine q_pX10_252_16 cx hB hv kv ⟨by decide, by decide⟩ (by decide) (by decide) rfl dX10_passTicks_58 (fun H locs f1160 ef1160 z1161 hB => ?_)
            refine q_ild_n cx dX10_passTicks_61 rfl (lv_at hl 2 rfl) ?_
            refine q_ald_n cx dX10_passTicks_62 rfl (lv_at hl 0 rfl) ?_
            refine q_iconst cx dX10_passTicks_63 ?_
            refine q_cVi (As := [.int (q_i 1)]) (rest := [.int (q_i v4_2)]) cx hB (fun _ h => h) hN hv kv (by decide) rfl (g_X10_passMessages_4 l g hN hB.2.1 v hv kv 1 (by decide) (by decide)) q_cX10_255 q_dX10_passMessages (by decide) rfl rfl hl.1 rfl (Nat.le_of_ble_eq_true rfl) dX10_passTicks_64 (fun y1163 H locs f1162 ry1163 h1164 hF hB => ?_)
            refine q_ald_n cx dX10_passTicks_67 rfl (lv_at hl 0 rfl) ?_
            refine q_iconst cx dX10_passTicks_68 ?_
            refine q_cVi (As := [.int (q_i 0)]) (rest := [.int (q_i y1163), .int (q_i v4_2)]) cx hB (fun _ h => h) hN hv kv (by decide) rfl (g_X10_passMessages_4 l g hN hB.2.1 v hv kv 0 (by decide) (by decide)) q_cX10_255 q_dX10_passMessages (by decide) rfl rfl hl.1 rfl (Nat.le_of_ble_eq_true rfl) dX10_passTicks_69 (fun y1166 H locs f1165 ry1166 h1167 hF hB => ?_)
            refine q_iadd cx dX10_passTicks_72 ?_
            refine q_any (fun y1168 ry1168 ey1168 => ?_)
            refine q_iadd cx dX10_passTicks_73 ?_
            refine q_any (fun y1169 ry1169 ey1169 => ?_)
            refine lv_istore_n (lv' := [(2, .int (q_i y1169)), (0, .ref v), (1, .int (q_i p0)), (3, .int (q_i v4_3)), (4, .int (q_i v26_4))]) cx.1 cx.2.1 dX10_passTicks_74 rfl hl (by decide) rfl (fun ls hl => ?_)
            refine q_ald_n cx dX10_passTicks_75 rfl (lv_at hl 1 rfl) ?_
            refine q_cVv (As := []) (rest := []) cx hB (fun _ h => h) hN hv kv (by decide) rfl (g_X10_loseMessages_4 l g hN hB.2.1 v hv kv) q_cX10_259 q_dX10_loseMessages (by decide) rfl rfl hl.1 rfl (Nat.le_of_ble_eq_true rfl) dX10_passTicks_76 (fun H locs f1170 h1172 hF hB => ?_)
            refine q_iinc (lv' := [(3, .int (q_i (v4_3 + 1))), (2, .int (q_i y1169)), (0, .ref v), (1, .int (q_i p0)), (4, .int (q_i v26_4))]) cx dX10_passTicks_79 hl (k := 3) rfl (by decide) rfl (fun ls hl => ?_)
            refine lv_goto (tgt := 4) cx.1 cx.2.1 dX10_passTicks_82 (by decide) ?_
            exact ih4 f1170 y1169 (by omega) (by omega) (v4_3 + 1) (by omega) (by omega) (by omega) H locs hB ls (lv_sub hl [2, 3, 1, 0] rfl)
          · refine q_ald_n cx dX10_passTicks_35 rfl (lv_at hl 0 rfl) ?_
            refine q_ald_n cx dX10_passTicks_36 rfl (lv_at hl 0 rfl) ?_
            refine lv_iload cx.1 cx.2.1 dX10_passTicks_37 (lv_at hl 4 rfl) ?_
            refine q_cVr (As := [.int (q_i v26_4)]) (rest := [.ref v]) cx hB (fun _ h => h) hN hv kv (by decide) rfl (g_X10_linkAt_4 l g hN hB.2.1 v hv kv v26_4 (by omega) (by omega)) q_cX10_74 q_dX10_linkAt (by decide) rfl rfl hl.1 rfl (Nat.le_of_ble_eq_true rfl) dX10_passTicks_39 (fun y1174 H locs f1173 h1175 hF hB => ?_)
            obtain ⟨rfl, hy1174, ky1174⟩ := h1175
            refine q_cVv (As := [.ref y1174]) (rest := []) cx hB (fun _ h => h) hN hv kv (by decide) rfl (g_X10_meetOrMiss_4 l g hN hB.2.1 v hv kv y1174 hy1174 ky1174) q_cX10_246 q_dX10_meetOrMiss (by decide) rfl rfl hl.1 rfl (Nat.le_of_ble_eq_true rfl) dX10_passTicks_42 (fun H locs f1176 h1178 hF hB => ?_)
            refine q_iinc (lv' := [(4, .int (q_i (v26_4 + 1))), (0, .ref v), (1, .int (q_i p0)), (2, .int (q_i v4_2)), (3, .int (q_i v4_3))]) cx dX10_passTicks_45 hl (k := 4) rfl (by decide) rfl (fun ls hl => ?_)
            refine lv_goto (tgt := 26) cx.1 cx.2.1 dX10_passTicks_48 (by decide) ?_
            exact ih26 f1176 (v26_4 + 1) (by omega) (by omega) (by omega) (by omega) (by omega) H locs hB ls (lv_sub hl [1, 2, 3, 4, 0] rfl)
      refine q_ild_n cx dX10_passTicks_4 rfl (lv_at hl 3 rfl) ?_
      refine q_ild_n cx dX10_passTicks_5 rfl (lv_at hl 1 rfl) ?_
      refine q_icge (tgt := 85) cx ⟨by omega, by omega⟩ ⟨by omega, by omega⟩ dX10_passTicks_6 (by decide) (fun c1179 => ?_) (fun c1179 => ?_)
      · refine q_ild_n cx dX10_passTicks_85 rfl (lv_at hl 2 rfl) ?_
        refine q_iret cx hr hlk hB dX10_passTicks_86 ⟨by omega, by omega⟩ ?_
        trivial
      · refine q_ald_n cx dX10_passTicks_9 rfl (lv_at hl 0 rfl) ?_
        refine lv_dup cx.1 cx.2.1 dX10_passTicks_10 rfl ?_
        obtain ⟨x1180, ex1180⟩ : ∃ zz, q_is (q_z f4 v 11) zz := ⟨_, q_isr _⟩
        refine q_gX10_60_16 cx hB hv kv ex1180 dX10_passTicks_11 (fun lb1181 ub1181 => ?_)
        refine q_iconst cx dX10_passTicks_14 ?_
        refine q_iadd cx dX10_passTicks_15 ?_
        refine q_any (fun y1182 ry1182 ey1182 => ?_)
        refine q_pX10_60_16 cx hB hv kv ⟨by omega, by omega⟩ (by omega) (by omega) rfl dX10_passTicks_16 (fun H locs f1183 ef1183 z1184 hB => ?_)
        refine q_ald_n cx dX10_passTicks_19 rfl (lv_at hl 0 rfl) ?_
        refine q_cVv (As := []) (rest := []) cx hB (fun _ h => h) hN hv kv (by decide) rfl (g_X10_wakeNodes_4 l g hN hB.2.1 v hv kv) q_cX10_243 q_dX10_wakeNodes (by decide) rfl rfl hl.1 rfl (Nat.le_of_ble_eq_true rfl) dX10_passTicks_20 (fun H locs f1185 h1187 hF hB => ?_)
        refine q_iconst cx dX10_passTicks_23 ?_
        refine lv_istore (lv' := [(4, .int (q_i 0)), (0, .ref v), (1, .int (q_i p0)), (2, .int (q_i v4_2)), (3, .int (q_i v4_3))]) cx.1 cx.2.1 dX10_passTicks_24 hl (by decide) rfl (fun ls hl => ?_)
        exact J26 ((Int.toNat (2147483647 - 0)) + 1) f1185 0 (by decide) (by decide) (by omega) (by omega) (Nat.lt_succ_self _) H locs hB ls (lv_sub hl [1, 2, 3, 4, 0] rfl)
  obtain ⟨H, hH⟩ : ∃ H : Heap, H = s.heap := ⟨_, rfl⟩
  obtain ⟨locs, hlocs⟩ : ∃ z : List Loc, z = [] := ⟨_, rfl⟩
  rw [← hH, ← hlocs] at hB
  rw [← hH, ← hlocs]
  refine q_iconst cx dX10_passTicks_0 ?_
  refine lv_istore_n (lv' := [(2, .int (q_i 0)), (0, .ref v), (1, .int (q_i p0))]) cx.1 cx.2.1 dX10_passTicks_1 rfl hl (by decide) rfl (fun ls hl => ?_)
  refine q_iconst cx dX10_passTicks_2 ?_
  refine lv_istore_n (lv' := [(3, .int (q_i 0)), (2, .int (q_i 0)), (0, .ref v), (1, .int (q_i p0))]) cx.1 cx.2.1 dX10_passTicks_3 rfl hl (by decide) rfl (fun ls hl => ?_)
  exact J4 ((Int.toNat (2147483647 - 0)) + 1) f 0 (by decide) (by decide) 0 (by decide) (by decide) (Nat.lt_succ_self _) H locs hB ls (lv_sub hl [2, 3, 1, 0] rfl)
set_option maxHeartbeats 4000000 in
set_option maxRecDepth 100000 in
theorem g_X1_trialArrival (l : Launch) (g : q_G) {K : Nat → Nat} {L : List Nat} (hN : L.Nodup) {f : Nat → va_E} (hT : q_Ty g K L f) (v : Nat) (hv : v ∈ L) (kv : K v = 1) (p0 : Int) (lp0 : (-2147483648) ≤ p0) (up0 : p0 ≤ 2147483647) (p1 : Int) (lp1 : (-2147483648) ≤ p1) (up1 : p1 ≤ 1000) : q_Ct l g K L yX1_trialArrival cX1_trialArrival 5 (some .int) 5 125 [.ref v, .int (q_i p0), .int (q_i p1)] f [(15, 11, 15), (19, 3, 4), (19, 6, 9), (23, 2, 4), (27, 2, 3), (27, 5, 6)] (q_Pi (fun (z : Int) (f1 : Nat → va_E) => (-1) ≤ z ∧ z ≤ 1000)) := by
  refine q_ofb (by decide +kernel) hN hT (Nat.le_of_ble_eq_true rfl) ?_
  intro p e s m below meth c ls cx hr hlk hB hl
  have hl : lv_has ls 5 [(0, .ref v), (1, .int (q_i p0)), (2, .int (q_i p1))] := hl
  have J52 : ∀ (f52 : Nat → va_E) (H : Heap) (locs : List Loc) (hB : q_B g K L (fun q => q ∈ L) [(15, 11, 15), (19, 3, 4), (19, 6, 9), (23, 2, 4), (27, 2, 3), (27, 5, 6)] f f52 s H locs) (ls : Array Slot) (hl : lv_has ls 5 []), W p l e { frames := 5, cells := 0, slots := 0, locals := 125 } s m ([.ref v, .int (q_i p0), .int (q_i p1)] : List Value).toArray below meth c H locs 0 0 (MQ below (q_Q g K L [(15, 11, 15), (19, 3, 4), (19, 6, 9), (23, 2, 4), (27, 2, 3), (27, 5, 6)] f (q_Pi (fun (z : Int) (f1 : Nat → va_E) => (-1) ≤ z ∧ z ≤ 1000))) ([.ref v, .int (q_i p0), .int (q_i p1)] : List Value).toArray s 0 0 (fun q => q ∈ L)) (F0 m 52 ls []) := by
    intro f52 H locs hB ls hl
    refine q_iconst cx dX1_trialArrival_52 ?_
    refine q_iret cx hr hlk hB dX1_trialArrival_53 ⟨by decide, by decide⟩ ?_
    exact ⟨(by decide), (by decide)⟩
  have J12 : ∀ (n : Nat) (f12 : Nat → va_E) (v12_3 : Nat) (hv12_3 : v12_3 ∈ L) (kv12_3 : K v12_3 = 27) (v12_4 : Int) (lv12_4 : 0 ≤ v12_4) (uv12_4 : v12_4 ≤ 9999) (hmu : (Int.toNat (2147483647 - v12_4)) < n) (H : Heap) (locs : List Loc) (hB : q_B g K L (fun q => q ∈ L) [(15, 11, 15), (19, 3, 4), (19, 6, 9), (23, 2, 4), (27, 2, 3), (27, 5, 6)] f f12 s H locs) (ls : Array Slot) (hl : lv_has ls 5 [(0, .ref v), (2, .int (q_i p1)), (3, .ref v12_3), (4, .int (q_i v12_4))]), W p l e { frames := 5, cells := 0, slots := 0, locals := 125 } s m ([.ref v, .int (q_i p0), .int (q_i p1)] : List Value).toArray below meth c H locs 0 0 (MQ below (q_Q g K L [(15, 11, 15), (19, 3, 4), (19, 6, 9), (23, 2, 4), (27, 2, 3), (27, 5, 6)] f (q_Pi (fun (z : Int) (f1 : Nat → va_E) => (-1) ≤ z ∧ z ≤ 1000))) ([.ref v, .int (q_i p0), .int (q_i p1)] : List Value).toArray s 0 0 (fun q => q ∈ L)) (F0 m 12 ls []) := by
    intro n
    induction n with
    | zero =>
      intro f12 v12_3 hv12_3 kv12_3 v12_4 lv12_4 uv12_4 hmu
      exact absurd hmu (Nat.not_lt_zero _)
    | succ n ih12 =>
      intro f12 v12_3 hv12_3 kv12_3 v12_4 lv12_4 uv12_4 hmu H locs hB ls hl
      refine lv_iload cx.1 cx.2.1 dX1_trialArrival_12 (lv_at hl 3 rfl) ?_
      refine q_ild_n cx dX1_trialArrival_14 rfl (lv_at hl 1 rfl) ?_
      refine q_icgt (tgt := 52) cx ⟨by omega, by omega⟩ ⟨by omega, by omega⟩ dX1_trialArrival_15 (by decide) (fun c390 => ?_) (fun c390 => ?_)
      · exact J52 f12 H locs hB ls (lv_sub hl [] rfl)
      · refine q_ald_n cx dX1_trialArrival_18 rfl (lv_at hl 2 rfl) ?_
        obtain ⟨x391, ex391⟩ : ∃ zz, q_is (q_z f12 v12_3 3) zz := ⟨_, q_isr _⟩
        refine q_gX1_42_27 cx hB hv12_3 kv12_3 ex391 dX1_trialArrival_19 (fun lb392 ub392 => ?_)
        refine q_iconst cx dX1_trialArrival_22 ?_
        refine q_iceq (tgt := 52) cx ⟨by omega, by omega⟩ ⟨by decide, by decide⟩ dX1_trialArrival_23 (by decide) (fun c393 => ?_) (fun c393 => ?_)
        · exact J52 f12 H locs hB ls (lv_sub hl [] rfl)
        · refine q_ald_n cx dX1_trialArrival_26 rfl (lv_at hl 2 rfl) ?_
          refine q_gX1_42_27 cx hB hv12_3 kv12_3 ex391 dX1_trialArrival_27 (fun lb394 ub394 => ?_)
          refine q_iconst cx dX1_trialArrival_30 ?_
          refine q_icne (tgt := 37) cx ⟨by omega, by omega⟩ ⟨by decide, by decide⟩ dX1_trialArrival_31 (by decide) (fun c395 => ?_) (fun c395 => ?_)
          · refine q_ald_n cx dX1_trialArrival_37 rfl (lv_at hl 0 rfl) ?_
            obtain ⟨p396, ep396⟩ : ∃ zz, q_ir (q_r f12 v 0) zz := ⟨_, q_irr _⟩
            refine q_gX1_12 cx hB hv kv ep396 dX1_trialArrival_38 (fun hb397 kb397 => ?_)
            refine q_iconst cx dX1_trialArrival_41 ?_
            refine q_cVi (As := [.int (q_i 1)]) (rest := []) cx hB (fun _ h => h) hN hb397 kb397 (by decide) rfl (g_X10_passTicks_3 l g hN hB.2.1 p396 hb397 kb397 1 (by decide) (by decide)) q_cX1_48 q_dX10_passTicks (by decide) rfl rfl hl.1 rfl (Nat.le_of_ble_eq_true rfl) dX1_trialArrival_42 (fun y399 H locs f398 ry399 h400 hF hB => ?_)
            have z401 : q_ir (q_r f398 v 0) p396 := Eq.trans (hF.r hv (by rw [kv]; rfl)) ep396
            refine lv_pop cx.1 cx.2.1 dX1_trialArrival_45 rfl ?_
            refine q_iinc (lv' := [(4, .int (q_i (v12_4 + 1))), (0, .ref v), (2, .int (q_i p1)), (3, .ref v12_3)]) cx dX1_trialArrival_46 hl (k := 3) rfl (by decide) rfl (fun ls hl => ?_)
            refine lv_goto (tgt := 12) cx.1 cx.2.1 dX1_trialArrival_49 (by decide) ?_
            exact ih12 f398 v12_3 hv12_3 kv12_3 (v12_4 + 1) (by omega) (by omega) (by omega) H locs hB ls (lv_sub hl [1, 2, 3, 0] rfl)
          · refine lv_iload cx.1 cx.2.1 dX1_trialArrival_34 (lv_at hl 3 rfl) ?_
            refine q_iret cx hr hlk hB dX1_trialArrival_36 ⟨by omega, by omega⟩ ?_
            exact ⟨(by omega), (by omega)⟩
  obtain ⟨H, hH⟩ : ∃ H : Heap, H = s.heap := ⟨_, rfl⟩
  obtain ⟨locs, hlocs⟩ : ∃ z : List Loc, z = [] := ⟨_, rfl⟩
  rw [← hH, ← hlocs] at hB
  rw [← hH, ← hlocs]
  refine q_ald_n cx dX1_trialArrival_0 rfl (lv_at hl 0 rfl) ?_
  obtain ⟨p402, ep402⟩ : ∃ zz, q_ir (q_r f v 0) zz := ⟨_, q_irr _⟩
  refine q_gX1_12 cx hB hv kv ep402 dX1_trialArrival_1 (fun hb403 kb403 => ?_)
  refine q_ild_n cx dX1_trialArrival_4 rfl (lv_at hl 1 rfl) ?_
  refine q_cVr (As := [.int (q_i p0)]) (rest := []) cx hB (fun _ h => h) hN hb403 kb403 (by decide) rfl (g_X10_messageAt_3 l g hN hB.2.1 p402 hb403 kb403 p0 (by omega) (by omega)) q_cX1_38 q_dX10_messageAt (by decide) rfl rfl hl.1 rfl (Nat.le_of_ble_eq_true rfl) dX1_trialArrival_5 (fun y405 H locs f404 h406 hF hB => ?_)
  obtain ⟨rfl, hy405, ky405⟩ := h406
  refine lv_astore_n (lv' := [(3, .ref y405), (0, .ref v), (1, .int (q_i p0)), (2, .int (q_i p1))]) cx.1 cx.2.1 dX1_trialArrival_8 rfl hl (by decide) rfl (fun ls hl => ?_)
  refine q_iconst cx dX1_trialArrival_9 ?_
  refine lv_istore (lv' := [(4, .int (q_i 0)), (3, .ref y405), (0, .ref v), (1, .int (q_i p0)), (2, .int (q_i p1))]) cx.1 cx.2.1 dX1_trialArrival_10 hl (by decide) rfl (fun ls hl => ?_)
  exact J12 ((Int.toNat (2147483647 - 0)) + 1) f y405 hy405 ky405 0 (by decide) (by decide) (Nat.lt_succ_self _) H locs hB ls (lv_sub hl [2, 4, 1, 0] rfl)
set_option maxHeartbeats 4000000 in
set_option maxRecDepth 100000 in
theorem g_X1_ticksToArrival (l : Launch) (g : q_G) {K : Nat → Nat} {L : List Nat} (hN : L.Nodup) {f : Nat → va_E} (hT : q_Ty g K L f) (v : Nat) (hv : v ∈ L) (kv : K v = 1) (p0 : Nat) (hp0 : p0 ∈ L) (kp0 : K p0 = 10) (p1 : Int) (lp1 : (-2147483648) ≤ p1) (up1 : p1 ≤ 2147483647) : q_Ct l g K L yX1_ticksToArrival cX1_ticksToArrival 3 (some .int) 6 149 [.ref v, .ref p0, .int (q_i p1)] f [(15, 3, 15), (19, 0, 9), (23, 0, 4), (27, 0, 7)] (q_Pi (fun (z : Int) (f1 : Nat → va_E) => (-1) ≤ z ∧ z ≤ 1000)) := by
  refine q_ofb (by decide +kernel) hN hT (Nat.le_of_ble_eq_true rfl) ?_
  intro p e s m below meth c ls cx hr hlk hB hl
  have hl : lv_has ls 3 [(0, .ref v), (1, .ref p0), (2, .int (q_i p1))] := hl
  obtain ⟨H, hH⟩ : ∃ H : Heap, H = s.heap := ⟨_, rfl⟩
  obtain ⟨locs, hlocs⟩ : ∃ z : List Loc, z = [] := ⟨_, rfl⟩
  rw [← hH, ← hlocs] at hB
  rw [← hH, ← hlocs]
  refine q_ald_n cx dX1_ticksToArrival_0 rfl (lv_at hl 0 rfl) ?_
  obtain ⟨p11, ep11⟩ : ∃ zz, q_ir (q_r f v 0) zz := ⟨_, q_irr _⟩
  refine q_gX1_12 cx hB hv kv ep11 dX1_ticksToArrival_1 (fun hb12 kb12 => ?_)
  refine q_ald_n cx dX1_ticksToArrival_4 rfl (lv_at hl 1 rfl) ?_
  refine q_cVv (As := [.ref p0]) (rest := []) cx hB (fun _ h => h) hN hb12 kb12 (by decide) rfl (g_X10_copyFrom_30 l g hN hB.2.1 p11 hb12 kb12 p0 hp0 kp0) q_cX1_18 q_dX10_copyFrom (by decide) rfl rfl hl.1 rfl (Nat.le_of_ble_eq_true rfl) dX1_ticksToArrival_5 (fun H locs f13 h15 hF hB => ?_)
  have z16 : q_ir (q_r f13 v 0) p11 := Eq.trans (hF.r hv (by rw [kv]; rfl)) ep11
  refine q_ald_n cx dX1_ticksToArrival_8 rfl (lv_at hl 0 rfl) ?_
  refine q_ild_n cx dX1_ticksToArrival_9 rfl (lv_at hl 2 rfl) ?_
  refine q_sipush cx dX1_ticksToArrival_10 rfl ?_
  refine q_cVi (As := [.int (q_i p1), .int (q_i 200)]) (rest := []) cx hB (fun _ h => h) hN hv kv (by decide) rfl (g_X1_trialArrival l g hN hB.2.1 v hv kv p1 (by omega) (by omega) 200 (by decide) (by decide)) q_cX1_22 q_dX1_trialArrival (by decide) rfl rfl hl.1 rfl (Nat.le_of_ble_eq_true rfl) dX1_ticksToArrival_13 (fun y18 H locs f17 ry18 h19 hF hB => ?_)
  obtain ⟨ly18, uy18⟩ := h19
  have z20 : q_ir (q_r f17 v 0) p11 := Eq.trans (hF.r hv (by rw [kv]; rfl)) z16
  refine q_iret cx hr hlk hB dX1_ticksToArrival_16 ⟨by omega, by omega⟩ ?_
  exact ⟨(by omega), (by omega)⟩
set_option maxHeartbeats 4000000 in
set_option maxRecDepth 100000 in
theorem g_X10_addMessage (l : Launch) (g : q_G) {K : Nat → Nat} {L : List Nat} (hN : L.Nodup) {f : Nat → va_E} (hT : q_Ty g K L f) (v : Nat) (hv : v ∈ L) (kv : K v = 10) (p0 : Int) (lp0 : (-2147483648) ≤ p0) (up0 : p0 ≤ 2147483647) (p1 : Int) (lp1 : (-2147483648) ≤ p1) (up1 : p1 ≤ 2147483647) (p2 : Int) (lp2 : (-2147483648) ≤ p2) (up2 : p2 ≤ 2147483647) (p3 : Int) (lp3 : 0 ≤ p3) (up3 : p3 ≤ 1) : q_Ct l g K L yX10_addMessage cX10_addMessage 6 (some .int) 1 21 [.ref v, .int (q_i p0), .int (q_i p1), .int (q_i p2), .int (q_i p3)] f [(4, 0, 7), (10, 5, 5)] (q_Pi (fun (z : Int) (f1 : Nat → va_E) => (-1) ≤ z ∧ z ≤ 60)) := by
  refine q_ofb (by decide +kernel) hN hT (Nat.le_of_ble_eq_true rfl) ?_
  intro p e s m below meth c ls cx hr hlk hB hl
  have hl : lv_has ls 6 [(0, .ref v), (1, .int (q_i p0)), (2, .int (q_i p1)), (3, .int (q_i p2)), (4, .int (q_i p3))] := hl
  obtain ⟨H, hH⟩ : ∃ H : Heap, H = s.heap := ⟨_, rfl⟩
  obtain ⟨locs, hlocs⟩ : ∃ z : List Loc, z = [] := ⟨_, rfl⟩
  rw [← hH, ← hlocs] at hB
  rw [← hH, ← hlocs]
  refine q_ald_n cx dX10_addMessage_0 rfl (lv_at hl 0 rfl) ?_
  obtain ⟨x91, ex91⟩ : ∃ zz, q_is (q_z f v 5) zz := ⟨_, q_isr _⟩
  refine q_gX10_42 cx hB hv kv ex91 dX10_addMessage_1 (fun lb92 ub92 => ?_)
  refine q_ald_n cx dX10_addMessage_4 rfl (lv_at hl 0 rfl) ?_
  obtain ⟨p93, ep93⟩ : ∃ zz, q_ir (q_r f v 2) zz := ⟨_, q_irr _⟩
  refine q_gX10_25 cx hB hv kv ep93 dX10_addMessage_5 (fun hb94 kb94 => ?_)
  refine q_alen (n := 61) cx hB hb94 kb94 (by decide) rfl 6 rfl rfl dX10_addMessage_8 ?_
  refine q_iclt (tgt := 14) cx ⟨by omega, by omega⟩ ⟨by decide, by decide⟩ dX10_addMessage_9 (by decide) (fun c95 => ?_) (fun c95 => ?_)
  · refine q_ald_n cx dX10_addMessage_14 rfl (lv_at hl 0 rfl) ?_
    refine q_ald_n cx dX10_addMessage_15 rfl (lv_at hl 0 rfl) ?_
    refine q_gX10_42 cx hB hv kv ex91 dX10_addMessage_16 (fun lb96 ub96 => ?_)
    refine q_cVr (As := [.int (q_i x91)]) (rest := []) cx hB (fun _ h => h) hN hv kv (by decide) rfl (g_X10_messageAt l g hN hB.2.1 v hv kv x91 (by omega) (by omega)) q_cX10_81 q_dX10_messageAt (by decide) rfl rfl hl.1 rfl (Nat.le_of_ble_eq_true rfl) dX10_addMessage_19 (fun y98 H locs f97 h99 hF hB => ?_)
    obtain ⟨rfl, hy98, ky98⟩ := h99
    refine lv_astore (lv' := [(5, .ref y98), (0, .ref v), (1, .int (q_i p0)), (2, .int (q_i p1)), (3, .int (q_i p2)), (4, .int (q_i p3))]) cx.1 cx.2.1 dX10_addMessage_22 hl (by decide) rfl (fun ls hl => ?_)
    refine lv_aload cx.1 cx.2.1 dX10_addMessage_24 (lv_at hl 0 rfl) ?_
    refine q_ild_n cx dX10_addMessage_26 rfl (lv_at hl 2 rfl) ?_
    refine q_pX10_131 cx hB hy98 ky98 ⟨by omega, by omega⟩ (by omega) (by omega) rfl dX10_addMessage_27 (fun H locs f100 ef100 z101 hB => ?_)
    have z102 : q_is (q_z f100 v 5) x91 := by rw [ef100, q_setz (Or.inr (by decide))]; exact ex91
    have z103 : q_ir (q_r f100 v 2) p93 := by rw [ef100, q_setr (Or.inr (by decide))]; exact ep93
    refine lv_aload cx.1 cx.2.1 dX10_addMessage_30 (lv_at hl 0 rfl) ?_
    refine q_ild_n cx dX10_addMessage_32 rfl (lv_at hl 3 rfl) ?_
    refine q_pX10_134 cx hB hy98 ky98 ⟨by omega, by omega⟩ (by omega) (by omega) rfl dX10_addMessage_33 (fun H locs f104 ef104 z105 hB => ?_)
    have z106 : q_is (q_z f104 v 5) x91 := by rw [ef104, q_setz (Or.inr (by decide))]; exact z102
    have z107 : q_is (q_z f104 y98 0) p0 := by rw [ef104, q_setz (Or.inr (by decide))]; exact z101
    have z108 : q_ir (q_r f104 v 2) p93 := by rw [ef104, q_setr (Or.inr (by decide))]; exact z103
    refine lv_aload cx.1 cx.2.1 dX10_addMessage_36 (lv_at hl 0 rfl) ?_
    refine q_ild_n cx dX10_addMessage_38 rfl (lv_at hl 2 rfl) ?_
    refine q_pX10_137 cx hB hy98 ky98 ⟨by omega, by omega⟩ (by omega) (by omega) rfl dX10_addMessage_39 (fun H locs f109 ef109 z110 hB => ?_)
    have z111 : q_is (q_z f109 v 5) x91 := by rw [ef109, q_setz (Or.inr (by decide))]; exact z106
    have z112 : q_is (q_z f109 y98 0) p0 := by rw [ef109, q_setz (Or.inr (by decide))]; exact z107
    have z113 : q_is (q_z f109 y98 1) p1 := by rw [ef109, q_setz (Or.inr (by decide))]; exact z105
    have z114 : q_ir (q_r f109 v 2) p93 := by rw [ef109, q_setr (Or.inl (fun q => by rw [q, ky98] at kv; exact absurd kv (by decide)))]; exact z108
    refine lv_aload cx.1 cx.2.1 dX10_addMessage_42 (lv_at hl 0 rfl) ?_
    refine q_iconst cx dX10_addMessage_44 ?_
    refine q_pX10_140 cx hB hy98 ky98 ⟨by decide, by decide⟩ (by decide) (by decide) rfl dX10_addMessage_45 (fun H locs f115 ef115 z116 hB => ?_)
    have z117 : q_is (q_z f115 v 5) x91 := by rw [ef115, q_setz (Or.inr (by decide))]; exact z111
    have z118 : q_is (q_z f115 y98 0) p0 := by rw [ef115, q_setz (Or.inr (by decide))]; exact z112
    have z119 : q_is (q_z f115 y98 1) p1 := by rw [ef115, q_setz (Or.inr (by decide))]; exact z113
    have z120 : q_is (q_z f115 y98 2) p0 := by rw [ef115, q_setz (Or.inr (by decide))]; exact z110
    have z121 : q_ir (q_r f115 v 2) p93 := by rw [ef115, q_setr (Or.inr (by decide))]; exact z114
    refine lv_aload cx.1 cx.2.1 dX10_addMessage_48 (lv_at hl 0 rfl) ?_
    refine q_ald_n cx dX10_addMessage_50 rfl (lv_at hl 1 rfl) ?_
    obtain ⟨x122, ex122⟩ : ∃ zz, q_is (q_z f115 v 11) zz := ⟨_, q_isr _⟩
    refine q_gX10_60 cx hB hv kv ex122 dX10_addMessage_51 (fun lb123 ub123 => ?_)
    refine q_ild_n cx dX10_addMessage_54 rfl (lv_at hl 4 rfl) ?_
    refine q_iadd cx dX10_addMessage_55 ?_
    refine q_any (fun y124 ry124 ey124 => ?_)
    refine q_pX10_143 cx hB hy98 ky98 ⟨by omega, by omega⟩ (by omega) (by omega) rfl dX10_addMessage_56 (fun H locs f125 ef125 z126 hB => ?_)
    have z127 : q_is (q_z f125 v 5) x91 := by rw [ef125, q_setz (Or.inr (by decide))]; exact z117
    have z128 : q_is (q_z f125 y98 0) p0 := by rw [ef125, q_setz (Or.inr (by decide))]; exact z118
    have z129 : q_is (q_z f125 y98 1) p1 := by rw [ef125, q_setz (Or.inr (by decide))]; exact z119
    have z130 : q_is (q_z f125 y98 2) p0 := by rw [ef125, q_setz (Or.inr (by decide))]; exact z120
    have z131 : q_is (q_z f125 y98 3) 0 := by rw [ef125, q_setz (Or.inr (by decide))]; exact z116
    have z132 : q_is (q_z f125 v 11) x122 := by rw [ef125, q_setz (Or.inr (by decide))]; exact ex122
    have z133 : q_ir (q_r f125 v 2) p93 := by rw [ef125, q_setr (Or.inr (by decide))]; exact z121
    refine lv_aload cx.1 cx.2.1 dX10_addMessage_59 (lv_at hl 0 rfl) ?_
    refine q_iconst cx dX10_addMessage_61 ?_
    refine q_pX10_146 cx hB hy98 ky98 ⟨by decide, by decide⟩ (by decide) (by decide) rfl dX10_addMessage_62 (fun H locs f134 ef134 z135 hB => ?_)
    have z136 : q_is (q_z f134 v 5) x91 := by rw [ef134, q_setz (Or.inl (fun q => by rw [q, ky98] at kv; exact absurd kv (by decide)))]; exact z127
    have z137 : q_is (q_z f134 y98 0) p0 := by rw [ef134, q_setz (Or.inr (by decide))]; exact z128
    have z138 : q_is (q_z f134 y98 1) p1 := by rw [ef134, q_setz (Or.inr (by decide))]; exact z129
    have z139 : q_is (q_z f134 y98 2) p0 := by rw [ef134, q_setz (Or.inr (by decide))]; exact z130
    have z140 : q_is (q_z f134 y98 3) 0 := by rw [ef134, q_setz (Or.inr (by decide))]; exact z131
    have z141 : q_is (q_z f134 v 11) x122 := by rw [ef134, q_setz (Or.inr (by decide))]; exact z132
    have z142 : q_is (q_z f134 y98 4) y124 := by rw [ef134, q_setz (Or.inr (by decide))]; exact z126
    have z143 : q_ir (q_r f134 v 2) p93 := by rw [ef134, q_setr (Or.inr (by decide))]; exact z133
    refine lv_aload cx.1 cx.2.1 dX10_addMessage_65 (lv_at hl 0 rfl) ?_
    refine q_iconst cx dX10_addMessage_67 ?_
    refine q_pX10_149 cx hB hy98 ky98 ⟨by decide, by decide⟩ (by decide) (by decide) rfl dX10_addMessage_68 (fun H locs f144 ef144 z145 hB => ?_)
    have z146 : q_is (q_z f144 v 5) x91 := by rw [ef144, q_setz (Or.inr (by decide))]; exact z136
    have z147 : q_is (q_z f144 y98 0) p0 := by rw [ef144, q_setz (Or.inr (by decide))]; exact z137
    have z148 : q_is (q_z f144 y98 1) p1 := by rw [ef144, q_setz (Or.inr (by decide))]; exact z138
    have z149 : q_is (q_z f144 y98 2) p0 := by rw [ef144, q_setz (Or.inr (by decide))]; exact z139
    have z150 : q_is (q_z f144 y98 3) 0 := by rw [ef144, q_setz (Or.inr (by decide))]; exact z140
    have z151 : q_is (q_z f144 v 11) x122 := by rw [ef144, q_setz (Or.inr (by decide))]; exact z141
    have z152 : q_is (q_z f144 y98 4) y124 := by rw [ef144, q_setz (Or.inr (by decide))]; exact z142
    have z153 : q_is (q_z f144 y98 5) (-1) := by rw [ef144, q_setz (Or.inr (by decide))]; exact z135
    have z154 : q_ir (q_r f144 v 2) p93 := by rw [ef144, q_setr (Or.inr (by decide))]; exact z143
    refine lv_aload cx.1 cx.2.1 dX10_addMessage_71 (lv_at hl 0 rfl) ?_
    refine lv_iload cx.1 cx.2.1 dX10_addMessage_73 (lv_at hl 5 rfl) ?_
    refine q_pX10_152 cx hB hy98 ky98 ⟨by omega, by omega⟩ (by omega) (by omega) rfl dX10_addMessage_75 (fun H locs f155 ef155 z156 hB => ?_)
    have z157 : q_is (q_z f155 v 5) x91 := by rw [ef155, q_setz (Or.inr (by decide))]; exact z146
    have z158 : q_is (q_z f155 y98 0) p0 := by rw [ef155, q_setz (Or.inr (by decide))]; exact z147
    have z159 : q_is (q_z f155 y98 1) p1 := by rw [ef155, q_setz (Or.inr (by decide))]; exact z148
    have z160 : q_is (q_z f155 y98 2) p0 := by rw [ef155, q_setz (Or.inr (by decide))]; exact z149
    have z161 : q_is (q_z f155 y98 3) 0 := by rw [ef155, q_setz (Or.inr (by decide))]; exact z150
    have z162 : q_is (q_z f155 v 11) x122 := by rw [ef155, q_setz (Or.inr (by decide))]; exact z151
    have z163 : q_is (q_z f155 y98 4) y124 := by rw [ef155, q_setz (Or.inr (by decide))]; exact z152
    have z164 : q_is (q_z f155 y98 5) (-1) := by rw [ef155, q_setz (Or.inr (by decide))]; exact z153
    have z165 : q_is (q_z f155 y98 6) 0 := by rw [ef155, q_setz (Or.inr (by decide))]; exact z145
    have z166 : q_ir (q_r f155 v 2) p93 := by rw [ef155, q_setr (Or.inr (by decide))]; exact z154
    refine q_ald_n cx dX10_addMessage_78 rfl (lv_at hl 1 rfl) ?_
    refine lv_dup cx.1 cx.2.1 dX10_addMessage_79 rfl ?_
    refine q_gX10_42 cx hB hv kv z157 dX10_addMessage_80 (fun lb167 ub167 => ?_)
    refine q_iconst cx dX10_addMessage_83 ?_
    refine q_iadd cx dX10_addMessage_84 ?_
    refine q_pX10_42 cx hB hv kv ⟨by omega, by omega⟩ (by omega) (by omega) rfl dX10_addMessage_85 (fun H locs f168 ef168 z169 hB => ?_)
    have z170 : q_is (q_z f168 y98 0) p0 := by rw [ef168, q_setz (Or.inr (by decide))]; exact z158
    have z171 : q_is (q_z f168 y98 1) p1 := by rw [ef168, q_setz (Or.inr (by decide))]; exact z159
    have z172 : q_is (q_z f168 y98 2) p0 := by rw [ef168, q_setz (Or.inr (by decide))]; exact z160
    have z173 : q_is (q_z f168 y98 3) 0 := by rw [ef168, q_setz (Or.inr (by decide))]; exact z161
    have z174 : q_is (q_z f168 v 11) x122 := by rw [ef168, q_setz (Or.inr (by decide))]; exact z162
    have z175 : q_is (q_z f168 y98 4) y124 := by rw [ef168, q_setz (Or.inr (by decide))]; exact z163
    have z176 : q_is (q_z f168 y98 5) (-1) := by rw [ef168, q_setz (Or.inl (fun q => by rw [q, kv] at ky98; exact absurd ky98 (by decide)))]; exact z164
    have z177 : q_is (q_z f168 y98 6) 0 := by rw [ef168, q_setz (Or.inr (by decide))]; exact z165
    have z178 : q_is (q_z f168 y98 7) p3 := by rw [ef168, q_setz (Or.inr (by decide))]; exact z156
    have z179 : q_ir (q_r f168 v 2) p93 := by rw [ef168, q_setr (Or.inr (by decide))]; exact z166
    refine q_ald_n cx dX10_addMessage_88 rfl (lv_at hl 1 rfl) ?_
    refine q_gX10_42 cx hB hv kv z169 dX10_addMessage_89 (fun lb180 ub180 => ?_)
    refine q_iconst cx dX10_addMessage_92 ?_
    refine q_isub cx dX10_addMessage_93 ?_
    refine q_iret cx hr hlk hB dX10_addMessage_94 ⟨by omega, by omega⟩ ?_
    exact ⟨(by omega), (by omega)⟩
  · refine q_iconst cx dX10_addMessage_12 ?_
    refine q_iret cx hr hlk hB dX10_addMessage_13 ⟨by decide, by decide⟩ ?_
    exact ⟨(by decide), (by decide)⟩
set_option maxHeartbeats 4000000 in
set_option maxRecDepth 100000 in
theorem g_X10_addMessage_1 (l : Launch) (g : q_G) {K : Nat → Nat} {L : List Nat} (hN : L.Nodup) {f : Nat → va_E} (hT : q_Ty g K L f) (v : Nat) (hv : v ∈ L) (kv : K v = 13) (p0 : Int) (lp0 : (-2147483648) ≤ p0) (up0 : p0 ≤ 2147483647) (p1 : Int) (lp1 : (-2147483648) ≤ p1) (up1 : p1 ≤ 2147483647) (p2 : Int) (lp2 : (-2147483648) ≤ p2) (up2 : p2 ≤ 2147483647) (p3 : Int) (lp3 : 0 ≤ p3) (up3 : p3 ≤ 1) : q_Ct l g K L yX10_addMessage cX10_addMessage 6 (some .int) 1 21 [.ref v, .int (q_i p0), .int (q_i p1), .int (q_i p2), .int (q_i p3)] f [(13, 5, 5), (25, 0, 7)] (q_Pi (fun (z : Int) (f1 : Nat → va_E) => (-1) ≤ z ∧ z ≤ 60)) := by
  refine q_ofb (by decide +kernel) hN hT (Nat.le_of_ble_eq_true rfl) ?_
  intro p e s m below meth c ls cx hr hlk hB hl
  have hl : lv_has ls 6 [(0, .ref v), (1, .int (q_i p0)), (2, .int (q_i p1)), (3, .int (q_i p2)), (4, .int (q_i p3))] := hl
  obtain ⟨H, hH⟩ : ∃ H : Heap, H = s.heap := ⟨_, rfl⟩
  obtain ⟨locs, hlocs⟩ : ∃ z : List Loc, z = [] := ⟨_, rfl⟩
  rw [← hH, ← hlocs] at hB
  rw [← hH, ← hlocs]
  refine q_ald_n cx dX10_addMessage_0 rfl (lv_at hl 0 rfl) ?_
  obtain ⟨x91, ex91⟩ : ∃ zz, q_is (q_z f v 5) zz := ⟨_, q_isr _⟩
  refine q_gX10_42_13 cx hB hv kv ex91 dX10_addMessage_1 (fun lb92 ub92 => ?_)
  refine q_ald_n cx dX10_addMessage_4 rfl (lv_at hl 0 rfl) ?_
  obtain ⟨p93, ep93⟩ : ∃ zz, q_ir (q_r f v 2) zz := ⟨_, q_irr _⟩
  refine q_gX10_25_13 cx hB hv kv ep93 dX10_addMessage_5 (fun hb94 kb94 => ?_)
  refine q_alen (n := 61) cx hB hb94 kb94 (by decide) rfl 6 rfl rfl dX10_addMessage_8 ?_
  refine q_iclt (tgt := 14) cx ⟨by omega, by omega⟩ ⟨by decide, by decide⟩ dX10_addMessage_9 (by decide) (fun c95 => ?_) (fun c95 => ?_)
  · refine q_ald_n cx dX10_addMessage_14 rfl (lv_at hl 0 rfl) ?_
    refine q_ald_n cx dX10_addMessage_15 rfl (lv_at hl 0 rfl) ?_
    refine q_gX10_42_13 cx hB hv kv ex91 dX10_addMessage_16 (fun lb96 ub96 => ?_)
    refine q_cVr (As := [.int (q_i x91)]) (rest := []) cx hB (fun _ h => h) hN hv kv (by decide) rfl (g_X10_messageAt_1 l g hN hB.2.1 v hv kv x91 (by omega) (by omega)) q_cX10_81 q_dX10_messageAt (by decide) rfl rfl hl.1 rfl (Nat.le_of_ble_eq_true rfl) dX10_addMessage_19 (fun y98 H locs f97 h99 hF hB => ?_)
    obtain ⟨rfl, hy98, ky98⟩ := h99
    refine lv_astore (lv' := [(5, .ref y98), (0, .ref v), (1, .int (q_i p0)), (2, .int (q_i p1)), (3, .int (q_i p2)), (4, .int (q_i p3))]) cx.1 cx.2.1 dX10_addMessage_22 hl (by decide) rfl (fun ls hl => ?_)
    refine lv_aload cx.1 cx.2.1 dX10_addMessage_24 (lv_at hl 0 rfl) ?_
    refine q_ild_n cx dX10_addMessage_26 rfl (lv_at hl 2 rfl) ?_
    refine q_pX10_131_25 cx hB hy98 ky98 ⟨by omega, by omega⟩ (by omega) (by omega) rfl dX10_addMessage_27 (fun H locs f100 ef100 z101 hB => ?_)
    have z102 : q_is (q_z f100 v 5) x91 := by rw [ef100, q_setz (Or.inr (by decide))]; exact ex91
    have z103 : q_ir (q_r f100 v 2) p93 := by rw [ef100, q_setr (Or.inr (by decide))]; exact ep93
    refine lv_aload cx.1 cx.2.1 dX10_addMessage_30 (lv_at hl 0 rfl) ?_
    refine q_ild_n cx dX10_addMessage_32 rfl (lv_at hl 3 rfl) ?_
    refine q_pX10_134_25 cx hB hy98 ky98 ⟨by omega, by omega⟩ (by omega) (by omega) rfl dX10_addMessage_33 (fun H locs f104 ef104 z105 hB => ?_)
    have z106 : q_is (q_z f104 v 5) x91 := by rw [ef104, q_setz (Or.inr (by decide))]; exact z102
    have z107 : q_is (q_z f104 y98 0) p0 := by rw [ef104, q_setz (Or.inr (by decide))]; exact z101
    have z108 : q_ir (q_r f104 v 2) p93 := by rw [ef104, q_setr (Or.inr (by decide))]; exact z103
    refine lv_aload cx.1 cx.2.1 dX10_addMessage_36 (lv_at hl 0 rfl) ?_
    refine q_ild_n cx dX10_addMessage_38 rfl (lv_at hl 2 rfl) ?_
    refine q_pX10_137_25 cx hB hy98 ky98 ⟨by omega, by omega⟩ (by omega) (by omega) rfl dX10_addMessage_39 (fun H locs f109 ef109 z110 hB => ?_)
    have z111 : q_is (q_z f109 v 5) x91 := by rw [ef109, q_setz (Or.inr (by decide))]; exact z106
    have z112 : q_is (q_z f109 y98 0) p0 := by rw [ef109, q_setz (Or.inr (by decide))]; exact z107
    have z113 : q_is (q_z f109 y98 1) p1 := by rw [ef109, q_setz (Or.inr (by decide))]; exact z105
    have z114 : q_ir (q_r f109 v 2) p93 := by rw [ef109, q_setr (Or.inl (fun q => by rw [q, ky98] at kv; exact absurd kv (by decide)))]; exact z108
    refine lv_aload cx.1 cx.2.1 dX10_addMessage_42 (lv_at hl 0 rfl) ?_
    refine q_iconst cx dX10_addMessage_44 ?_
    refine q_pX10_140_25 cx hB hy98 ky98 ⟨by decide, by decide⟩ (by decide) (by decide) rfl dX10_addMessage_45 (fun H locs f115 ef115 z116 hB => ?_)
    have z117 : q_is (q_z f115 v 5) x91 := by rw [ef115, q_setz (Or.inr (by decide))]; exact z111
    have z118 : q_is (q_z f115 y98 0) p0 := by rw [ef115, q_setz (Or.inr (by decide))]; exact z112
    have z119 : q_is (q_z f115 y98 1) p1 := by rw [ef115, q_setz (Or.inr (by decide))]; exact z113
    have z120 : q_is (q_z f115 y98 2) p0 := by rw [ef115, q_setz (Or.inr (by decide))]; exact z110
    have z121 : q_ir (q_r f115 v 2) p93 := by rw [ef115, q_setr (Or.inr (by decide))]; exact z114
    refine lv_aload cx.1 cx.2.1 dX10_addMessage_48 (lv_at hl 0 rfl) ?_
    refine q_ald_n cx dX10_addMessage_50 rfl (lv_at hl 1 rfl) ?_
    obtain ⟨x122, ex122⟩ : ∃ zz, q_is (q_z f115 v 11) zz := ⟨_, q_isr _⟩
    refine q_gX10_60_13 cx hB hv kv ex122 dX10_addMessage_51 (fun lb123 ub123 => ?_)
    refine q_ild_n cx dX10_addMessage_54 rfl (lv_at hl 4 rfl) ?_
    refine q_iadd cx dX10_addMessage_55 ?_
    refine q_any (fun y124 ry124 ey124 => ?_)
    refine q_pX10_143_25 cx hB hy98 ky98 ⟨by omega, by omega⟩ (by omega) (by omega) rfl dX10_addMessage_56 (fun H locs f125 ef125 z126 hB => ?_)
    have z127 : q_is (q_z f125 v 5) x91 := by rw [ef125, q_setz (Or.inr (by decide))]; exact z117
    have z128 : q_is (q_z f125 y98 0) p0 := by rw [ef125, q_setz (Or.inr (by decide))]; exact z118
    have z129 : q_is (q_z f125 y98 1) p1 := by rw [ef125, q_setz (Or.inr (by decide))]; exact z119
    have z130 : q_is (q_z f125 y98 2) p0 := by rw [ef125, q_setz (Or.inr (by decide))]; exact z120
    have z131 : q_is (q_z f125 y98 3) 0 := by rw [ef125, q_setz (Or.inr (by decide))]; exact z116
    have z132 : q_is (q_z f125 v 11) x122 := by rw [ef125, q_setz (Or.inr (by decide))]; exact ex122
    have z133 : q_ir (q_r f125 v 2) p93 := by rw [ef125, q_setr (Or.inr (by decide))]; exact z121
    refine lv_aload cx.1 cx.2.1 dX10_addMessage_59 (lv_at hl 0 rfl) ?_
    refine q_iconst cx dX10_addMessage_61 ?_
    refine q_pX10_146_25 cx hB hy98 ky98 ⟨by decide, by decide⟩ (by decide) (by decide) rfl dX10_addMessage_62 (fun H locs f134 ef134 z135 hB => ?_)
    have z136 : q_is (q_z f134 v 5) x91 := by rw [ef134, q_setz (Or.inl (fun q => by rw [q, ky98] at kv; exact absurd kv (by decide)))]; exact z127
    have z137 : q_is (q_z f134 y98 0) p0 := by rw [ef134, q_setz (Or.inr (by decide))]; exact z128
    have z138 : q_is (q_z f134 y98 1) p1 := by rw [ef134, q_setz (Or.inr (by decide))]; exact z129
    have z139 : q_is (q_z f134 y98 2) p0 := by rw [ef134, q_setz (Or.inr (by decide))]; exact z130
    have z140 : q_is (q_z f134 y98 3) 0 := by rw [ef134, q_setz (Or.inr (by decide))]; exact z131
    have z141 : q_is (q_z f134 v 11) x122 := by rw [ef134, q_setz (Or.inr (by decide))]; exact z132
    have z142 : q_is (q_z f134 y98 4) y124 := by rw [ef134, q_setz (Or.inr (by decide))]; exact z126
    have z143 : q_ir (q_r f134 v 2) p93 := by rw [ef134, q_setr (Or.inr (by decide))]; exact z133
    refine lv_aload cx.1 cx.2.1 dX10_addMessage_65 (lv_at hl 0 rfl) ?_
    refine q_iconst cx dX10_addMessage_67 ?_
    refine q_pX10_149_25 cx hB hy98 ky98 ⟨by decide, by decide⟩ (by decide) (by decide) rfl dX10_addMessage_68 (fun H locs f144 ef144 z145 hB => ?_)
    have z146 : q_is (q_z f144 v 5) x91 := by rw [ef144, q_setz (Or.inr (by decide))]; exact z136
    have z147 : q_is (q_z f144 y98 0) p0 := by rw [ef144, q_setz (Or.inr (by decide))]; exact z137
    have z148 : q_is (q_z f144 y98 1) p1 := by rw [ef144, q_setz (Or.inr (by decide))]; exact z138
    have z149 : q_is (q_z f144 y98 2) p0 := by rw [ef144, q_setz (Or.inr (by decide))]; exact z139
    have z150 : q_is (q_z f144 y98 3) 0 := by rw [ef144, q_setz (Or.inr (by decide))]; exact z140
    have z151 : q_is (q_z f144 v 11) x122 := by rw [ef144, q_setz (Or.inr (by decide))]; exact z141
    have z152 : q_is (q_z f144 y98 4) y124 := by rw [ef144, q_setz (Or.inr (by decide))]; exact z142
    have z153 : q_is (q_z f144 y98 5) (-1) := by rw [ef144, q_setz (Or.inr (by decide))]; exact z135
    have z154 : q_ir (q_r f144 v 2) p93 := by rw [ef144, q_setr (Or.inr (by decide))]; exact z143
    refine lv_aload cx.1 cx.2.1 dX10_addMessage_71 (lv_at hl 0 rfl) ?_
    refine lv_iload cx.1 cx.2.1 dX10_addMessage_73 (lv_at hl 5 rfl) ?_
    refine q_pX10_152_25 cx hB hy98 ky98 ⟨by omega, by omega⟩ (by omega) (by omega) rfl dX10_addMessage_75 (fun H locs f155 ef155 z156 hB => ?_)
    have z157 : q_is (q_z f155 v 5) x91 := by rw [ef155, q_setz (Or.inr (by decide))]; exact z146
    have z158 : q_is (q_z f155 y98 0) p0 := by rw [ef155, q_setz (Or.inr (by decide))]; exact z147
    have z159 : q_is (q_z f155 y98 1) p1 := by rw [ef155, q_setz (Or.inr (by decide))]; exact z148
    have z160 : q_is (q_z f155 y98 2) p0 := by rw [ef155, q_setz (Or.inr (by decide))]; exact z149
    have z161 : q_is (q_z f155 y98 3) 0 := by rw [ef155, q_setz (Or.inr (by decide))]; exact z150
    have z162 : q_is (q_z f155 v 11) x122 := by rw [ef155, q_setz (Or.inr (by decide))]; exact z151
    have z163 : q_is (q_z f155 y98 4) y124 := by rw [ef155, q_setz (Or.inr (by decide))]; exact z152
    have z164 : q_is (q_z f155 y98 5) (-1) := by rw [ef155, q_setz (Or.inr (by decide))]; exact z153
    have z165 : q_is (q_z f155 y98 6) 0 := by rw [ef155, q_setz (Or.inr (by decide))]; exact z145
    have z166 : q_ir (q_r f155 v 2) p93 := by rw [ef155, q_setr (Or.inr (by decide))]; exact z154
    refine q_ald_n cx dX10_addMessage_78 rfl (lv_at hl 1 rfl) ?_
    refine lv_dup cx.1 cx.2.1 dX10_addMessage_79 rfl ?_
    refine q_gX10_42_13 cx hB hv kv z157 dX10_addMessage_80 (fun lb167 ub167 => ?_)
    refine q_iconst cx dX10_addMessage_83 ?_
    refine q_iadd cx dX10_addMessage_84 ?_
    refine q_pX10_42_13 cx hB hv kv ⟨by omega, by omega⟩ (by omega) (by omega) rfl dX10_addMessage_85 (fun H locs f168 ef168 z169 hB => ?_)
    have z170 : q_is (q_z f168 y98 0) p0 := by rw [ef168, q_setz (Or.inr (by decide))]; exact z158
    have z171 : q_is (q_z f168 y98 1) p1 := by rw [ef168, q_setz (Or.inr (by decide))]; exact z159
    have z172 : q_is (q_z f168 y98 2) p0 := by rw [ef168, q_setz (Or.inr (by decide))]; exact z160
    have z173 : q_is (q_z f168 y98 3) 0 := by rw [ef168, q_setz (Or.inr (by decide))]; exact z161
    have z174 : q_is (q_z f168 v 11) x122 := by rw [ef168, q_setz (Or.inr (by decide))]; exact z162
    have z175 : q_is (q_z f168 y98 4) y124 := by rw [ef168, q_setz (Or.inr (by decide))]; exact z163
    have z176 : q_is (q_z f168 y98 5) (-1) := by rw [ef168, q_setz (Or.inl (fun q => by rw [q, kv] at ky98; exact absurd ky98 (by decide)))]; exact z164
    have z177 : q_is (q_z f168 y98 6) 0 := by rw [ef168, q_setz (Or.inr (by decide))]; exact z165
    have z178 : q_is (q_z f168 y98 7) p3 := by rw [ef168, q_setz (Or.inr (by decide))]; exact z156
    have z179 : q_ir (q_r f168 v 2) p93 := by rw [ef168, q_setr (Or.inr (by decide))]; exact z166
    refine q_ald_n cx dX10_addMessage_88 rfl (lv_at hl 1 rfl) ?_
    refine q_gX10_42_13 cx hB hv kv z169 dX10_addMessage_89 (fun lb180 ub180 => ?_)
    refine q_iconst cx dX10_addMessage_92 ?_
    refine q_isub cx dX10_addMessage_93 ?_
    refine q_iret cx hr hlk hB dX10_addMessage_94 ⟨by omega, by omega⟩ ?_
    exact ⟨(by omega), (by omega)⟩
  · refine q_iconst cx dX10_addMessage_12 ?_
    refine q_iret cx hr hlk hB dX10_addMessage_13 ⟨by decide, by decide⟩ ?_
    exact ⟨(by decide), (by decide)⟩
set_option maxHeartbeats 4000000 in
set_option maxRecDepth 100000 in
theorem g_X10_addMessage_2 (l : Launch) (g : q_G) {K : Nat → Nat} {L : List Nat} (hN : L.Nodup) {f : Nat → va_E} (hT : q_Ty g K L f) (v : Nat) (hv : v ∈ L) (kv : K v = 14) (p0 : Int) (lp0 : (-2147483648) ≤ p0) (up0 : p0 ≤ 2147483647) (p1 : Int) (lp1 : (-2147483648) ≤ p1) (up1 : p1 ≤ 2147483647) (p2 : Int) (lp2 : (-2147483648) ≤ p2) (up2 : p2 ≤ 2147483647) (p3 : Int) (lp3 : 0 ≤ p3) (up3 : p3 ≤ 1) : q_Ct l g K L yX10_addMessage cX10_addMessage 6 (some .int) 1 21 [.ref v, .int (q_i p0), .int (q_i p1), .int (q_i p2), .int (q_i p3)] f [(14, 5, 5), (26, 0, 7)] (q_Pi (fun (z : Int) (f1 : Nat → va_E) => (-1) ≤ z ∧ z ≤ 60)) := by
  refine q_ofb (by decide +kernel) hN hT (Nat.le_of_ble_eq_true rfl) ?_
  intro p e s m below meth c ls cx hr hlk hB hl
  have hl : lv_has ls 6 [(0, .ref v), (1, .int (q_i p0)), (2, .int (q_i p1)), (3, .int (q_i p2)), (4, .int (q_i p3))] := hl
  obtain ⟨H, hH⟩ : ∃ H : Heap, H = s.heap := ⟨_, rfl⟩
  obtain ⟨locs, hlocs⟩ : ∃ z : List Loc, z = [] := ⟨_, rfl⟩
  rw [← hH, ← hlocs] at hB
  rw [← hH, ← hlocs]
  refine q_ald_n cx dX10_addMessage_0 rfl (lv_at hl 0 rfl) ?_
  obtain ⟨x91, ex91⟩ : ∃ zz, q_is (q_z f v 5) zz := ⟨_, q_isr _⟩
  refine q_gX10_42_14 cx hB hv kv ex91 dX10_addMessage_1 (fun lb92 ub92 => ?_)
  refine q_ald_n cx dX10_addMessage_4 rfl (lv_at hl 0 rfl) ?_
  obtain ⟨p93, ep93⟩ : ∃ zz, q_ir (q_r f v 2) zz := ⟨_, q_irr _⟩
  refine q_gX10_25_14 cx hB hv kv ep93 dX10_addMessage_5 (fun hb94 kb94 => ?_)
  refine q_alen (n := 61) cx hB hb94 kb94 (by decide) rfl 6 rfl rfl dX10_addMessage_8 ?_
  refine q_iclt (tgt := 14) cx ⟨by omega, by omega⟩ ⟨by decide, by decide⟩ dX10_addMessage_9 (by decide) (fun c95 => ?_) (fun c95 => ?_)
  · refine q_ald_n cx dX10_addMessage_14 rfl (lv_at hl 0 rfl) ?_
    refine q_ald_n cx dX10_addMessage_15 rfl (lv_at hl 0 rfl) ?_
    refine q_gX10_42_14 cx hB hv kv ex91 dX10_addMessage_16 (fun lb96 ub96 => ?_)
    refine q_cVr (As := [.int (q_i x91)]) (rest := []) cx hB (fun _ h => h) hN hv kv (by decide) rfl (g_X10_messageAt_2 l g hN hB.2.1 v hv kv x91 (by omega) (by omega)) q_cX10_81 q_dX10_messageAt (by decide) rfl rfl hl.1 rfl (Nat.le_of_ble_eq_true rfl) dX10_addMessage_19 (fun y98 H locs f97 h99 hF hB => ?_)
    obtain ⟨rfl, hy98, ky98⟩ := h99
    refine lv_astore (lv' := [(5, .ref y98), (0, .ref v), (1, .int (q_i p0)), (2, .int (q_i p1)), (3, .int (q_i p2)), (4, .int (q_i p3))]) cx.1 cx.2.1 dX10_addMessage_22 hl (by decide) rfl (fun ls hl => ?_)
    refine lv_aload cx.1 cx.2.1 dX10_addMessage_24 (lv_at hl 0 rfl) ?_
    refine q_ild_n cx dX10_addMessage_26 rfl (lv_at hl 2 rfl) ?_
    refine q_pX10_131_26 cx hB hy98 ky98 ⟨by omega, by omega⟩ (by omega) (by omega) rfl dX10_addMessage_27 (fun H locs f100 ef100 z101 hB => ?_)
    have z102 : q_is (q_z f100 v 5) x91 := by rw [ef100, q_setz (Or.inr (by decide))]; exact ex91
    have z103 : q_ir (q_r f100 v 2) p93 := by rw [ef100, q_setr (Or.inr (by decide))]; exact ep93
    refine lv_aload cx.1 cx.2.1 dX10_addMessage_30 (lv_at hl 0 rfl) ?_
    refine q_ild_n cx dX10_addMessage_32 rfl (lv_at hl 3 rfl) ?_
    refine q_pX10_134_26 cx hB hy98 ky98 ⟨by omega, by omega⟩ (by omega) (by omega) rfl dX10_addMessage_33 (fun H locs f104 ef104 z105 hB => ?_)
    have z106 : q_is (q_z f104 v 5) x91 := by rw [ef104, q_setz (Or.inr (by decide))]; exact z102
    have z107 : q_is (q_z f104 y98 0) p0 := by rw [ef104, q_setz (Or.inr (by decide))]; exact z101
    have z108 : q_ir (q_r f104 v 2) p93 := by rw [ef104, q_setr (Or.inr (by decide))]; exact z103
    refine lv_aload cx.1 cx.2.1 dX10_addMessage_36 (lv_at hl 0 rfl) ?_
    refine q_ild_n cx dX10_addMessage_38 rfl (lv_at hl 2 rfl) ?_
    refine q_pX10_137_26 cx hB hy98 ky98 ⟨by omega, by omega⟩ (by omega) (by omega) rfl dX10_addMessage_39 (fun H locs f109 ef109 z110 hB => ?_)
    have z111 : q_is (q_z f109 v 5) x91 := by rw [ef109, q_setz (Or.inr (by decide))]; exact z106
    have z112 : q_is (q_z f109 y98 0) p0 := by rw [ef109, q_setz (Or.inr (by decide))]; exact z107
    have z113 : q_is (q_z f109 y98 1) p1 := by rw [ef109, q_setz (Or.inr (by decide))]; exact z105
    have z114 : q_ir (q_r f109 v 2) p93 := by rw [ef109, q_setr (Or.inl (fun q => by rw [q, ky98] at kv; exact absurd kv (by decide)))]; exact z108
    refine lv_aload cx.1 cx.2.1 dX10_addMessage_42 (lv_at hl 0 rfl) ?_
    refine q_iconst cx dX10_addMessage_44 ?_
    refine q_pX10_140_26 cx hB hy98 ky98 ⟨by decide, by decide⟩ (by decide) (by decide) rfl dX10_addMessage_45 (fun H locs f115 ef115 z116 hB => ?_)
    have z117 : q_is (q_z f115 v 5) x91 := by rw [ef115, q_setz (Or.inr (by decide))]; exact z111
    have z118 : q_is (q_z f115 y98 0) p0 := by rw [ef115, q_setz (Or.inr (by decide))]; exact z112
    have z119 : q_is (q_z f115 y98 1) p1 := by rw [ef115, q_setz (Or.inr (by decide))]; exact z113
    have z120 : q_is (q_z f115 y98 2) p0 := by rw [ef115, q_setz (Or.inr (by decide))]; exact z110
    have z121 : q_ir (q_r f115 v 2) p93 := by rw [ef115, q_setr (Or.inr (by decide))]; exact z114
    refine lv_aload cx.1 cx.2.1 dX10_addMessage_48 (lv_at hl 0 rfl) ?_
    refine q_ald_n cx dX10_addMessage_50 rfl (lv_at hl 1 rfl) ?_
    obtain ⟨x122, ex122⟩ : ∃ zz, q_is (q_z f115 v 11) zz := ⟨_, q_isr _⟩
    refine q_gX10_60_14 cx hB hv kv ex122 dX10_addMessage_51 (fun lb123 ub123 => ?_)
    refine q_ild_n cx dX10_addMessage_54 rfl (lv_at hl 4 rfl) ?_
    refine q_iadd cx dX10_addMessage_55 ?_
    refine q_any (fun y124 ry124 ey124 => ?_)
    refine q_pX10_143_26 cx hB hy98 ky98 ⟨by omega, by omega⟩ (by omega) (by omega) rfl dX10_addMessage_56 (fun H locs f125 ef125 z126 hB => ?_)
    have z127 : q_is (q_z f125 v 5) x91 := by rw [ef125, q_setz (Or.inr (by decide))]; exact z117
    have z128 : q_is (q_z f125 y98 0) p0 := by rw [ef125, q_setz (Or.inr (by decide))]; exact z118
    have z129 : q_is (q_z f125 y98 1) p1 := by rw [ef125, q_setz (Or.inr (by decide))]; exact z119
    have z130 : q_is (q_z f125 y98 2) p0 := by rw [ef125, q_setz (Or.inr (by decide))]; exact z120
    have z131 : q_is (q_z f125 y98 3) 0 := by rw [ef125, q_setz (Or.inr (by decide))]; exact z116
    have z132 : q_is (q_z f125 v 11) x122 := by rw [ef125, q_setz (Or.inr (by decide))]; exact ex122
    have z133 : q_ir (q_r f125 v 2) p93 := by rw [ef125, q_setr (Or.inr (by decide))]; exact z121
    refine lv_aload cx.1 cx.2.1 dX10_addMessage_59 (lv_at hl 0 rfl) ?_
    refine q_iconst cx dX10_addMessage_61 ?_
    refine q_pX10_146_26 cx hB hy98 ky98 ⟨by decide, by decide⟩ (by decide) (by decide) rfl dX10_addMessage_62 (fun H locs f134 ef134 z135 hB => ?_)
    have z136 : q_is (q_z f134 v 5) x91 := by rw [ef134, q_setz (Or.inl (fun q => by rw [q, ky98] at kv; exact absurd kv (by decide)))]; exact z127
    have z137 : q_is (q_z f134 y98 0) p0 := by rw [ef134, q_setz (Or.inr (by decide))]; exact z128
    have z138 : q_is (q_z f134 y98 1) p1 := by rw [ef134, q_setz (Or.inr (by decide))]; exact z129
    have z139 : q_is (q_z f134 y98 2) p0 := by rw [ef134, q_setz (Or.inr (by decide))]; exact z130
    have z140 : q_is (q_z f134 y98 3) 0 := by rw [ef134, q_setz (Or.inr (by decide))]; exact z131
    have z141 : q_is (q_z f134 v 11) x122 := by rw [ef134, q_setz (Or.inr (by decide))]; exact z132
    have z142 : q_is (q_z f134 y98 4) y124 := by rw [ef134, q_setz (Or.inr (by decide))]; exact z126
    have z143 : q_ir (q_r f134 v 2) p93 := by rw [ef134, q_setr (Or.inr (by decide))]; exact z133
    refine lv_aload cx.1 cx.2.1 dX10_addMessage_65 (lv_at hl 0 rfl) ?_
    refine q_iconst cx dX10_addMessage_67 ?_
    refine q_pX10_149_26 cx hB hy98 ky98 ⟨by decide, by decide⟩ (by decide) (by decide) rfl dX10_addMessage_68 (fun H locs f144 ef144 z145 hB => ?_)
    have z146 : q_is (q_z f144 v 5) x91 := by rw [ef144, q_setz (Or.inr (by decide))]; exact z136
    have z147 : q_is (q_z f144 y98 0) p0 := by rw [ef144, q_setz (Or.inr (by decide))]; exact z137
    have z148 : q_is (q_z f144 y98 1) p1 := by rw [ef144, q_setz (Or.inr (by decide))]; exact z138
    have z149 : q_is (q_z f144 y98 2) p0 := by rw [ef144, q_setz (Or.inr (by decide))]; exact z139
    have z150 : q_is (q_z f144 y98 3) 0 := by rw [ef144, q_setz (Or.inr (by decide))]; exact z140
    have z151 : q_is (q_z f144 v 11) x122 := by rw [ef144, q_setz (Or.inr (by decide))]; exact z141
    have z152 : q_is (q_z f144 y98 4) y124 := by rw [ef144, q_setz (Or.inr (by decide))]; exact z142
    have z153 : q_is (q_z f144 y98 5) (-1) := by rw [ef144, q_setz (Or.inr (by decide))]; exact z135
    have z154 : q_ir (q_r f144 v 2) p93 := by rw [ef144, q_setr (Or.inr (by decide))]; exact z143
    refine lv_aload cx.1 cx.2.1 dX10_addMessage_71 (lv_at hl 0 rfl) ?_
    refine lv_iload cx.1 cx.2.1 dX10_addMessage_73 (lv_at hl 5 rfl) ?_
    refine q_pX10_152_26 cx hB hy98 ky98 ⟨by omega, by omega⟩ (by omega) (by omega) rfl dX10_addMessage_75 (fun H locs f155 ef155 z156 hB => ?_)
    have z157 : q_is (q_z f155 v 5) x91 := by rw [ef155, q_setz (Or.inr (by decide))]; exact z146
    have z158 : q_is (q_z f155 y98 0) p0 := by rw [ef155, q_setz (Or.inr (by decide))]; exact z147
    have z159 : q_is (q_z f155 y98 1) p1 := by rw [ef155, q_setz (Or.inr (by decide))]; exact z148
    have z160 : q_is (q_z f155 y98 2) p0 := by rw [ef155, q_setz (Or.inr (by decide))]; exact z149
    have z161 : q_is (q_z f155 y98 3) 0 := by rw [ef155, q_setz (Or.inr (by decide))]; exact z150
    have z162 : q_is (q_z f155 v 11) x122 := by rw [ef155, q_setz (Or.inr (by decide))]; exact z151
    have z163 : q_is (q_z f155 y98 4) y124 := by rw [ef155, q_setz (Or.inr (by decide))]; exact z152
    have z164 : q_is (q_z f155 y98 5) (-1) := by rw [ef155, q_setz (Or.inr (by decide))]; exact z153
    have z165 : q_is (q_z f155 y98 6) 0 := by rw [ef155, q_setz (Or.inr (by decide))]; exact z145
    have z166 : q_ir (q_r f155 v 2) p93 := by rw [ef155, q_setr (Or.inr (by decide))]; exact z154
    refine q_ald_n cx dX10_addMessage_78 rfl (lv_at hl 1 rfl) ?_
    refine lv_dup cx.1 cx.2.1 dX10_addMessage_79 rfl ?_
    refine q_gX10_42_14 cx hB hv kv z157 dX10_addMessage_80 (fun lb167 ub167 => ?_)
    refine q_iconst cx dX10_addMessage_83 ?_
    refine q_iadd cx dX10_addMessage_84 ?_
    refine q_pX10_42_14 cx hB hv kv ⟨by omega, by omega⟩ (by omega) (by omega) rfl dX10_addMessage_85 (fun H locs f168 ef168 z169 hB => ?_)
    have z170 : q_is (q_z f168 y98 0) p0 := by rw [ef168, q_setz (Or.inr (by decide))]; exact z158
    have z171 : q_is (q_z f168 y98 1) p1 := by rw [ef168, q_setz (Or.inr (by decide))]; exact z159
    have z172 : q_is (q_z f168 y98 2) p0 := by rw [ef168, q_setz (Or.inr (by decide))]; exact z160
    have z173 : q_is (q_z f168 y98 3) 0 := by rw [ef168, q_setz (Or.inr (by decide))]; exact z161
    have z174 : q_is (q_z f168 v 11) x122 := by rw [ef168, q_setz (Or.inr (by decide))]; exact z162
    have z175 : q_is (q_z f168 y98 4) y124 := by rw [ef168, q_setz (Or.inr (by decide))]; exact z163
    have z176 : q_is (q_z f168 y98 5) (-1) := by rw [ef168, q_setz (Or.inl (fun q => by rw [q, kv] at ky98; exact absurd ky98 (by decide)))]; exact z164
    have z177 : q_is (q_z f168 y98 6) 0 := by rw [ef168, q_setz (Or.inr (by decide))]; exact z165
    have z178 : q_is (q_z f168 y98 7) p3 := by rw [ef168, q_setz (Or.inr (by decide))]; exact z156
    have z179 : q_ir (q_r f168 v 2) p93 := by rw [ef168, q_setr (Or.inr (by decide))]; exact z166
    refine q_ald_n cx dX10_addMessage_88 rfl (lv_at hl 1 rfl) ?_
    refine q_gX10_42_14 cx hB hv kv z169 dX10_addMessage_89 (fun lb180 ub180 => ?_)
    refine q_iconst cx dX10_addMessage_92 ?_
    refine q_isub cx dX10_addMessage_93 ?_
    refine q_iret cx hr hlk hB dX10_addMessage_94 ⟨by omega, by omega⟩ ?_
    exact ⟨(by omega), (by omega)⟩
  · refine q_iconst cx dX10_addMessage_12 ?_
    refine q_iret cx hr hlk hB dX10_addMessage_13 ⟨by decide, by decide⟩ ?_
    exact ⟨(by decide), (by decide)⟩
set_option maxHeartbeats 4000000 in
set_option maxRecDepth 100000 in
theorem g_X10_addMessage_3 (l : Launch) (g : q_G) {K : Nat → Nat} {L : List Nat} (hN : L.Nodup) {f : Nat → va_E} (hT : q_Ty g K L f) (v : Nat) (hv : v ∈ L) (kv : K v = 15) (p0 : Int) (lp0 : (-2147483648) ≤ p0) (up0 : p0 ≤ 2147483647) (p1 : Int) (lp1 : (-2147483648) ≤ p1) (up1 : p1 ≤ 2147483647) (p2 : Int) (lp2 : (-2147483648) ≤ p2) (up2 : p2 ≤ 2147483647) (p3 : Int) (lp3 : 0 ≤ p3) (up3 : p3 ≤ 1) : q_Ct l g K L yX10_addMessage cX10_addMessage 6 (some .int) 1 21 [.ref v, .int (q_i p0), .int (q_i p1), .int (q_i p2), .int (q_i p3)] f [(15, 5, 5), (27, 0, 7)] (q_Pi (fun (z : Int) (f1 : Nat → va_E) => (-1) ≤ z ∧ z ≤ 60)) := by
  refine q_ofb (by decide +kernel) hN hT (Nat.le_of_ble_eq_true rfl) ?_
  intro p e s m below meth c ls cx hr hlk hB hl
  have hl : lv_has ls 6 [(0, .ref v), (1, .int (q_i p0)), (2, .int (q_i p1)), (3, .int (q_i p2)), (4, .int (q_i p3))] := hl
  obtain ⟨H, hH⟩ : ∃ H : Heap, H = s.heap := ⟨_, rfl⟩
  obtain ⟨locs, hlocs⟩ : ∃ z : List Loc, z = [] := ⟨_, rfl⟩
  rw [← hH, ← hlocs] at hB
  rw [← hH, ← hlocs]
  refine q_ald_n cx dX10_addMessage_0 rfl (lv_at hl 0 rfl) ?_
  obtain ⟨x91, ex91⟩ : ∃ zz, q_is (q_z f v 5) zz := ⟨_, q_isr _⟩
  refine q_gX10_42_15 cx hB hv kv ex91 dX10_addMessage_1 (fun lb92 ub92 => ?_)
  refine q_ald_n cx dX10_addMessage_4 rfl (lv_at hl 0 rfl) ?_
  obtain ⟨p93, ep93⟩ : ∃ zz, q_ir (q_r f v 2) zz := ⟨_, q_irr _⟩
  refine q_gX10_25_15 cx hB hv kv ep93 dX10_addMessage_5 (fun hb94 kb94 => ?_)
  refine q_alen (n := 61) cx hB hb94 kb94 (by decide) rfl 6 rfl rfl dX10_addMessage_8 ?_
  refine q_iclt (tgt := 14) cx ⟨by omega, by omega⟩ ⟨by decide, by decide⟩ dX10_addMessage_9 (by decide) (fun c95 => ?_) (fun c95 => ?_)
  · refine q_ald_n cx dX10_addMessage_14 rfl (lv_at hl 0 rfl) ?_
    refine q_ald_n cx dX10_addMessage_15 rfl (lv_at hl 0 rfl) ?_
    refine q_gX10_42_15 cx hB hv kv ex91 dX10_addMessage_16 (fun lb96 ub96 => ?_)
    refine q_cVr (As := [.int (q_i x91)]) (rest := []) cx hB (fun _ h => h) hN hv kv (by decide) rfl (g_X10_messageAt_3 l g hN hB.2.1 v hv kv x91 (by omega) (by omega)) q_cX10_81 q_dX10_messageAt (by decide) rfl rfl hl.1 rfl (Nat.le_of_ble_eq_true rfl) dX10_addMessage_19 (fun y98 H locs f97 h99 hF hB => ?_)
    obtain ⟨rfl, hy98, ky98⟩ := h99
    refine lv_astore (lv' := [(5, .ref y98), (0, .ref v), (1, .int (q_i p0)), (2, .int (q_i p1)), (3, .int (q_i p2)), (4, .int (q_i p3))]) cx.1 cx.2.1 dX10_addMessage_22 hl (by decide) rfl (fun ls hl => ?_)
    refine lv_aload cx.1 cx.2.1 dX10_addMessage_24 (lv_at hl 0 rfl) ?_
    refine q_ild_n cx dX10_addMessage_26 rfl (lv_at hl 2 rfl) ?_
    refine q_pX10_131_27 cx hB hy98 ky98 ⟨by omega, by omega⟩ (by omega) (by omega) rfl dX10_addMessage_27 (fun H locs f100 ef100 z101 hB => ?_)
    have z102 : q_is (q_z f100 v 5) x91 := by rw [ef100, q_setz (Or.inr (by decide))]; exact ex91
    have z103 : q_ir (q_r f100 v 2) p93 := by rw [ef100, q_setr (Or.inr (by decide))]; exact ep93
    refine lv_aload cx.1 cx.2.1 dX10_addMessage_30 (lv_at hl 0 rfl) ?_
    refine q_ild_n cx dX10_addMessage_32 rfl (lv_at hl 3 rfl) ?_
    refine q_pX10_134_27 cx hB hy98 ky98 ⟨by omega, by omega⟩ (by omega) (by omega) rfl dX10_addMessage_33 (fun H locs f104 ef104 z105 hB => ?_)
    have z106 : q_is (q_z f104 v 5) x91 := by rw [ef104, q_setz (Or.inr (by decide))]; exact z102
    have z107 : q_is (q_z f104 y98 0) p0 := by rw [ef104, q_setz (Or.inr (by decide))]; exact z101
    have z108 : q_ir (q_r f104 v 2) p93 := by rw [ef104, q_setr (Or.inr (by decide))]; exact z103
    refine lv_aload cx.1 cx.2.1 dX10_addMessage_36 (lv_at hl 0 rfl) ?_
    refine q_ild_n cx dX10_addMessage_38 rfl (lv_at hl 2 rfl) ?_
    refine q_pX10_137_27 cx hB hy98 ky98 ⟨by omega, by omega⟩ (by omega) (by omega) rfl dX10_addMessage_39 (fun H locs f109 ef109 z110 hB => ?_)
    have z111 : q_is (q_z f109 v 5) x91 := by rw [ef109, q_setz (Or.inr (by decide))]; exact z106
    have z112 : q_is (q_z f109 y98 0) p0 := by rw [ef109, q_setz (Or.inr (by decide))]; exact z107
    have z113 : q_is (q_z f109 y98 1) p1 := by rw [ef109, q_setz (Or.inr (by decide))]; exact z105
    have z114 : q_ir (q_r f109 v 2) p93 := by rw [ef109, q_setr (Or.inl (fun q => by rw [q, ky98] at kv; exact absurd kv (by decide)))]; exact z108
    refine lv_aload cx.1 cx.2.1 dX10_addMessage_42 (lv_at hl 0 rfl) ?_
    refine q_iconst cx dX10_addMessage_44 ?_
    refine q_pX10_140_27 cx hB hy98 ky98 ⟨by decide, by decide⟩ (by decide) (by decide) rfl dX10_addMessage_45 (fun H locs f115 ef115 z116 hB => ?_)
    have z117 : q_is (q_z f115 v 5) x91 := by rw [ef115, q_setz (Or.inr (by decide))]; exact z111
    have z118 : q_is (q_z f115 y98 0) p0 := by rw [ef115, q_setz (Or.inr (by decide))]; exact z112
    have z119 : q_is (q_z f115 y98 1) p1 := by rw [ef115, q_setz (Or.inr (by decide))]; exact z113
    have z120 : q_is (q_z f115 y98 2) p0 := by rw [ef115, q_setz (Or.inr (by decide))]; exact z110
    have z121 : q_ir (q_r f115 v 2) p93 := by rw [ef115, q_setr (Or.inr (by decide))]; exact z114
    refine lv_aload cx.1 cx.2.1 dX10_addMessage_48 (lv_at hl 0 rfl) ?_
    refine q_ald_n cx dX10_addMessage_50 rfl (lv_at hl 1 rfl) ?_
    obtain ⟨x122, ex122⟩ : ∃ zz, q_is (q_z f115 v 11) zz := ⟨_, q_isr _⟩
    refine q_gX10_60_15 cx hB hv kv ex122 dX10_addMessage_51 (fun lb123 ub123 => ?_)
    refine q_ild_n cx dX10_addMessage_54 rfl (lv_at hl 4 rfl) ?_
    refine q_iadd cx dX10_addMessage_55 ?_
    refine q_any (fun y124 ry124 ey124 => ?_)
    refine q_pX10_143_27 cx hB hy98 ky98 ⟨by omega, by omega⟩ (by omega) (by omega) rfl dX10_addMessage_56 (fun H locs f125 ef125 z126 hB => ?_)
    have z127 : q_is (q_z f125 v 5) x91 := by rw [ef125, q_setz (Or.inr (by decide))]; exact z117
    have z128 : q_is (q_z f125 y98 0) p0 := by rw [ef125, q_setz (Or.inr (by decide))]; exact z118
    have z129 : q_is (q_z f125 y98 1) p1 := by rw [ef125, q_setz (Or.inr (by decide))]; exact z119
    have z130 : q_is (q_z f125 y98 2) p0 := by rw [ef125, q_setz (Or.inr (by decide))]; exact z120
    have z131 : q_is (q_z f125 y98 3) 0 := by rw [ef125, q_setz (Or.inr (by decide))]; exact z116
    have z132 : q_is (q_z f125 v 11) x122 := by rw [ef125, q_setz (Or.inr (by decide))]; exact ex122
    have z133 : q_ir (q_r f125 v 2) p93 := by rw [ef125, q_setr (Or.inr (by decide))]; exact z121
    refine lv_aload cx.1 cx.2.1 dX10_addMessage_59 (lv_at hl 0 rfl) ?_
    refine q_iconst cx dX10_addMessage_61 ?_
    refine q_pX10_146_27 cx hB hy98 ky98 ⟨by decide, by decide⟩ (by decide) (by decide) rfl dX10_addMessage_62 (fun H locs f134 ef134 z135 hB => ?_)
    have z136 : q_is (q_z f134 v 5) x91 := by rw [ef134, q_setz (Or.inl (fun q => by rw [q, ky98] at kv; exact absurd kv (by decide)))]; exact z127
    have z137 : q_is (q_z f134 y98 0) p0 := by rw [ef134, q_setz (Or.inr (by decide))]; exact z128
    have z138 : q_is (q_z f134 y98 1) p1 := by rw [ef134, q_setz (Or.inr (by decide))]; exact z129
    have z139 : q_is (q_z f134 y98 2) p0 := by rw [ef134, q_setz (Or.inr (by decide))]; exact z130
    have z140 : q_is (q_z f134 y98 3) 0 := by rw [ef134, q_setz (Or.inr (by decide))]; exact z131
    have z141 : q_is (q_z f134 v 11) x122 := by rw [ef134, q_setz (Or.inr (by decide))]; exact z132
    have z142 : q_is (q_z f134 y98 4) y124 := by rw [ef134, q_setz (Or.inr (by decide))]; exact z126
    have z143 : q_ir (q_r f134 v 2) p93 := by rw [ef134, q_setr (Or.inr (by decide))]; exact z133
    refine lv_aload cx.1 cx.2.1 dX10_addMessage_65 (lv_at hl 0 rfl) ?_
    refine q_iconst cx dX10_addMessage_67 ?_
    refine q_pX10_149_27 cx hB hy98 ky98 ⟨by decide, by decide⟩ (by decide) (by decide) rfl dX10_addMessage_68 (fun H locs f144 ef144 z145 hB => ?_)
    have z146 : q_is (q_z f144 v 5) x91 := by rw [ef144, q_setz (Or.inr (by decide))]; exact z136
    have z147 : q_is (q_z f144 y98 0) p0 := by rw [ef144, q_setz (Or.inr (by decide))]; exact z137
    have z148 : q_is (q_z f144 y98 1) p1 := by rw [ef144, q_setz (Or.inr (by decide))]; exact z138
    have z149 : q_is (q_z f144 y98 2) p0 := by rw [ef144, q_setz (Or.inr (by decide))]; exact z139
    have z150 : q_is (q_z f144 y98 3) 0 := by rw [ef144, q_setz (Or.inr (by decide))]; exact z140
    have z151 : q_is (q_z f144 v 11) x122 := by rw [ef144, q_setz (Or.inr (by decide))]; exact z141
    have z152 : q_is (q_z f144 y98 4) y124 := by rw [ef144, q_setz (Or.inr (by decide))]; exact z142
    have z153 : q_is (q_z f144 y98 5) (-1) := by rw [ef144, q_setz (Or.inr (by decide))]; exact z135
    have z154 : q_ir (q_r f144 v 2) p93 := by rw [ef144, q_setr (Or.inr (by decide))]; exact z143
    refine lv_aload cx.1 cx.2.1 dX10_addMessage_71 (lv_at hl 0 rfl) ?_
    refine lv_iload cx.1 cx.2.1 dX10_addMessage_73 (lv_at hl 5 rfl) ?_
    refine q_pX10_152_27 cx hB hy98 ky98 ⟨by omega, by omega⟩ (by omega) (by omega) rfl dX10_addMessage_75 (fun H locs f155 ef155 z156 hB => ?_)
    have z157 : q_is (q_z f155 v 5) x91 := by rw [ef155, q_setz (Or.inr (by decide))]; exact z146
    have z158 : q_is (q_z f155 y98 0) p0 := by rw [ef155, q_setz (Or.inr (by decide))]; exact z147
    have z159 : q_is (q_z f155 y98 1) p1 := by rw [ef155, q_setz (Or.inr (by decide))]; exact z148
    have z160 : q_is (q_z f155 y98 2) p0 := by rw [ef155, q_setz (Or.inr (by decide))]; exact z149
    have z161 : q_is (q_z f155 y98 3) 0 := by rw [ef155, q_setz (Or.inr (by decide))]; exact z150
    have z162 : q_is (q_z f155 v 11) x122 := by rw [ef155, q_setz (Or.inr (by decide))]; exact z151
    have z163 : q_is (q_z f155 y98 4) y124 := by rw [ef155, q_setz (Or.inr (by decide))]; exact z152
    have z164 : q_is (q_z f155 y98 5) (-1) := by rw [ef155, q_setz (Or.inr (by decide))]; exact z153
    have z165 : q_is (q_z f155 y98 6) 0 := by rw [ef155, q_setz (Or.inr (by decide))]; exact z145
    have z166 : q_ir (q_r f155 v 2) p93 := by rw [ef155, q_setr (Or.inr (by decide))]; exact z154
    refine q_ald_n cx dX10_addMessage_78 rfl (lv_at hl 1 rfl) ?_
    refine lv_dup cx.1 cx.2.1 dX10_addMessage_79 rfl ?_
    refine q_gX10_42_15 cx hB hv kv z157 dX10_addMessage_80 (fun lb167 ub167 => ?_)
    refine q_iconst cx dX10_addMessage_83 ?_
    refine q_iadd cx dX10_addMessage_84 ?_
    refine q_pX10_42_15 cx hB hv kv ⟨by omega, by omega⟩ (by omega) (by omega) rfl dX10_addMessage_85 (fun H locs f168 ef168 z169 hB => ?_)
    have z170 : q_is (q_z f168 y98 0) p0 := by rw [ef168, q_setz (Or.inr (by decide))]; exact z158
    have z171 : q_is (q_z f168 y98 1) p1 := by rw [ef168, q_setz (Or.inr (by decide))]; exact z159
    have z172 : q_is (q_z f168 y98 2) p0 := by rw [ef168, q_setz (Or.inr (by decide))]; exact z160
    have z173 : q_is (q_z f168 y98 3) 0 := by rw [ef168, q_setz (Or.inr (by decide))]; exact z161
    have z174 : q_is (q_z f168 v 11) x122 := by rw [ef168, q_setz (Or.inr (by decide))]; exact z162
    have z175 : q_is (q_z f168 y98 4) y124 := by rw [ef168, q_setz (Or.inr (by decide))]; exact z163
    have z176 : q_is (q_z f168 y98 5) (-1) := by rw [ef168, q_setz (Or.inl (fun q => by rw [q, kv] at ky98; exact absurd ky98 (by decide)))]; exact z164
    have z177 : q_is (q_z f168 y98 6) 0 := by rw [ef168, q_setz (Or.inr (by decide))]; exact z165
    have z178 : q_is (q_z f168 y98 7) p3 := by rw [ef168, q_setz (Or.inr (by decide))]; exact z156
    have z179 : q_ir (q_r f168 v 2) p93 := by rw [ef168, q_setr (Or.inr (by decide))]; exact z166
    refine q_ald_n cx dX10_addMessage_88 rfl (lv_at hl 1 rfl) ?_
    refine q_gX10_42_15 cx hB hv kv z169 dX10_addMessage_89 (fun lb180 ub180 => ?_)
    refine q_iconst cx dX10_addMessage_92 ?_
    refine q_isub cx dX10_addMessage_93 ?_
    refine q_iret cx hr hlk hB dX10_addMessage_94 ⟨by omega, by omega⟩ ?_
    exact ⟨(by omega), (by omega)⟩
  · refine q_iconst cx dX10_addMessage_12 ?_
    refine q_iret cx hr hlk hB dX10_addMessage_13 ⟨by decide, by decide⟩ ?_
    exact ⟨(by decide), (by decide)⟩
