set_option maxHeartbeats 4000000 in
set_option maxRecDepth 100000 in
theorem g_X9_readAll (l : Launch) (g : q_G) (ad : Nat → Nat) {K : Nat → Nat} {L : List Nat} (hN : L.Nodup) {f : Nat → va_E} (hT : q_Ty g K L f) (hfl : l.stackTraces = false) (v : Nat) (hv : v ∈ L) (kv : K v = 9) (p0 : Nat) (hp0 : p0 ∈ L) (kp0 : K p0 = 8) (p1 : Nat) (hp1 : p1 ∈ L) (kp1 : K p1 = 13) : q_Xt l g ad K L yX9_readAll cX9_readAll 4 (some .boolean) 8 176 0 0 [.ref v, .ref p0, .ref p1] f [(8, 2, 9), (9, 0, 2), (13, 3, 12), (17, 0, 8), (21, 0, 4)] (q_Pi (fun (z : Int) (f1 : Nat → va_E) => 0 ≤ z ∧ z ≤ 1)) (fun (_ : String) (_ : Nat → va_E) => False) := by
  refine q_xofb (by decide +kernel) hN hT (Nat.le_of_ble_eq_true rfl) ?_
  intro p e s m below meth c ls cx hr hlk htab hX hB hl
  have hl : lv_has ls 4 [(0, .ref v), (1, .ref p0), (2, .ref p1)] := hl
  have J65 : ∀ (f65 : Nat → va_E) (H : Heap) (locs : List Loc) (hB : q_B g K L (fun q => q ∈ L) [(8, 2, 9), (9, 0, 2), (13, 3, 12), (17, 0, 8), (21, 0, 4)] f f65 s H locs) (ls : Array Slot) (hl : lv_has ls 4 [(2, .ref p1)]), W p l e { frames := 8, cells := 0, slots := 0, locals := 176 } s m ([.ref v, .ref p0, .ref p1] : List Value).toArray below meth c H locs 0 0 (vx_MQ below (q_Q g K L [(8, 2, 9), (9, 0, 2), (13, 3, 12), (17, 0, 8), (21, 0, 4)] f (q_Pi (fun (z : Int) (f1 : Nat → va_E) => 0 ≤ z ∧ z ≤ 1))) (q_XC g K L [(8, 2, 9), (9, 0, 2), (13, 3, 12), (17, 0, 8), (21, 0, 4)] f (fun (_ : String) (_ : Nat → va_E) => False)) ([.ref v, .ref p0, .ref p1] : List Value).toArray s 0 0 (fun q => q ∈ L)) (F0 m 65 ls []) := by
    intro f65 H locs hB ls hl
    refine q_ald_n cx dX9_readAll_65 rfl (lv_at hl 0 rfl) ?_
    refine q_cVv (As := []) (rest := []) cx hB (fun _ h => h) hN hp1 kp1 (by decide) rfl (g_X10_foldDays_1 l g hN hB.2.1 p1 hp1 kp1) q_cX9_43 q_dX10_foldDays (by decide) rfl rfl hl.1 rfl (Nat.le_of_ble_eq_true rfl) dX9_readAll_66 (fun H locs f408 h410 hF hB => ?_)
    refine q_iconst cx dX9_readAll_69 ?_
    refine W.widen (k := 0) (n := 0) (by decide) (by decide) ?_
    refine vx_ret ?_
    refine q_zret cx hr hlk hB dX9_readAll_70 (by decide) (by decide) ?_
    exact ⟨(by decide), (by decide)⟩
  have J57 : ∀ (f57 : Nat → va_E) (H : Heap) (locs : List Loc) (hB : q_B g K L (fun q => q ∈ L) [(8, 2, 9), (9, 0, 2), (13, 3, 12), (17, 0, 8), (21, 0, 4)] f f57 s H locs) (ls : Array Slot) (hl : lv_has ls 4 []), W p l e { frames := 8, cells := 0, slots := 0, locals := 176 } s m ([.ref v, .ref p0, .ref p1] : List Value).toArray below meth c H locs 0 0 (vx_MQ below (q_Q g K L [(8, 2, 9), (9, 0, 2), (13, 3, 12), (17, 0, 8), (21, 0, 4)] f (q_Pi (fun (z : Int) (f1 : Nat → va_E) => 0 ≤ z ∧ z ≤ 1))) (q_XC g K L [(8, 2, 9), (9, 0, 2), (13, 3, 12), (17, 0, 8), (21, 0, 4)] f (fun (_ : String) (_ : Nat → va_E) => False)) ([.ref v, .ref p0, .ref p1] : List Value).toArray s 0 0 (fun q => q ∈ L)) (F0 m 57 ls []) := by
    intro f57 H locs hB ls hl
    refine q_iconst cx dX9_readAll_57 ?_
    refine W.widen (k := 0) (n := 0) (by decide) (by decide) ?_
    refine vx_ret ?_
    refine q_zret cx hr hlk hB dX9_readAll_58 (by decide) (by decide) ?_
    exact ⟨(by decide), (by decide)⟩
  have J25 : ∀ (n : Nat) (f25 : Nat → va_E) (v25_3 : Int) (lv25_3 : 0 ≤ v25_3) (uv25_3 : v25_3 ≤ 657) (hmu : (Int.toNat (2147483647 - v25_3)) < n) (H : Heap) (locs : List Loc) (hB : q_B g K L (fun q => q ∈ L) [(8, 2, 9), (9, 0, 2), (13, 3, 12), (17, 0, 8), (21, 0, 4)] f f25 s H locs) (ls : Array Slot) (hl : lv_has ls 4 [(0, .ref v), (1, .ref p0), (2, .ref p1), (3, .int (q_i v25_3))]), W p l e { frames := 8, cells := 0, slots := 0, locals := 176 } s m ([.ref v, .ref p0, .ref p1] : List Value).toArray below meth c H locs 0 0 (vx_MQ below (q_Q g K L [(8, 2, 9), (9, 0, 2), (13, 3, 12), (17, 0, 8), (21, 0, 4)] f (q_Pi (fun (z : Int) (f1 : Nat → va_E) => 0 ≤ z ∧ z ≤ 1))) (q_XC g K L [(8, 2, 9), (9, 0, 2), (13, 3, 12), (17, 0, 8), (21, 0, 4)] f (fun (_ : String) (_ : Nat → va_E) => False)) ([.ref v, .ref p0, .ref p1] : List Value).toArray s 0 0 (fun q => q ∈ L)) (F0 m 25 ls []) := by
    intro n
    induction n with
    | zero =>
      intro f25 v25_3 lv25_3 uv25_3 hmu
      exact absurd hmu (Nat.not_lt_zero _)
    | succ n ih25 =>
      intro f25 v25_3 lv25_3 uv25_3 hmu H locs hB ls hl
      refine q_ild_n cx dX9_readAll_25 rfl (lv_at hl 3 rfl) ?_
      refine q_sipush cx dX9_readAll_26 rfl ?_
      refine q_icgt (tgt := 65) cx ⟨by omega, by omega⟩ ⟨by decide, by decide⟩ dX9_readAll_29 (by decide) (fun c411 => ?_) (fun c411 => ?_)
      · exact J65 f25 H locs hB ls (lv_sub hl [2] rfl)
      · refine q_ald_n cx dX9_readAll_32 rfl (lv_at hl 1 rfl) ?_
        refine q_cVi (As := []) (rest := []) cx hB (fun _ h => h) hN hp0 kp0 (by decide) rfl (g_X8_isAtEnd l g hN hB.2.1 p0 hp0 kp0) q_cX9_31 q_dX8_isAtEnd (by decide) rfl rfl hl.1 rfl (Nat.le_of_ble_eq_true rfl) dX9_readAll_33 (fun y413 H locs f412 ry413 h414 hF hB => ?_)
        obtain ⟨rfl, ly413, uy413⟩ := h414
        refine q_ifne (tgt := 65) cx ⟨by omega, by omega⟩ dX9_readAll_36 (by decide) (fun c415 => ?_) (fun c415 => ?_)
        · exact J65 f25 H locs hB ls (lv_sub hl [2] rfl)
        · refine q_ald_n cx dX9_readAll_39 rfl (lv_at hl 0 rfl) ?_
          refine q_ald_n cx dX9_readAll_40 rfl (lv_at hl 1 rfl) ?_
          refine q_ald_n cx dX9_readAll_41 rfl (lv_at hl 2 rfl) ?_
          refine q_cXV (As := [.ref p0, .ref p1]) (rest := []) cx hX hB (fun _ h => h) (fun _ h _ => h) hN hv kv (by decide) rfl (g_X9_readStatement l g ad hN hB.2.1 hfl v hv kv p0 hp0 kp0 p1 hp1 kp1) q_cX9_35 q_dX9_readStatement (by decide) rfl rfl hl.1 rfl (Nat.le_of_ble_eq_true rfl) dX9_readAll_42 (fun E9 ce9 q9 H locs f419 hex hF hB hcell hcv hcl => ?_) (fun v9 H locs f416 h418 hF hB => ?_)
          · exact hex.elim
          · obtain ⟨y417, rfl, ry417, h418⟩ := h418
            refine W.eq (g2 := F0 m 45 ls [.int (q_i y417)]) rfl ?_
            obtain ⟨ly417, uy417⟩ := h418
            refine q_ifeq (tgt := 57) cx ⟨by omega, by omega⟩ dX9_readAll_45 (by decide) (fun c420 => ?_) (fun c420 => ?_)
            · exact J57 f416 H locs hB ls (lv_sub hl [] rfl)
            · refine q_ald_n cx dX9_readAll_48 rfl (lv_at hl 1 rfl) ?_
              refine q_bipush cx dX9_readAll_49 rfl ?_
              refine q_cVi (As := [.int (q_i 59)]) (rest := []) cx hB (fun _ h => h) hN hp0 kp0 (by decide) rfl (g_X8_takeMark l g hN hB.2.1 p0 hp0 kp0 59 (by decide) (by decide)) q_cX9_39 q_dX8_takeMark (by decide) rfl rfl hl.1 rfl (Nat.le_of_ble_eq_true rfl) dX9_readAll_51 (fun y422 H locs f421 ry422 h423 hF hB => ?_)
              obtain ⟨ly422, uy422⟩ := h423
              refine q_ifne (tgt := 59) cx ⟨by omega, by omega⟩ dX9_readAll_54 (by decide) (fun c424 => ?_) (fun c424 => ?_)
              · refine q_iinc (lv' := [(3, .int (q_i (v25_3 + 1))), (0, .ref v), (1, .ref p0), (2, .ref p1)]) cx dX9_readAll_59 hl (k := 3) rfl (by decide) rfl (fun ls hl => ?_)
                refine lv_goto (tgt := 25) cx.1 cx.2.1 dX9_readAll_62 (by decide) ?_
                exact ih25 f421 (v25_3 + 1) (by omega) (by omega) (by omega) H locs hB ls (lv_sub hl [1, 2, 3, 0] rfl)
              · exact J57 f421 H locs hB ls (lv_sub hl [] rfl)
  obtain ⟨H, hH⟩ : ∃ H : Heap, H = s.heap := ⟨_, rfl⟩
  obtain ⟨locs, hlocs⟩ : ∃ z : List Loc, z = [] := ⟨_, rfl⟩
  rw [← hH, ← hlocs] at hB
  rw [← hH, ← hlocs]
  refine q_ald_n cx dX9_readAll_0 rfl (lv_at hl 0 rfl) ?_
  refine q_iconst cx dX9_readAll_1 ?_
  refine q_pX9_9 cx hB hv kv ⟨by decide, by decide⟩ (by decide) (by decide) rfl dX9_readAll_2 (fun H locs f425 ef425 z426 hB => ?_)
  refine q_ald_n cx dX9_readAll_5 rfl (lv_at hl 0 rfl) ?_
  refine q_iconst cx dX9_readAll_6 ?_
  refine q_pX9_15 cx hB hv kv ⟨by decide, by decide⟩ (by decide) (by decide) rfl dX9_readAll_7 (fun H locs f427 ef427 z428 hB => ?_)
  refine q_ald_n cx dX9_readAll_10 rfl (lv_at hl 0 rfl) ?_
  refine q_iconst cx dX9_readAll_11 ?_
  refine q_pX9_18 cx hB hv kv ⟨by decide, by decide⟩ (by decide) (by decide) rfl dX9_readAll_12 (fun H locs f429 ef429 z430 hB => ?_)
  refine q_ald_n cx dX9_readAll_15 rfl (lv_at hl 2 rfl) ?_
  refine q_cVv (As := []) (rest := []) cx hB (fun _ h => h) hN hp1 kp1 (by decide) rfl (g_X10_makeEmpty_1 l g hN hB.2.1 p1 hp1 kp1) q_cX9_21 q_dX10_makeEmpty (by decide) rfl rfl hl.1 rfl (Nat.le_of_ble_eq_true rfl) dX9_readAll_16 (fun H locs f431 h433 hF hB => ?_)
  refine q_ald_n cx dX9_readAll_19 rfl (lv_at hl 1 rfl) ?_
  refine q_cVv (As := []) (rest := []) cx hB (fun _ h => h) hN hp0 kp0 (by decide) rfl (g_X8_begin l g hN hB.2.1 p0 hp0 kp0) q_cX9_26 q_dX8_begin (by decide) rfl rfl hl.1 rfl (Nat.le_of_ble_eq_true rfl) dX9_readAll_20 (fun H locs f434 h436 hF hB => ?_)
  refine q_iconst cx dX9_readAll_23 ?_
  refine lv_istore_n (lv' := [(3, .int (q_i 0)), (0, .ref v), (1, .ref p0), (2, .ref p1)]) cx.1 cx.2.1 dX9_readAll_24 rfl hl (by decide) rfl (fun ls hl => ?_)
  exact J25 ((Int.toNat (2147483647 - 0)) + 1) f434 0 (by decide) (by decide) (Nat.lt_succ_self _) H locs hB ls (lv_sub hl [1, 2, 3, 0] rfl)
set_option maxHeartbeats 4000000 in
set_option maxRecDepth 100000 in
theorem g_X7_kindOfWord (l : Launch) (g : q_G) (ad : Nat → Nat) {K : Nat → Nat} {L : List Nat} (hN : L.Nodup) {f : Nat → va_E} (hT : q_Ty g K L f) (hfl : l.stackTraces = false) (p0 : Nat) (hp0 : p0 ∈ L) (kp0 : K p0 = 8) : q_Xt l g ad K L yX7_kindOfWord cX7_kindOfWord 1 (some .int) 5 107 0 0 [.ref p0] f [] (q_Pi (fun (z : Int) (f1 : Nat → va_E) => f = f1 ∧ (-1) ≤ z ∧ z ≤ 6)) (fun (_ : String) (_ : Nat → va_E) => False) := by
  refine q_xofb (by decide +kernel) hN hT (Nat.le_of_ble_eq_true rfl) ?_
  intro p e s m below meth c ls cx hr hlk htab hX hB hl
  have hl : lv_has ls 1 [(0, .ref p0)] := hl
  obtain ⟨H, hH⟩ : ∃ H : Heap, H = s.heap := ⟨_, rfl⟩
  obtain ⟨locs, hlocs⟩ : ∃ z : List Loc, z = [] := ⟨_, rfl⟩
  rw [← hH, ← hlocs] at hB
  rw [← hH, ← hlocs]
  refine q_ald_n cx dX7_kindOfWord_0 rfl (lv_at hl 0 rfl) ?_
  refine va_ldcS (q := ad 8) cx.1 cx.2.1 cx.2.2.2.1 ((hX.2.2.2.2.2.2.2 8 (by decide)).1) dX7_kindOfWord_1 ?_
  refine q_cXV (As := [.ref (ad 8)]) (rest := []) cx hX hB (fun _ h => h) (fun _ h _ => h) hN hp0 kp0 (by decide) rfl (g_isWord_8 l g ad hN hB.2.1 hfl p0 hp0 kp0) q_cX7_54 q_dX8_isWord (by decide) rfl rfl hl.1 rfl (Nat.le_of_ble_eq_true rfl) dX7_kindOfWord_3 (fun E9 ce9 q9 H locs f39 hex hF hB hcell hcv hcl => ?_) (fun v9 H locs f36 h38 hF hB => ?_)
  · exact hex.elim
  · obtain ⟨y37, rfl, ry37, h38⟩ := h38
    refine W.eq (g2 := F0 m 6 ls [.int (q_i y37)]) rfl ?_
    obtain ⟨rfl, ly37, uy37⟩ := h38
    refine q_ifeq (tgt := 11) cx ⟨by omega, by omega⟩ dX7_kindOfWord_6 (by decide) (fun c40 => ?_) (fun c40 => ?_)
    · refine q_ald_n cx dX7_kindOfWord_11 rfl (lv_at hl 0 rfl) ?_
      refine va_ldcS (q := ad 9) cx.1 cx.2.1 cx.2.2.2.1 ((hX.2.2.2.2.2.2.2 9 (by decide)).1) dX7_kindOfWord_12 ?_
      refine q_cXV (As := [.ref (ad 9)]) (rest := []) cx hX hB (fun _ h => h) (fun _ h _ => h) hN hp0 kp0 (by decide) rfl (g_isWord_9 l g ad hN hB.2.1 hfl p0 hp0 kp0) q_cX7_54 q_dX8_isWord (by decide) rfl rfl hl.1 rfl (Nat.le_of_ble_eq_true rfl) dX7_kindOfWord_14 (fun E9 ce9 q9 H locs f44 hex hF hB hcell hcv hcl => ?_) (fun v9 H locs f41 h43 hF hB => ?_)
      · exact hex.elim
      · obtain ⟨y42, rfl, ry42, h43⟩ := h43
        refine W.eq (g2 := F0 m 17 ls [.int (q_i y42)]) rfl ?_
        obtain ⟨rfl, ly42, uy42⟩ := h43
        refine q_ifeq (tgt := 22) cx ⟨by omega, by omega⟩ dX7_kindOfWord_17 (by decide) (fun c45 => ?_) (fun c45 => ?_)
        · refine q_ald_n cx dX7_kindOfWord_22 rfl (lv_at hl 0 rfl) ?_
          refine va_ldcS (q := ad 10) cx.1 cx.2.1 cx.2.2.2.1 ((hX.2.2.2.2.2.2.2 10 (by decide)).1) dX7_kindOfWord_23 ?_
          refine q_cXV (As := [.ref (ad 10)]) (rest := []) cx hX hB (fun _ h => h) (fun _ h _ => h) hN hp0 kp0 (by decide) rfl (g_isWord_10 l g ad hN hB.2.1 hfl p0 hp0 kp0) q_cX7_54 q_dX8_isWord (by decide) rfl rfl hl.1 rfl (Nat.le_of_ble_eq_true rfl) dX7_kindOfWord_25 (fun E9 ce9 q9 H locs f49 hex hF hB hcell hcv hcl => ?_) (fun v9 H locs f46 h48 hF hB => ?_)
          · exact hex.elim
          · obtain ⟨y47, rfl, ry47, h48⟩ := h48
            refine W.eq (g2 := F0 m 28 ls [.int (q_i y47)]) rfl ?_
            obtain ⟨rfl, ly47, uy47⟩ := h48
            refine q_ifeq (tgt := 33) cx ⟨by omega, by omega⟩ dX7_kindOfWord_28 (by decide) (fun c50 => ?_) (fun c50 => ?_)
            · refine q_ald_n cx dX7_kindOfWord_33 rfl (lv_at hl 0 rfl) ?_
              refine va_ldcS (q := ad 11) cx.1 cx.2.1 cx.2.2.2.1 ((hX.2.2.2.2.2.2.2 11 (by decide)).1) dX7_kindOfWord_34 ?_
              refine q_cXV (As := [.ref (ad 11)]) (rest := []) cx hX hB (fun _ h => h) (fun _ h _ => h) hN hp0 kp0 (by decide) rfl (g_isWord_11 l g ad hN hB.2.1 hfl p0 hp0 kp0) q_cX7_54 q_dX8_isWord (by decide) rfl rfl hl.1 rfl (Nat.le_of_ble_eq_true rfl) dX7_kindOfWord_36 (fun E9 ce9 q9 H locs f54 hex hF hB hcell hcv hcl => ?_) (fun v9 H locs f51 h53 hF hB => ?_)
              · exact hex.elim
              · obtain ⟨y52, rfl, ry52, h53⟩ := h53
                refine W.eq (g2 := F0 m 39 ls [.int (q_i y52)]) rfl ?_
                obtain ⟨rfl, ly52, uy52⟩ := h53
                refine q_ifeq (tgt := 44) cx ⟨by omega, by omega⟩ dX7_kindOfWord_39 (by decide) (fun c55 => ?_) (fun c55 => ?_)
                · refine q_ald_n cx dX7_kindOfWord_44 rfl (lv_at hl 0 rfl) ?_
                  refine va_ldcS (q := ad 12) cx.1 cx.2.1 cx.2.2.2.1 ((hX.2.2.2.2.2.2.2 12 (by decide)).1) dX7_kindOfWord_45 ?_
                  refine q_cXV (As := [.ref (ad 12)]) (rest := []) cx hX hB (fun _ h => h) (fun _ h _ => h) hN hp0 kp0 (by decide) rfl (g_isWord_12 l g ad hN hB.2.1 hfl p0 hp0 kp0) q_cX7_54 q_dX8_isWord (by decide) rfl rfl hl.1 rfl (Nat.le_of_ble_eq_true rfl) dX7_kindOfWord_47 (fun E9 ce9 q9 H locs f59 hex hF hB hcell hcv hcl => ?_) (fun v9 H locs f56 h58 hF hB => ?_)
                  · exact hex.elim
                  · obtain ⟨y57, rfl, ry57, h58⟩ := h58
                    refine W.eq (g2 := F0 m 50 ls [.int (q_i y57)]) rfl ?_
                    obtain ⟨rfl, ly57, uy57⟩ := h58
                    refine q_ifeq (tgt := 55) cx ⟨by omega, by omega⟩ dX7_kindOfWord_50 (by decide) (fun c60 => ?_) (fun c60 => ?_)
                    · refine q_ald_n cx dX7_kindOfWord_55 rfl (lv_at hl 0 rfl) ?_
                      refine va_ldcS (q := ad 13) cx.1 cx.2.1 cx.2.2.2.1 ((hX.2.2.2.2.2.2.2 13 (by decide)).1) dX7_kindOfWord_56 ?_
                      refine q_cXV (As := [.ref (ad 13)]) (rest := []) cx hX hB (fun _ h => h) (fun _ h _ => h) hN hp0 kp0 (by decide) rfl (g_isWord_13 l g ad hN hB.2.1 hfl p0 hp0 kp0) q_cX7_54 q_dX8_isWord (by decide) rfl rfl hl.1 rfl (Nat.le_of_ble_eq_true rfl) dX7_kindOfWord_58 (fun E9 ce9 q9 H locs f64 hex hF hB hcell hcv hcl => ?_) (fun v9 H locs f61 h63 hF hB => ?_)
                      · exact hex.elim
                      · obtain ⟨y62, rfl, ry62, h63⟩ := h63
                        refine W.eq (g2 := F0 m 61 ls [.int (q_i y62)]) rfl ?_
                        obtain ⟨rfl, ly62, uy62⟩ := h63
                        refine q_ifeq (tgt := 66) cx ⟨by omega, by omega⟩ dX7_kindOfWord_61 (by decide) (fun c65 => ?_) (fun c65 => ?_)
                        · refine q_ald_n cx dX7_kindOfWord_66 rfl (lv_at hl 0 rfl) ?_
                          refine va_ldcS (q := ad 14) cx.1 cx.2.1 cx.2.2.2.1 ((hX.2.2.2.2.2.2.2 14 (by decide)).1) dX7_kindOfWord_67 ?_
                          refine q_cXV (As := [.ref (ad 14)]) (rest := []) cx hX hB (fun _ h => h) (fun _ h _ => h) hN hp0 kp0 (by decide) rfl (g_isWord_14 l g ad hN hB.2.1 hfl p0 hp0 kp0) q_cX7_54 q_dX8_isWord (by decide) rfl rfl hl.1 rfl (Nat.le_of_ble_eq_true rfl) dX7_kindOfWord_69 (fun E9 ce9 q9 H locs f69 hex hF hB hcell hcv hcl => ?_) (fun v9 H locs f66 h68 hF hB => ?_)
                          · exact hex.elim
                          · obtain ⟨y67, rfl, ry67, h68⟩ := h68
                            refine W.eq (g2 := F0 m 72 ls [.int (q_i y67)]) rfl ?_
                            obtain ⟨rfl, ly67, uy67⟩ := h68
                            refine q_ifeq (tgt := 80) cx ⟨by omega, by omega⟩ dX7_kindOfWord_72 (by decide) (fun c70 => ?_) (fun c70 => ?_)
                            · refine q_iconst cx dX7_kindOfWord_80 ?_
                              refine W.widen (k := 0) (n := 0) (by decide) (by decide) ?_
                              refine vx_ret ?_
                              refine q_iret cx hr hlk hB dX7_kindOfWord_81 ⟨by decide, by decide⟩ ?_
                              exact ⟨rfl, (by decide), (by decide)⟩
                            · refine q_bipush cx dX7_kindOfWord_75 rfl ?_
                              refine lv_goto (tgt := 81) cx.1 cx.2.1 dX7_kindOfWord_77 (by decide) ?_
                              refine W.widen (k := 0) (n := 0) (by decide) (by decide) ?_
                              refine vx_ret ?_
                              refine q_iret cx hr hlk hB dX7_kindOfWord_81 ⟨by decide, by decide⟩ ?_
                              exact ⟨rfl, (by decide), (by decide)⟩
                        · refine q_iconst cx dX7_kindOfWord_64 ?_
                          refine W.widen (k := 0) (n := 0) (by decide) (by decide) ?_
                          refine vx_ret ?_
                          refine q_iret cx hr hlk hB dX7_kindOfWord_65 ⟨by decide, by decide⟩ ?_
                          exact ⟨rfl, (by decide), (by decide)⟩
                    · refine q_iconst cx dX7_kindOfWord_53 ?_
                      refine W.widen (k := 0) (n := 0) (by decide) (by decide) ?_
                      refine vx_ret ?_
                      refine q_iret cx hr hlk hB dX7_kindOfWord_54 ⟨by decide, by decide⟩ ?_
                      exact ⟨rfl, (by decide), (by decide)⟩
                · refine q_iconst cx dX7_kindOfWord_42 ?_
                  refine W.widen (k := 0) (n := 0) (by decide) (by decide) ?_
                  refine vx_ret ?_
                  refine q_iret cx hr hlk hB dX7_kindOfWord_43 ⟨by decide, by decide⟩ ?_
                  exact ⟨rfl, (by decide), (by decide)⟩
            · refine q_iconst cx dX7_kindOfWord_31 ?_
              refine W.widen (k := 0) (n := 0) (by decide) (by decide) ?_
              refine vx_ret ?_
              refine q_iret cx hr hlk hB dX7_kindOfWord_32 ⟨by decide, by decide⟩ ?_
              exact ⟨rfl, (by decide), (by decide)⟩
        · refine q_iconst cx dX7_kindOfWord_20 ?_
          refine W.widen (k := 0) (n := 0) (by decide) (by decide) ?_
          refine vx_ret ?_
          refine q_iret cx hr hlk hB dX7_kindOfWord_21 ⟨by decide, by decide⟩ ?_
          exact ⟨rfl, (by decide), (by decide)⟩
    · refine q_iconst cx dX7_kindOfWord_9 ?_
      refine W.widen (k := 0) (n := 0) (by decide) (by decide) ?_
      refine vx_ret ?_
      refine q_iret cx hr hlk hB dX7_kindOfWord_10 ⟨by decide, by decide⟩ ?_
      exact ⟨rfl, (by decide), (by decide)⟩
set_option maxHeartbeats 4000000 in
set_option maxRecDepth 100000 in
theorem g_X7_readCommand (l : Launch) (g : q_G) (ad : Nat → Nat) {K : Nat → Nat} {L : List Nat} (hN : L.Nodup) {f : Nat → va_E} (hT : q_Ty g K L f) (hfl : l.stackTraces = false) (v : Nat) (hv : v ∈ L) (kv : K v = 7) (p0 : Nat) (hp0 : p0 ∈ L) (kp0 : K p0 = 8) (p1 : Nat) (hp1 : p1 ∈ L) (kp1 : K p1 = 10) : q_Xt l g ad K L yX7_readCommand cX7_readCommand 5 (some .boolean) 6 127 0 0 [.ref v, .ref p0, .ref p1] f [(0, 0, 3), (0, 5, 5), (7, 1, 1), (7, 3, 4), (8, 2, 9)] (q_Pi (fun (z : Int) (f1 : Nat → va_E) => 0 ≤ z ∧ z ≤ 1)) (fun (_ : String) (_ : Nat → va_E) => False) := by
  refine q_xofb (by decide +kernel) hN hT (Nat.le_of_ble_eq_true rfl) ?_
  intro p e s m below meth c ls cx hr hlk htab hX hB hl
  have hl : lv_has ls 5 [(0, .ref v), (1, .ref p0), (2, .ref p1)] := hl
  have J124 : ∀ (f124 : Nat → va_E) (t124_0 : Int) (lt124_0 : 0 ≤ t124_0) (ut124_0 : t124_0 ≤ 1) (H : Heap) (locs : List Loc) (hB : q_B g K L (fun q => q ∈ L) [(0, 0, 3), (0, 5, 5), (7, 1, 1), (7, 3, 4), (8, 2, 9)] f f124 s H locs) (ls : Array Slot) (hl : lv_has ls 5 []), W p l e { frames := 6, cells := 0, slots := 0, locals := 127 } s m ([.ref v, .ref p0, .ref p1] : List Value).toArray below meth c H locs 0 0 (vx_MQ below (q_Q g K L [(0, 0, 3), (0, 5, 5), (7, 1, 1), (7, 3, 4), (8, 2, 9)] f (q_Pi (fun (z : Int) (f1 : Nat → va_E) => 0 ≤ z ∧ z ≤ 1))) (q_XC g K L [(0, 0, 3), (0, 5, 5), (7, 1, 1), (7, 3, 4), (8, 2, 9)] f (fun (_ : String) (_ : Nat → va_E) => False)) ([.ref v, .ref p0, .ref p1] : List Value).toArray s 0 0 (fun q => q ∈ L)) (F0 m 124 ls [.int (q_i t124_0)]) := by
    intro f124 t124_0 lt124_0 ut124_0 H locs hB ls hl
    refine W.widen (k := 0) (n := 0) (by decide) (by decide) ?_
    refine vx_ret ?_
    refine q_zret cx hr hlk hB dX7_readCommand_124 (by omega) (by omega) ?_
    exact ⟨(by omega), (by omega)⟩
  have J123 : ∀ (f123 : Nat → va_E) (H : Heap) (locs : List Loc) (hB : q_B g K L (fun q => q ∈ L) [(0, 0, 3), (0, 5, 5), (7, 1, 1), (7, 3, 4), (8, 2, 9)] f f123 s H locs) (ls : Array Slot) (hl : lv_has ls 5 []), W p l e { frames := 6, cells := 0, slots := 0, locals := 127 } s m ([.ref v, .ref p0, .ref p1] : List Value).toArray below meth c H locs 0 0 (vx_MQ below (q_Q g K L [(0, 0, 3), (0, 5, 5), (7, 1, 1), (7, 3, 4), (8, 2, 9)] f (q_Pi (fun (z : Int) (f1 : Nat → va_E) => 0 ≤ z ∧ z ≤ 1))) (q_XC g K L [(0, 0, 3), (0, 5, 5), (7, 1, 1), (7, 3, 4), (8, 2, 9)] f (fun (_ : String) (_ : Nat → va_E) => False)) ([.ref v, .ref p0, .ref p1] : List Value).toArray s 0 0 (fun q => q ∈ L)) (F0 m 123 ls []) := by
    intro f123 H locs hB ls hl
    refine q_iconst cx dX7_readCommand_123 ?_
    exact J124 f123 0 (by decide) (by decide) H locs hB ls (lv_sub hl [] rfl)
  have J36 : ∀ (v36_3 : Int) (lv36_3 : 0 ≤ v36_3) (uv36_3 : v36_3 ≤ 6) (H : Heap) (locs : List Loc) (hB : q_B g K L (fun q => q ∈ L) [(0, 0, 3), (0, 5, 5), (7, 1, 1), (7, 3, 4), (8, 2, 9)] f f s H locs) (ls : Array Slot) (hl : lv_has ls 5 [(0, .ref v), (1, .ref p0), (2, .ref p1), (3, .int (q_i v36_3))]), W p l e { frames := 6, cells := 0, slots := 0, locals := 127 } s m ([.ref v, .ref p0, .ref p1] : List Value).toArray below meth c H locs 0 0 (vx_MQ below (q_Q g K L [(0, 0, 3), (0, 5, 5), (7, 1, 1), (7, 3, 4), (8, 2, 9)] f (q_Pi (fun (z : Int) (f1 : Nat → va_E) => 0 ≤ z ∧ z ≤ 1))) (q_XC g K L [(0, 0, 3), (0, 5, 5), (7, 1, 1), (7, 3, 4), (8, 2, 9)] f (fun (_ : String) (_ : Nat → va_E) => False)) ([.ref v, .ref p0, .ref p1] : List Value).toArray s 0 0 (fun q => q ∈ L)) (F0 m 36 ls []) := by
    intro v36_3 lv36_3 uv36_3 H locs hB ls hl
    refine q_ald_n cx dX7_readCommand_36 rfl (lv_at hl 0 rfl) ?_
    obtain ⟨x57, ex57⟩ : ∃ zz, q_is (q_z f v 1) zz := ⟨_, q_isr _⟩
    refine q_gX7_18 cx hB hv kv ex57 dX7_readCommand_37 (fun lb58 ub58 => ?_)
    refine q_ald_n cx dX7_readCommand_40 rfl (lv_at hl 0 rfl) ?_
    obtain ⟨p59, ep59⟩ : ∃ zz, q_ir (q_r f v 0) zz := ⟨_, q_irr _⟩
    refine q_gX7_13 cx hB hv kv ep59 dX7_readCommand_41 (fun hb60 kb60 => ?_)
    refine q_alen (n := 30) cx hB hb60 kb60 (by decide) rfl 4 rfl rfl dX7_readCommand_44 ?_
    refine q_iclt (tgt := 54) cx ⟨by omega, by omega⟩ ⟨by decide, by decide⟩ dX7_readCommand_45 (by decide) (fun c61 => ?_) (fun c61 => ?_)
    · refine q_ald_n cx dX7_readCommand_54 rfl (lv_at hl 0 rfl) ?_
      refine q_ald_n cx dX7_readCommand_55 rfl (lv_at hl 0 rfl) ?_
      refine q_gX7_18 cx hB hv kv ex57 dX7_readCommand_56 (fun lb62 ub62 => ?_)
      refine q_cVr (As := [.int (q_i x57)]) (rest := []) cx hB (fun _ h => h) hN hv kv (by decide) rfl (g_X7_commandAt l g hN hB.2.1 v hv kv x57 (by omega) (by omega)) q_cX7_74 q_dX7_commandAt (by decide) rfl rfl hl.1 rfl (Nat.le_of_ble_eq_true rfl) dX7_readCommand_59 (fun y64 H locs f63 h65 hF hB => ?_)
      obtain ⟨rfl, hy64, ky64⟩ := h65
      refine lv_astore (lv' := [(4, .ref y64), (0, .ref v), (1, .ref p0), (2, .ref p1), (3, .int (q_i v36_3))]) cx.1 cx.2.1 dX7_readCommand_62 hl (by decide) rfl (fun ls hl => ?_)
      refine lv_aload cx.1 cx.2.1 dX7_readCommand_64 (lv_at hl 0 rfl) ?_
      refine q_ild_n cx dX7_readCommand_66 rfl (lv_at hl 4 rfl) ?_
      refine q_pX7_78 cx hB hy64 ky64 ⟨by omega, by omega⟩ (by omega) (by omega) rfl dX7_readCommand_67 (fun H locs f66 ef66 z67 hB => ?_)
      have z68 : q_ir (q_r f66 v 0) p59 := by rw [ef66, q_setr (Or.inl (fun q => by rw [q, ky64] at kv; exact absurd kv (by decide)))]; exact ep59
      refine q_ald_n cx dX7_readCommand_70 rfl (lv_at hl 1 rfl) ?_
      refine lv_dup cx.1 cx.2.1 dX7_readCommand_71 rfl ?_
      obtain ⟨x69, ex69⟩ : ∃ zz, q_is (q_z f66 v 1) zz := ⟨_, q_isr _⟩
      refine q_gX7_18 cx hB hv kv ex69 dX7_readCommand_72 (fun lb70 ub70 => ?_)
      refine q_iconst cx dX7_readCommand_75 ?_
      refine q_iadd cx dX7_readCommand_76 ?_
      refine q_any (fun y71 ry71 ey71 => ?_)
      refine q_pX7_18 cx hB hv kv ⟨by omega, by omega⟩ (by omega) (by omega) rfl dX7_readCommand_77 (fun H locs f72 ef72 z73 hB => ?_)
      have z74 : q_ir (q_r f72 v 0) p59 := by rw [ef72, q_setr (Or.inr (by decide))]; exact z68
      refine q_ald_n cx dX7_readCommand_80 rfl (lv_at hl 2 rfl) ?_
      refine q_cVv (As := []) (rest := []) cx hB (fun _ h => h) hN hp0 kp0 (by decide) rfl (g_X8_advance l g hN hB.2.1 p0 hp0 kp0) q_cX7_81 q_dX8_advance (by decide) rfl rfl hl.1 rfl (Nat.le_of_ble_eq_true rfl) dX7_readCommand_81 (fun H locs f75 h77 hF hB => ?_)
      have z78 : q_ir (q_r f75 v 0) p59 := Eq.trans (hF.r hv (by rw [kv]; rfl)) z74
      refine q_ild_n cx dX7_readCommand_84 rfl (lv_at hl 4 rfl) ?_
      refine q_bipush cx dX7_readCommand_85 rfl ?_
      refine q_icne (tgt := 98) cx ⟨by omega, by omega⟩ ⟨by decide, by decide⟩ dX7_readCommand_87 (by decide) (fun c79 => ?_) (fun c79 => ?_)
      · refine q_ald_n cx dX7_readCommand_98 rfl (lv_at hl 1 rfl) ?_
        refine q_ald_n cx dX7_readCommand_99 rfl (lv_at hl 2 rfl) ?_
        refine q_ald_n cx dX7_readCommand_100 rfl (lv_at hl 3 rfl) ?_
        refine lv_aload cx.1 cx.2.1 dX7_readCommand_101 (lv_at hl 0 rfl) ?_
        refine q_cVi (As := [.ref p0, .ref p1, .ref y64]) (rest := []) cx hB (fun _ h => h) hN hv kv (by decide) rfl (g_X7_readNames l g hN hB.2.1 v hv kv p0 hp0 kp0 p1 hp1 kp1 y64 hy64 ky64) q_cX7_88 q_dX7_readNames (by decide) rfl rfl hl.1 rfl (Nat.le_of_ble_eq_true rfl) dX7_readCommand_103 (fun y81 H locs f80 ry81 h82 hF hB => ?_)
        obtain ⟨ly81, uy81⟩ := h82
        have z83 : q_ir (q_r f80 v 0) p59 := Eq.trans (hF.r hv (by rw [kv]; rfl)) z78
        refine q_ifeq (tgt := 123) cx ⟨by omega, by omega⟩ dX7_readCommand_106 (by decide) (fun c84 => ?_) (fun c84 => ?_)
        · exact J123 f80 H locs hB ls (lv_sub hl [] rfl)
        · refine q_ald_n cx dX7_readCommand_109 rfl (lv_at hl 1 rfl) ?_
          refine q_ald_n cx dX7_readCommand_110 rfl (lv_at hl 2 rfl) ?_
          refine lv_aload cx.1 cx.2.1 dX7_readCommand_111 (lv_at hl 0 rfl) ?_
          refine q_cVi (As := [.ref p0, .ref y64]) (rest := []) cx hB (fun _ h => h) hN hv kv (by decide) rfl (g_X7_readNumber l g hN hB.2.1 v hv kv p0 hp0 kp0 y64 hy64 ky64) q_cX7_92 q_dX7_readNumber (by decide) rfl rfl hl.1 rfl (Nat.le_of_ble_eq_true rfl) dX7_readCommand_113 (fun y86 H locs f85 ry86 h87 hF hB => ?_)
          obtain ⟨ly86, uy86⟩ := h87
          have z88 : q_ir (q_r f85 v 0) p59 := Eq.trans (hF.r hv (by rw [kv]; rfl)) z83
          refine q_ifeq (tgt := 123) cx ⟨by omega, by omega⟩ dX7_readCommand_116 (by decide) (fun c89 => ?_) (fun c89 => ?_)
          · exact J123 f85 H locs hB ls (lv_sub hl [] rfl)
          · refine q_iconst cx dX7_readCommand_119 ?_
            refine lv_goto (tgt := 124) cx.1 cx.2.1 dX7_readCommand_120 (by decide) ?_
            exact J124 f85 1 (by decide) (by decide) H locs hB ls (lv_sub hl [] rfl)
      · refine q_ald_n cx dX7_readCommand_90 rfl (lv_at hl 1 rfl) ?_
        refine q_ald_n cx dX7_readCommand_91 rfl (lv_at hl 2 rfl) ?_
        refine lv_aload cx.1 cx.2.1 dX7_readCommand_92 (lv_at hl 0 rfl) ?_
        refine q_cVi (As := [.ref p0, .ref y64]) (rest := []) cx hB (fun _ h => h) hN hv kv (by decide) rfl (g_X7_openRepeat l g hN hB.2.1 v hv kv p0 hp0 kp0 y64 hy64 ky64) q_cX7_84 q_dX7_openRepeat (by decide) rfl rfl hl.1 rfl (Nat.le_of_ble_eq_true rfl) dX7_readCommand_94 (fun y91 H locs f90 ry91 h92 hF hB => ?_)
        obtain ⟨ly91, uy91⟩ := h92
        have z93 : q_ir (q_r f90 v 0) p59 := Eq.trans (hF.r hv (by rw [kv]; rfl)) z78
        refine W.widen (k := 0) (n := 0) (by decide) (by decide) ?_
        refine vx_ret ?_
        refine q_zret cx hr hlk hB dX7_readCommand_97 (by omega) (by omega) ?_
        exact ⟨(by omega), (by omega)⟩
    · refine q_ald_n cx dX7_readCommand_48 rfl (lv_at hl 1 rfl) ?_
      refine q_iconst cx dX7_readCommand_49 ?_
      refine q_cVi (As := [.int (q_i 5)]) (rest := []) cx hB (fun _ h => h) hN hp0 kp0 (by decide) rfl (g_X8_fail l g hN hB.2.1 p0 hp0 kp0 5 (by decide) (by decide)) q_cX7_49 q_dX8_fail (by decide) rfl rfl hl.1 rfl (Nat.le_of_ble_eq_true rfl) dX7_readCommand_50 (fun y95 H locs f94 ry95 h96 hF hB => ?_)
      obtain ⟨ly95, uy95⟩ := h96
      have z97 : q_ir (q_r f94 v 0) p59 := Eq.trans (hF.r hv (by rw [kv]; rfl)) ep59
      refine W.widen (k := 0) (n := 0) (by decide) (by decide) ?_
      refine vx_ret ?_
      refine q_zret cx hr hlk hB dX7_readCommand_53 (by omega) (by omega) ?_
      exact ⟨(by omega), (by omega)⟩
  obtain ⟨H, hH⟩ : ∃ H : Heap, H = s.heap := ⟨_, rfl⟩
  obtain ⟨locs, hlocs⟩ : ∃ z : List Loc, z = [] := ⟨_, rfl⟩
  rw [← hH, ← hlocs] at hB
  rw [← hH, ← hlocs]
  refine q_ald_n cx dX7_readCommand_0 rfl (lv_at hl 1 rfl) ?_
  refine q_cXS (As := [.ref p0]) (rest := []) cx hX hB (fun _ h => h) (fun _ h _ => h) hN (g_X7_kindOfWord l g ad hN hB.2.1 hfl p0 hp0 kp0) q_cX7_70 q_dX7_kindOfWord (by decide) rfl rfl hl.1 rfl (Nat.le_of_ble_eq_true rfl) dX7_readCommand_1 (fun E9 ce9 q9 H locs f101 hex hF hB hcell hcv hcl => ?_) (fun v9 H locs f98 h100 hF hB => ?_)
  · exact hex.elim
  · obtain ⟨y99, rfl, ry99, h100⟩ := h100
    refine W.eq (g2 := F0 m 4 ls [.int (q_i y99)]) rfl ?_
    obtain ⟨rfl, ly99, uy99⟩ := h100
    refine lv_istore_n (lv' := [(3, .int (q_i y99)), (0, .ref v), (1, .ref p0), (2, .ref p1)]) cx.1 cx.2.1 dX7_readCommand_4 rfl hl (by decide) rfl (fun ls hl => ?_)
    refine q_ild_n cx dX7_readCommand_5 rfl (lv_at hl 0 rfl) ?_
    refine q_iconst cx dX7_readCommand_6 ?_
    refine q_icne (tgt := 16) cx ⟨by omega, by omega⟩ ⟨by decide, by decide⟩ dX7_readCommand_7 (by decide) (fun c102 => ?_) (fun c102 => ?_)
    · refine q_ild_n cx dX7_readCommand_16 rfl (lv_at hl 0 rfl) ?_
      refine q_bipush cx dX7_readCommand_17 rfl ?_
      refine q_icne (tgt := 36) cx ⟨by omega, by omega⟩ ⟨by decide, by decide⟩ dX7_readCommand_19 (by decide) (fun c103 => ?_) (fun c103 => ?_)
      · exact J36 y99 (by omega) (by omega) H locs hB ls (lv_sub hl [1, 2, 3, 0] rfl)
      · refine q_ald_n cx dX7_readCommand_22 rfl (lv_at hl 1 rfl) ?_
        obtain ⟨x104, ex104⟩ : ∃ zz, q_is (q_z f v 4) zz := ⟨_, q_isr _⟩
        refine q_gX7_25 cx hB hv kv ex104 dX7_readCommand_23 (fun lb105 ub105 => ?_)
        refine q_iconst cx dX7_readCommand_26 ?_
        refine q_iclt (tgt := 36) cx ⟨by omega, by omega⟩ ⟨by decide, by decide⟩ dX7_readCommand_27 (by decide) (fun c106 => ?_) (fun c106 => ?_)
        · exact J36 y99 (by omega) (by omega) H locs hB ls (lv_sub hl [1, 2, 3, 0] rfl)
        · refine q_ald_n cx dX7_readCommand_30 rfl (lv_at hl 2 rfl) ?_
          refine q_iconst cx dX7_readCommand_31 ?_
          refine q_cVi (As := [.int (q_i 3)]) (rest := []) cx hB (fun _ h => h) hN hp0 kp0 (by decide) rfl (g_X8_fail l g hN hB.2.1 p0 hp0 kp0 3 (by decide) (by decide)) q_cX7_49 q_dX8_fail (by decide) rfl rfl hl.1 rfl (Nat.le_of_ble_eq_true rfl) dX7_readCommand_32 (fun y108 H locs f107 ry108 h109 hF hB => ?_)
          obtain ⟨ly108, uy108⟩ := h109
          refine W.widen (k := 0) (n := 0) (by decide) (by decide) ?_
          refine vx_ret ?_
          refine q_zret cx hr hlk hB dX7_readCommand_35 (by omega) (by omega) ?_
          exact ⟨(by omega), (by omega)⟩
    · refine q_ald_n cx dX7_readCommand_10 rfl (lv_at hl 2 rfl) ?_
      refine q_iconst cx dX7_readCommand_11 ?_
      refine q_cVi (As := [.int (q_i 1)]) (rest := []) cx hB (fun _ h => h) hN hp0 kp0 (by decide) rfl (g_X8_fail l g hN hB.2.1 p0 hp0 kp0 1 (by decide) (by decide)) q_cX7_49 q_dX8_fail (by decide) rfl rfl hl.1 rfl (Nat.le_of_ble_eq_true rfl) dX7_readCommand_12 (fun y111 H locs f110 ry111 h112 hF hB => ?_)
      obtain ⟨ly111, uy111⟩ := h112
      refine W.widen (k := 0) (n := 0) (by decide) (by decide) ?_
      refine vx_ret ?_
      refine q_zret cx hr hlk hB dX7_readCommand_15 (by omega) (by omega) ?_
      exact ⟨(by omega), (by omega)⟩
set_option maxHeartbeats 4000000 in
set_option maxRecDepth 100000 in
theorem g_X7_readAll (l : Launch) (g : q_G) (ad : Nat → Nat) {K : Nat → Nat} {L : List Nat} (hN : L.Nodup) {f : Nat → va_E} (hT : q_Ty g K L f) (hfl : l.stackTraces = false) (v : Nat) (hv : v ∈ L) (kv : K v = 7) (p0 : Nat) (hp0 : p0 ∈ L) (kp0 : K p0 = 8) (p1 : Nat) (hp1 : p1 ∈ L) (kp1 : K p1 = 10) : q_Xt l g ad K L yX7_readAll cX7_readAll 5 (some .boolean) 7 151 0 0 [.ref v, .ref p0, .ref p1] f [(0, 0, 5), (7, 1, 1), (7, 3, 4), (8, 2, 9)] (q_Pi (fun (z : Int) (f1 : Nat → va_E) => 0 ≤ z ∧ z ≤ 1)) (fun (_ : String) (_ : Nat → va_E) => False) := by
  refine q_xofb (by decide +kernel) hN hT (Nat.le_of_ble_eq_true rfl) ?_
  intro p e s m below meth c ls cx hr hlk htab hX hB hl
  have hl : lv_has ls 5 [(0, .ref v), (1, .ref p0), (2, .ref p1)] := hl
  have J102 : ∀ (f102 : Nat → va_E) (t102_0 : Int) (lt102_0 : 0 ≤ t102_0) (ut102_0 : t102_0 ≤ 1) (H : Heap) (locs : List Loc) (hB : q_B g K L (fun q => q ∈ L) [(0, 0, 5), (7, 1, 1), (7, 3, 4), (8, 2, 9)] f f102 s H locs) (ls : Array Slot) (hl : lv_has ls 5 []), W p l e { frames := 7, cells := 0, slots := 0, locals := 151 } s m ([.ref v, .ref p0, .ref p1] : List Value).toArray below meth c H locs 0 0 (vx_MQ below (q_Q g K L [(0, 0, 5), (7, 1, 1), (7, 3, 4), (8, 2, 9)] f (q_Pi (fun (z : Int) (f1 : Nat → va_E) => 0 ≤ z ∧ z ≤ 1))) (q_XC g K L [(0, 0, 5), (7, 1, 1), (7, 3, 4), (8, 2, 9)] f (fun (_ : String) (_ : Nat → va_E) => False)) ([.ref v, .ref p0, .ref p1] : List Value).toArray s 0 0 (fun q => q ∈ L)) (F0 m 102 ls [.int (q_i t102_0)]) := by
    intro f102 t102_0 lt102_0 ut102_0 H locs hB ls hl
    refine W.widen (k := 0) (n := 0) (by decide) (by decide) ?_
    refine vx_ret ?_
    refine q_zret cx hr hlk hB dX7_readAll_102 (by omega) (by omega) ?_
    exact ⟨(by omega), (by omega)⟩
  have J97 : ∀ (f97 : Nat → va_E) (H : Heap) (locs : List Loc) (hB : q_B g K L (fun q => q ∈ L) [(0, 0, 5), (7, 1, 1), (7, 3, 4), (8, 2, 9)] f f97 s H locs) (ls : Array Slot) (hl : lv_has ls 5 []), W p l e { frames := 7, cells := 0, slots := 0, locals := 151 } s m ([.ref v, .ref p0, .ref p1] : List Value).toArray below meth c H locs 0 0 (vx_MQ below (q_Q g K L [(0, 0, 5), (7, 1, 1), (7, 3, 4), (8, 2, 9)] f (q_Pi (fun (z : Int) (f1 : Nat → va_E) => 0 ≤ z ∧ z ≤ 1))) (q_XC g K L [(0, 0, 5), (7, 1, 1), (7, 3, 4), (8, 2, 9)] f (fun (_ : String) (_ : Nat → va_E) => False)) ([.ref v, .ref p0, .ref p1] : List Value).toArray s 0 0 (fun q => q ∈ L)) (F0 m 97 ls []) := by
    intro f97 H locs hB ls hl
    refine q_iconst cx dX7_readAll_97 ?_
    refine lv_goto (tgt := 102) cx.1 cx.2.1 dX7_readAll_98 (by decide) ?_
    exact J102 f97 1 (by decide) (by decide) H locs hB ls (lv_sub hl [] rfl)
  have J81 : ∀ (f81 : Nat → va_E) (H : Heap) (locs : List Loc) (hB : q_B g K L (fun q => q ∈ L) [(0, 0, 5), (7, 1, 1), (7, 3, 4), (8, 2, 9)] f f81 s H locs) (ls : Array Slot) (hl : lv_has ls 5 [(0, .ref v), (1, .ref p0)]), W p l e { frames := 7, cells := 0, slots := 0, locals := 151 } s m ([.ref v, .ref p0, .ref p1] : List Value).toArray below meth c H locs 0 0 (vx_MQ below (q_Q g K L [(0, 0, 5), (7, 1, 1), (7, 3, 4), (8, 2, 9)] f (q_Pi (fun (z : Int) (f1 : Nat → va_E) => 0 ≤ z ∧ z ≤ 1))) (q_XC g K L [(0, 0, 5), (7, 1, 1), (7, 3, 4), (8, 2, 9)] f (fun (_ : String) (_ : Nat → va_E) => False)) ([.ref v, .ref p0, .ref p1] : List Value).toArray s 0 0 (fun q => q ∈ L)) (F0 m 81 ls []) := by
    intro f81 H locs hB ls hl
    refine q_ald_n cx dX7_readAll_81 rfl (lv_at hl 0 rfl) ?_
    obtain ⟨x572, ex572⟩ : ∃ zz, q_is (q_z f81 v 3) zz := ⟨_, q_isr _⟩
    refine q_gX7_22 cx hB hv kv ex572 dX7_readAll_82 (fun lb573 ub573 => ?_)
    refine q_iconst cx dX7_readAll_85 ?_
    refine q_iceq (tgt := 97) cx ⟨by omega, by omega⟩ ⟨by decide, by decide⟩ dX7_readAll_86 (by decide) (fun c574 => ?_) (fun c574 => ?_)
    · exact J97 f81 H locs hB ls (lv_sub hl [] rfl)
    · refine q_ald_n cx dX7_readAll_89 rfl (lv_at hl 1 rfl) ?_
      refine q_iconst cx dX7_readAll_90 ?_
      refine q_cVi (As := [.int (q_i 1)]) (rest := []) cx hB (fun _ h => h) hN hp0 kp0 (by decide) rfl (g_X8_fail l g hN hB.2.1 p0 hp0 kp0 1 (by decide) (by decide)) q_cX7_49 q_dX8_fail (by decide) rfl rfl hl.1 rfl (Nat.le_of_ble_eq_true rfl) dX7_readAll_91 (fun y576 H locs f575 ry576 h577 hF hB => ?_)
      obtain ⟨ly576, uy576⟩ := h577
      refine q_ifeq (tgt := 101) cx ⟨by omega, by omega⟩ dX7_readAll_94 (by decide) (fun c578 => ?_) (fun c578 => ?_)
      · refine q_iconst cx dX7_readAll_101 ?_
        exact J102 f575 0 (by decide) (by decide) H locs hB ls (lv_sub hl [] rfl)
      · exact absurd c578 (by omega)
  have J21 : ∀ (n : Nat) (f21 : Nat → va_E) (v21_3 : Int) (lv21_3 : 0 ≤ v21_3) (uv21_3 : v21_3 ≤ 657) (hmu : (Int.toNat (2147483647 - v21_3)) < n) (H : Heap) (locs : List Loc) (hB : q_B g K L (fun q => q ∈ L) [(0, 0, 5), (7, 1, 1), (7, 3, 4), (8, 2, 9)] f f21 s H locs) (ls : Array Slot) (hl : lv_has ls 5 [(0, .ref v), (1, .ref p0), (2, .ref p1), (3, .int (q_i v21_3))]), W p l e { frames := 7, cells := 0, slots := 0, locals := 151 } s m ([.ref v, .ref p0, .ref p1] : List Value).toArray below meth c H locs 0 0 (vx_MQ below (q_Q g K L [(0, 0, 5), (7, 1, 1), (7, 3, 4), (8, 2, 9)] f (q_Pi (fun (z : Int) (f1 : Nat → va_E) => 0 ≤ z ∧ z ≤ 1))) (q_XC g K L [(0, 0, 5), (7, 1, 1), (7, 3, 4), (8, 2, 9)] f (fun (_ : String) (_ : Nat → va_E) => False)) ([.ref v, .ref p0, .ref p1] : List Value).toArray s 0 0 (fun q => q ∈ L)) (F0 m 21 ls []) := by
    intro n
    induction n with
    | zero =>
      intro f21 v21_3 lv21_3 uv21_3 hmu
      exact absurd hmu (Nat.not_lt_zero _)
    | succ n ih21 =>
      intro f21 v21_3 lv21_3 uv21_3 hmu H locs hB ls hl
      have J66 : ∀ (f66 : Nat → va_E) (t66_0 : Int) (lt66_0 : 0 ≤ t66_0) (ut66_0 : t66_0 ≤ 1) (buv21_3 : v21_3 ≤ 600) (H : Heap) (locs : List Loc) (hB : q_B g K L (fun q => q ∈ L) [(0, 0, 5), (7, 1, 1), (7, 3, 4), (8, 2, 9)] f f66 s H locs) (ls : Array Slot) (hl : lv_has ls 5 [(0, .ref v), (1, .ref p0), (2, .ref p1), (3, .int (q_i v21_3))]), W p l e { frames := 7, cells := 0, slots := 0, locals := 151 } s m ([.ref v, .ref p0, .ref p1] : List Value).toArray below meth c H locs 0 0 (vx_MQ below (q_Q g K L [(0, 0, 5), (7, 1, 1), (7, 3, 4), (8, 2, 9)] f (q_Pi (fun (z : Int) (f1 : Nat → va_E) => 0 ≤ z ∧ z ≤ 1))) (q_XC g K L [(0, 0, 5), (7, 1, 1), (7, 3, 4), (8, 2, 9)] f (fun (_ : String) (_ : Nat → va_E) => False)) ([.ref v, .ref p0, .ref p1] : List Value).toArray s 0 0 (fun q => q ∈ L)) (F0 m 66 ls [.int (q_i t66_0)]) := by
        intro f66 t66_0 lt66_0 ut66_0 buv21_3 H locs hB ls hl
        refine lv_istore (lv' := [(4, .int (q_i t66_0)), (0, .ref v), (1, .ref p0), (2, .ref p1), (3, .int (q_i v21_3))]) cx.1 cx.2.1 dX7_readAll_66 hl (by decide) rfl (fun ls hl => ?_)
        refine lv_iload cx.1 cx.2.1 dX7_readAll_68 (lv_at hl 0 rfl) ?_
        refine q_ifne (tgt := 75) cx ⟨by omega, by omega⟩ dX7_readAll_70 (by decide) (fun c579 => ?_) (fun c579 => ?_)
        · refine q_iinc (lv' := [(3, .int (q_i (v21_3 + 1))), (4, .int (q_i t66_0)), (0, .ref v), (1, .ref p0), (2, .ref p1)]) cx dX7_readAll_75 hl (k := 4) rfl (by decide) rfl (fun ls hl => ?_)
          refine lv_goto (tgt := 21) cx.1 cx.2.1 dX7_readAll_78 (by decide) ?_
          exact ih21 f66 (v21_3 + 1) (by omega) (by omega) (by omega) H locs hB ls (lv_sub hl [2, 3, 4, 0] rfl)
        · refine q_iconst cx dX7_readAll_73 ?_
          refine W.widen (k := 0) (n := 0) (by decide) (by decide) ?_
          refine vx_ret ?_
          refine q_zret cx hr hlk hB dX7_readAll_74 (by decide) (by decide) ?_
          exact ⟨(by decide), (by decide)⟩
      have J60 : ∀ (f60 : Nat → va_E) (buv21_3 : v21_3 ≤ 600) (H : Heap) (locs : List Loc) (hB : q_B g K L (fun q => q ∈ L) [(0, 0, 5), (7, 1, 1), (7, 3, 4), (8, 2, 9)] f f60 s H locs) (ls : Array Slot) (hl : lv_has ls 5 [(0, .ref v), (1, .ref p0), (2, .ref p1), (3, .int (q_i v21_3))]), W p l e { frames := 7, cells := 0, slots := 0, locals := 151 } s m ([.ref v, .ref p0, .ref p1] : List Value).toArray below meth c H locs 0 0 (vx_MQ below (q_Q g K L [(0, 0, 5), (7, 1, 1), (7, 3, 4), (8, 2, 9)] f (q_Pi (fun (z : Int) (f1 : Nat → va_E) => 0 ≤ z ∧ z ≤ 1))) (q_XC g K L [(0, 0, 5), (7, 1, 1), (7, 3, 4), (8, 2, 9)] f (fun (_ : String) (_ : Nat → va_E) => False)) ([.ref v, .ref p0, .ref p1] : List Value).toArray s 0 0 (fun q => q ∈ L)) (F0 m 60 ls []) := by
        intro f60 buv21_3 H locs hB ls hl
        refine q_ald_n cx dX7_readAll_60 rfl (lv_at hl 0 rfl) ?_
        refine q_ald_n cx dX7_readAll_61 rfl (lv_at hl 1 rfl) ?_
        refine q_ald_n cx dX7_readAll_62 rfl (lv_at hl 2 rfl) ?_
        refine q_cXV (As := [.ref p0, .ref p1]) (rest := []) cx hX hB (fun _ h => h) (fun _ h _ => h) hN hv kv (by decide) rfl (g_X7_readCommand l g ad hN hB.2.1 hfl v hv kv p0 hp0 kp0 p1 hp1 kp1) q_cX7_45 q_dX7_readCommand (by decide) rfl rfl hl.1 rfl (Nat.le_of_ble_eq_true rfl) dX7_readAll_63 (fun E9 ce9 q9 H locs f583 hex hF hB hcell hcv hcl => ?_) (fun v9 H locs f580 h582 hF hB => ?_)
        · exact hex.elim
        · obtain ⟨y581, rfl, ry581, h582⟩ := h582
          refine W.eq (g2 := F0 m 66 ls [.int (q_i y581)]) rfl ?_
          obtain ⟨ly581, uy581⟩ := h582
          exact J66 f580 y581 (by omega) (by omega) (by omega) H locs hB ls (lv_sub hl [0, 1, 2, 3] rfl)
      refine q_ild_n cx dX7_readAll_21 rfl (lv_at hl 3 rfl) ?_
      refine q_sipush cx dX7_readAll_22 rfl ?_
      refine q_icgt (tgt := 81) cx ⟨by omega, by omega⟩ ⟨by decide, by decide⟩ dX7_readAll_25 (by decide) (fun c584 => ?_) (fun c584 => ?_)
      · exact J81 f21 H locs hB ls (lv_sub hl [0, 1] rfl)
      · refine q_ald_n cx dX7_readAll_28 rfl (lv_at hl 1 rfl) ?_
        refine q_cVi (As := []) (rest := []) cx hB (fun _ h => h) hN hp0 kp0 (by decide) rfl (g_X8_isAtEnd l g hN hB.2.1 p0 hp0 kp0) q_cX7_33 q_dX8_isAtEnd (by decide) rfl rfl hl.1 rfl (Nat.le_of_ble_eq_true rfl) dX7_readAll_29 (fun y586 H locs f585 ry586 h587 hF hB => ?_)
        obtain ⟨rfl, ly586, uy586⟩ := h587
        refine q_ifne (tgt := 81) cx ⟨by omega, by omega⟩ dX7_readAll_32 (by decide) (fun c588 => ?_) (fun c588 => ?_)
        · exact J81 f21 H locs hB ls (lv_sub hl [0, 1] rfl)
        · refine q_ald_n cx dX7_readAll_35 rfl (lv_at hl 0 rfl) ?_
          obtain ⟨x589, ex589⟩ : ∃ zz, q_is (q_z f21 v 3) zz := ⟨_, q_isr _⟩
          refine q_gX7_22 cx hB hv kv ex589 dX7_readAll_36 (fun lb590 ub590 => ?_)
          refine q_iconst cx dX7_readAll_39 ?_
          refine q_iceq (tgt := 60) cx ⟨by omega, by omega⟩ ⟨by decide, by decide⟩ dX7_readAll_40 (by decide) (fun c591 => ?_) (fun c591 => ?_)
          · exact J60 f21 (by omega) H locs hB ls (lv_sub hl [0, 1, 2, 3] rfl)
          · refine q_ald_n cx dX7_readAll_43 rfl (lv_at hl 1 rfl) ?_
            refine q_bipush cx dX7_readAll_44 rfl ?_
            refine q_cVi (As := [.int (q_i 41)]) (rest := []) cx hB (fun _ h => h) hN hp0 kp0 (by decide) rfl (g_X8_isMark l g hN hB.2.1 p0 hp0 kp0 41 (by decide) (by decide)) q_cX7_37 q_dX8_isMark (by decide) rfl rfl hl.1 rfl (Nat.le_of_ble_eq_true rfl) dX7_readAll_46 (fun y593 H locs f592 ry593 h594 hF hB => ?_)
            obtain ⟨rfl, ly593, uy593⟩ := h594
            refine q_ifeq (tgt := 60) cx ⟨by omega, by omega⟩ dX7_readAll_49 (by decide) (fun c595 => ?_) (fun c595 => ?_)
            · exact J60 f21 (by omega) H locs hB ls (lv_sub hl [0, 1, 2, 3] rfl)
            · refine q_ald_n cx dX7_readAll_52 rfl (lv_at hl 0 rfl) ?_
              refine q_ald_n cx dX7_readAll_53 rfl (lv_at hl 1 rfl) ?_
              refine q_cVi (As := [.ref p0]) (rest := []) cx hB (fun _ h => h) hN hv kv (by decide) rfl (g_X7_closeRepeat l g hN hB.2.1 v hv kv p0 hp0 kp0) q_cX7_41 q_dX7_closeRepeat (by decide) rfl rfl hl.1 rfl (Nat.le_of_ble_eq_true rfl) dX7_readAll_54 (fun y597 H locs f596 ry597 h598 hF hB => ?_)
              obtain ⟨ly597, uy597⟩ := h598
              refine lv_goto (tgt := 66) cx.1 cx.2.1 dX7_readAll_57 (by decide) ?_
              exact J66 f596 y597 (by omega) (by omega) (by omega) H locs hB ls (lv_sub hl [0, 1, 2, 3] rfl)
  obtain ⟨H, hH⟩ : ∃ H : Heap, H = s.heap := ⟨_, rfl⟩
  obtain ⟨locs, hlocs⟩ : ∃ z : List Loc, z = [] := ⟨_, rfl⟩
  rw [← hH, ← hlocs] at hB
  rw [← hH, ← hlocs]
  refine q_ald_n cx dX7_readAll_0 rfl (lv_at hl 0 rfl) ?_
  refine q_iconst cx dX7_readAll_1 ?_
  refine q_pX7_18 cx hB hv kv ⟨by decide, by decide⟩ (by decide) (by decide) rfl dX7_readAll_2 (fun H locs f599 ef599 z600 hB => ?_)
  refine q_ald_n cx dX7_readAll_5 rfl (lv_at hl 0 rfl) ?_
  refine q_iconst cx dX7_readAll_6 ?_
  refine q_pX7_22 cx hB hv kv ⟨by decide, by decide⟩ (by decide) (by decide) rfl dX7_readAll_7 (fun H locs f601 ef601 z602 hB => ?_)
  refine q_ald_n cx dX7_readAll_10 rfl (lv_at hl 0 rfl) ?_
  refine q_iconst cx dX7_readAll_11 ?_
  refine q_pX7_25 cx hB hv kv ⟨by decide, by decide⟩ (by decide) (by decide) rfl dX7_readAll_12 (fun H locs f603 ef603 z604 hB => ?_)
  refine q_ald_n cx dX7_readAll_15 rfl (lv_at hl 1 rfl) ?_
  refine q_cVv (As := []) (rest := []) cx hB (fun _ h => h) hN hp0 kp0 (by decide) rfl (g_X8_begin l g hN hB.2.1 p0 hp0 kp0) q_cX7_28 q_dX8_begin (by decide) rfl rfl hl.1 rfl (Nat.le_of_ble_eq_true rfl) dX7_readAll_16 (fun H locs f605 h607 hF hB => ?_)
  refine q_iconst cx dX7_readAll_19 ?_
  refine lv_istore_n (lv' := [(3, .int (q_i 0)), (0, .ref v), (1, .ref p0), (2, .ref p1)]) cx.1 cx.2.1 dX7_readAll_20 rfl hl (by decide) rfl (fun ls hl => ?_)
  exact J21 ((Int.toNat (2147483647 - 0)) + 1) f605 0 (by decide) (by decide) (Nat.lt_succ_self _) H locs hB ls (lv_sub hl [1, 2, 3, 0] rfl)
