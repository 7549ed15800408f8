set_option maxHeartbeats 4000000 in
set_option maxRecDepth 100000 in
theorem m_bitCount0 (l : Launch) (g : q_G) {K : Nat → Nat} {L : List Nat} (hN : L.Nodup) {f : Nat → va_E} (hT : q_Ty g K L f) (x : Int) (lx : 0 ≤ x) (ux : x ≤ 0) : q_Ct l g K L yJ6_bitCount_0f7a4 cJ6_bitCount_0f7a4 1 (some .int) 0 0 [.int (q_i x)] f [] (q_Pi (fun (z : Int) (f1 : Nat → va_E) => f = f1 ∧ z = 0)) := by
  obtain rfl : x = 0 := by omega
  refine q_ofb (by decide +kernel) hN hT (Nat.le_of_ble_eq_true rfl) ?_
  intro p e s m below meth c ls cx hr hlk hB hl
  have hl : lv_has ls 1 [(0, .int (q_i 0))] := hl
  obtain ⟨H, hH⟩ : ∃ H : Heap, H = s.heap := ⟨_, rfl⟩
  obtain ⟨locs, hlocs⟩ : ∃ z : List Loc, z = [] := ⟨_, rfl⟩
  rw [← hH, ← hlocs] at hB
  rw [← hH, ← hlocs]
  refine q_ild_n cx dJ6_bitCount_0f7a4_0 rfl (lv_at hl 0 rfl) ?_
  refine q_ild_n cx dJ6_bitCount_0f7a4_1 rfl (lv_at hl 0 rfl) ?_
  refine q_iconst cx dJ6_bitCount_0f7a4_2 ?_
  refine lv_iushr (v := q_i 0) cx.1 cx.2.1 dJ6_bitCount_0f7a4_3 (by decide) ?_
  refine lv_ldcw (v := q_i 1431655765) cx.1 cx.2.1 cx.2.2.2.1 (cx.2.2.2.2 _ q_h635) dJ6_bitCount_0f7a4_4 ?_
  refine lv_iand cx.1 cx.2.1 dJ6_bitCount_0f7a4_7 ?_
  rw [show q_i 0 &&& q_i 1431655765 = q_i 0 from by decide]
  refine q_isub cx dJ6_bitCount_0f7a4_8 ?_
  refine lv_istore_n (lv' := [(0, .int (q_i (0 - 0)))]) cx.1 cx.2.1 dJ6_bitCount_0f7a4_9 rfl hl (by decide) rfl (fun ls hl => ?_)
  refine q_ild_n cx dJ6_bitCount_0f7a4_10 rfl (lv_at hl 0 rfl) ?_
  refine lv_ldcw (v := q_i 858993459) cx.1 cx.2.1 cx.2.2.2.1 (cx.2.2.2.2 _ q_h636) dJ6_bitCount_0f7a4_11 ?_
  refine lv_iand cx.1 cx.2.1 dJ6_bitCount_0f7a4_14 ?_
  rw [show q_i (0 - 0) &&& q_i 858993459 = q_i 0 from by decide]
  refine q_ild_n cx dJ6_bitCount_0f7a4_15 rfl (lv_at hl 0 rfl) ?_
  refine q_iconst cx dJ6_bitCount_0f7a4_16 ?_
  refine lv_iushr (v := q_i 0) cx.1 cx.2.1 dJ6_bitCount_0f7a4_17 (by decide) ?_
  refine lv_ldcw (v := q_i 858993459) cx.1 cx.2.1 cx.2.2.2.1 (cx.2.2.2.2 _ q_h636) dJ6_bitCount_0f7a4_18 ?_
  refine lv_iand cx.1 cx.2.1 dJ6_bitCount_0f7a4_21 ?_
  rw [show q_i 0 &&& q_i 858993459 = q_i 0 from by decide]
  refine q_iadd cx dJ6_bitCount_0f7a4_22 ?_
  refine lv_istore_n (lv' := [(0, .int (q_i (0 + 0)))]) cx.1 cx.2.1 dJ6_bitCount_0f7a4_23 rfl hl (by decide) rfl (fun ls hl => ?_)
  refine q_ild_n cx dJ6_bitCount_0f7a4_24 rfl (lv_at hl 0 rfl) ?_
  refine q_ild_n cx dJ6_bitCount_0f7a4_25 rfl (lv_at hl 0 rfl) ?_
  refine q_iconst cx dJ6_bitCount_0f7a4_26 ?_
  refine lv_iushr (v := q_i 0) cx.1 cx.2.1 dJ6_bitCount_0f7a4_27 (by decide) ?_
  refine q_iadd cx dJ6_bitCount_0f7a4_28 ?_
  refine lv_ldcw (v := q_i 252645135) cx.1 cx.2.1 cx.2.2.2.1 (cx.2.2.2.2 _ q_h637) dJ6_bitCount_0f7a4_29 ?_
  refine lv_iand cx.1 cx.2.1 dJ6_bitCount_0f7a4_32 ?_
  rw [show q_i ((0 + 0) + 0) &&& q_i 252645135 = q_i 0 from by decide]
  refine lv_istore_n (lv' := [(0, .int (q_i 0))]) cx.1 cx.2.1 dJ6_bitCount_0f7a4_33 rfl hl (by decide) rfl (fun ls hl => ?_)
  refine q_ild_n cx dJ6_bitCount_0f7a4_34 rfl (lv_at hl 0 rfl) ?_
  refine q_ild_n cx dJ6_bitCount_0f7a4_35 rfl (lv_at hl 0 rfl) ?_
  refine q_bipush cx dJ6_bitCount_0f7a4_36 rfl ?_
  refine lv_iushr (v := q_i 0) cx.1 cx.2.1 dJ6_bitCount_0f7a4_38 (by decide) ?_
  refine q_iadd cx dJ6_bitCount_0f7a4_39 ?_
  refine lv_istore_n (lv' := [(0, .int (q_i (0 + 0)))]) cx.1 cx.2.1 dJ6_bitCount_0f7a4_40 rfl hl (by decide) rfl (fun ls hl => ?_)
  refine q_ild_n cx dJ6_bitCount_0f7a4_41 rfl (lv_at hl 0 rfl) ?_
  refine q_ild_n cx dJ6_bitCount_0f7a4_42 rfl (lv_at hl 0 rfl) ?_
  refine q_bipush cx dJ6_bitCount_0f7a4_43 rfl ?_
  refine lv_iushr (v := q_i 0) cx.1 cx.2.1 dJ6_bitCount_0f7a4_45 (by decide) ?_
  refine q_iadd cx dJ6_bitCount_0f7a4_46 ?_
  refine lv_istore_n (lv' := [(0, .int (q_i ((0 + 0) + 0)))]) cx.1 cx.2.1 dJ6_bitCount_0f7a4_47 rfl hl (by decide) rfl (fun ls hl => ?_)
  refine q_ild_n cx dJ6_bitCount_0f7a4_48 rfl (lv_at hl 0 rfl) ?_
  refine q_bipush cx dJ6_bitCount_0f7a4_49 rfl ?_
  refine lv_iand cx.1 cx.2.1 dJ6_bitCount_0f7a4_51 ?_
  rw [show q_i ((0 + 0) + 0) &&& q_i 63 = q_i 0 from by decide]
  refine q_iret cx hr hlk hB dJ6_bitCount_0f7a4_52 ⟨by decide, by decide⟩ ?_
  exact ⟨rfl, rfl⟩
set_option maxHeartbeats 4000000 in
set_option maxRecDepth 100000 in
theorem m_hasRoom (l : Launch) (g : q_G) {K : Nat → Nat} {L : List Nat} (hN : L.Nodup) {f : Nat → va_E} (hT : q_Ty g K L f) (v : Nat) (hv : v ∈ L) (kv : K v = 8) (n : Int) (ln : 0 ≤ n) (un : n ≤ 580) (hf0 : q_z f v 1 = n) : q_Ct l g K L yX8_hasRoomForFeed cX8_hasRoomForFeed 1 (some .boolean) 0 0 [.ref v] f [] (q_Pi (fun (z : Int) (f1 : Nat → va_E) => f = f1 ∧ z = 1)) := by
  refine q_ofb (by decide +kernel) hN hT (Nat.le_of_ble_eq_true rfl) ?_
  intro p e s m below meth c ls cx hr hlk hB hl
  have hl : lv_has ls 1 [(0, .ref v)] := hl
  obtain ⟨H, hH⟩ : ∃ H : Heap, H = s.heap := ⟨_, rfl⟩
  obtain ⟨locs, hlocs⟩ : ∃ z : List Loc, z = [] := ⟨_, rfl⟩
  rw [← hH, ← hlocs] at hB
  rw [← hH, ← hlocs]
  refine q_ald_n cx dX8_hasRoomForFeed_0 rfl (lv_at hl 0 rfl) ?_
  refine q_gX8_19 cx hB hv kv hf0 dX8_hasRoomForFeed_1 (fun lb3 ub3 => ?_)
  refine q_bipush cx dX8_hasRoomForFeed_4 rfl ?_
  refine q_iadd cx dX8_hasRoomForFeed_6 ?_
  refine q_sipush cx dX8_hasRoomForFeed_7 rfl ?_
  refine q_icgt (tgt := 17) cx ⟨by omega, by omega⟩ ⟨by decide, by decide⟩ dX8_hasRoomForFeed_10 (by decide) (fun c4 => ?_) (fun c4 => ?_)
  · exact absurd c4 (by omega)
  · refine q_iconst cx dX8_hasRoomForFeed_13 ?_
    refine lv_goto (tgt := 18) cx.1 cx.2.1 dX8_hasRoomForFeed_14 (by decide) ?_
    refine q_zret cx hr hlk hB dX8_hasRoomForFeed_18 (by decide) (by decide) ?_
    exact ⟨rfl, rfl⟩
set_option maxHeartbeats 4000000 in
set_option maxRecDepth 100000 in
theorem m_append (l : Launch) (g : q_G) {K : Nat → Nat} {L : List Nat} (hN : L.Nodup) {f : Nat → va_E} (hT : q_Ty g K L f) (v : Nat) (hv : v ∈ L) (kv : K v = 8) (x : Int) (lx : (-2147483648) ≤ x) (ux : x ≤ 2147483647) (n : Int) (ln : 0 ≤ n) (un : n ≤ 596) (hf0 : q_z f v 1 = n) : q_Ct l g K L yX8_append cX8_append 3 none 0 0 [.ref v, .int (q_i x)] f [(8, 1, 1), (142, 0, 599)] (q_Pv (fun (f1 : Nat → va_E) => q_z f1 v 1 = (n + 4))) := by
  refine q_ofb (by decide +kernel) hN hT (Nat.le_of_ble_eq_true rfl) ?_
  intro p e s m below meth c ls cx hr hlk hB hl
  have hl : lv_has ls 3 [(0, .ref v), (1, .int (q_i x))] := hl
  obtain ⟨H, hH⟩ : ∃ H : Heap, H = s.heap := ⟨_, rfl⟩
  obtain ⟨locs, hlocs⟩ : ∃ z : List Loc, z = [] := ⟨_, rfl⟩
  rw [← hH, ← hlocs] at hB
  rw [← hH, ← hlocs]
  refine q_bipush cx dX8_append_0 rfl ?_
  refine lv_istore_n (lv' := [(2, .int (q_i 24)), (0, .ref v), (1, .int (q_i x))]) cx.1 cx.2.1 dX8_append_2 rfl hl (by decide) rfl (fun ls hl => ?_)
  refine q_ild_n cx dX8_append_3 rfl (lv_at hl 0 rfl) ?_
  refine q_iflt (tgt := 55) cx ⟨by decide, by decide⟩ dX8_append_4 (by decide) (fun c75 => ?_) (fun c75 => ?_)
  · exact absurd c75 (by omega)
  · refine q_ald_n cx dX8_append_7 rfl (lv_at hl 1 rfl) ?_
    refine q_gX8_19 cx hB hv kv hf0 dX8_append_8 (fun lb76 ub76 => ?_)
    refine q_iflt (tgt := 49) cx ⟨by omega, by omega⟩ dX8_append_11 (by decide) (fun c77 => ?_) (fun c77 => ?_)
    · exact absurd c77 (by omega)
    · refine q_ald_n cx dX8_append_14 rfl (lv_at hl 1 rfl) ?_
      refine q_gX8_19 cx hB hv kv hf0 dX8_append_15 (fun lb78 ub78 => ?_)
      refine q_ald_n cx dX8_append_18 rfl (lv_at hl 1 rfl) ?_
      obtain ⟨p79, ep79⟩ : ∃ zz, q_r f v 0 = zz := ⟨_, rfl⟩
      refine q_gX8_11 cx hB hv kv ep79 dX8_append_19 (fun hb80 kb80 => ?_)
      refine q_alen (n := 600) cx hB hb80 kb80 (by decide) rfl 0 rfl rfl dX8_append_22 ?_
      refine q_icge (tgt := 49) cx ⟨by omega, by omega⟩ ⟨by decide, by decide⟩ dX8_append_23 (by decide) (fun c81 => ?_) (fun c81 => ?_)
      · exact absurd c81 (by omega)
      · refine q_ald_n cx dX8_append_26 rfl (lv_at hl 1 rfl) ?_
        refine q_gX8_11 cx hB hv kv ep79 dX8_append_27 (fun hb82 kb82 => ?_)
        refine q_ald_n cx dX8_append_30 rfl (lv_at hl 1 rfl) ?_
        refine q_gX8_19 cx hB hv kv hf0 dX8_append_31 (fun lb83 ub83 => ?_)
        refine q_ild_n cx dX8_append_34 rfl (lv_at hl 2 rfl) ?_
        refine q_ild_n cx dX8_append_35 rfl (lv_at hl 0 rfl) ?_
        refine q_ishr cx dX8_append_36 (fun y84 ry84 ey84 => ?_)
        refine q_i2b cx dX8_append_37 (fun y85 ly85 uy85 ey85 => ?_)
        refine q_bast (lo := (-128)) (hi := 127) (n := 600) cx hB hb80 kb80 (by decide) rfl rfl (by omega) (by omega) (by decide) rfl ⟨by omega, by omega⟩ (by omega) (by omega) (by omega) (by omega) (q_inWi (lo := 0) (hi := 596) (by decide) (by omega) (by omega)) dX8_append_38 (fun H locs f86 ef86 z87 hB => ?_)
        have z88 : q_z f86 v 1 = n := by rw [ef86, q_setz (Or.inl (fun q => by rw [q, kb80] at kv; exact absurd kv (by decide)))]; exact hf0
        have z89 : q_r f86 v 0 = p79 := by rw [ef86, q_setr (Or.inl (fun q => by rw [q, kb80] at kv; exact absurd kv (by decide)))]; exact ep79
        refine q_ald_n cx dX8_append_39 rfl (lv_at hl 1 rfl) ?_
        refine lv_dup cx.1 cx.2.1 dX8_append_40 rfl ?_
        refine q_gX8_19 cx hB hv kv z88 dX8_append_41 (fun lb90 ub90 => ?_)
        refine q_iconst cx dX8_append_44 ?_
        refine q_iadd cx dX8_append_45 ?_
        refine q_pX8_19 cx hB hv kv ⟨by omega, by omega⟩ (by omega) (by omega) rfl dX8_append_46 (fun H locs f91 ef91 z92 hB => ?_)
        have z93 : q_r f91 v 0 = p79 := by rw [ef91, q_setr (Or.inr (by decide))]; exact z89
        refine q_iinc (lv' := [(2, .int (q_i (24 + (-8)))), (0, .ref v), (1, .int (q_i x))]) cx dX8_append_49 hl (k := 0) rfl (by decide) rfl (fun ls hl => ?_)
        refine lv_goto (tgt := 3) cx.1 cx.2.1 dX8_append_52 (by decide) ?_
        refine q_ild_n cx dX8_append_3 rfl (lv_at hl 0 rfl) ?_
        refine q_iflt (tgt := 55) cx ⟨by decide, by decide⟩ dX8_append_4 (by decide) (fun c94 => ?_) (fun c94 => ?_)
        · exact absurd c94 (by omega)
        · refine q_ald_n cx dX8_append_7 rfl (lv_at hl 1 rfl) ?_
          refine q_gX8_19 cx hB hv kv z92 dX8_append_8 (fun lb95 ub95 => ?_)
          refine q_iflt (tgt := 49) cx ⟨by omega, by omega⟩ dX8_append_11 (by decide) (fun c96 => ?_) (fun c96 => ?_)
          · exact absurd c96 (by omega)
          · refine q_ald_n cx dX8_append_14 rfl (lv_at hl 1 rfl) ?_
            refine q_gX8_19 cx hB hv kv z92 dX8_append_15 (fun lb97 ub97 => ?_)
            refine q_ald_n cx dX8_append_18 rfl (lv_at hl 1 rfl) ?_
            refine q_gX8_11 cx hB hv kv z93 dX8_append_19 (fun hb98 kb98 => ?_)
            refine q_alen (n := 600) cx hB hb80 kb80 (by decide) rfl 0 rfl rfl dX8_append_22 ?_
            refine q_icge (tgt := 49) cx ⟨by omega, by omega⟩ ⟨by decide, by decide⟩ dX8_append_23 (by decide) (fun c99 => ?_) (fun c99 => ?_)
            · exact absurd c99 (by omega)
            · refine q_ald_n cx dX8_append_26 rfl (lv_at hl 1 rfl) ?_
              refine q_gX8_11 cx hB hv kv z93 dX8_append_27 (fun hb100 kb100 => ?_)
              refine q_ald_n cx dX8_append_30 rfl (lv_at hl 1 rfl) ?_
              refine q_gX8_19 cx hB hv kv z92 dX8_append_31 (fun lb101 ub101 => ?_)
              refine q_ild_n cx dX8_append_34 rfl (lv_at hl 2 rfl) ?_
              refine q_ild_n cx dX8_append_35 rfl (lv_at hl 0 rfl) ?_
              refine q_ishr cx dX8_append_36 (fun y102 ry102 ey102 => ?_)
              refine q_i2b cx dX8_append_37 (fun y103 ly103 uy103 ey103 => ?_)
              refine q_bast (lo := (-128)) (hi := 127) (n := 600) cx hB hb80 kb80 (by decide) rfl rfl (by omega) (by omega) (by decide) rfl ⟨by omega, by omega⟩ (by omega) (by omega) (by omega) (by omega) (q_inWi (lo := 1) (hi := 597) (by decide) (by omega) (by omega)) dX8_append_38 (fun H locs f104 ef104 z105 hB => ?_)
              have z106 : q_z f104 v 1 = (n + 1) := by rw [ef104, q_setz (Or.inl (fun q => by rw [q, kb80] at kv; exact absurd kv (by decide)))]; exact z92
              have z107 : q_r f104 v 0 = p79 := by rw [ef104, q_setr (Or.inl (fun q => by rw [q, kb80] at kv; exact absurd kv (by decide)))]; exact z93
              refine q_ald_n cx dX8_append_39 rfl (lv_at hl 1 rfl) ?_
              refine lv_dup cx.1 cx.2.1 dX8_append_40 rfl ?_
              refine q_gX8_19 cx hB hv kv z106 dX8_append_41 (fun lb108 ub108 => ?_)
              refine q_iconst cx dX8_append_44 ?_
              refine q_iadd cx dX8_append_45 ?_
              refine q_pX8_19 cx hB hv kv ⟨by omega, by omega⟩ (by omega) (by omega) rfl dX8_append_46 (fun H locs f109 ef109 z110 hB => ?_)
              have z111 : q_r f109 v 0 = p79 := by rw [ef109, q_setr (Or.inr (by decide))]; exact z107
              refine q_iinc (lv' := [(2, .int (q_i ((24 + (-8)) + (-8)))), (0, .ref v), (1, .int (q_i x))]) cx dX8_append_49 hl (k := 0) rfl (by decide) rfl (fun ls hl => ?_)
              refine lv_goto (tgt := 3) cx.1 cx.2.1 dX8_append_52 (by decide) ?_
              refine q_ild_n cx dX8_append_3 rfl (lv_at hl 0 rfl) ?_
              refine q_iflt (tgt := 55) cx ⟨by decide, by decide⟩ dX8_append_4 (by decide) (fun c112 => ?_) (fun c112 => ?_)
              · exact absurd c112 (by omega)
              · refine q_ald_n cx dX8_append_7 rfl (lv_at hl 1 rfl) ?_
                refine q_gX8_19 cx hB hv kv z110 dX8_append_8 (fun lb113 ub113 => ?_)
                refine q_iflt (tgt := 49) cx ⟨by omega, by omega⟩ dX8_append_11 (by decide) (fun c114 => ?_) (fun c114 => ?_)
                · exact absurd c114 (by omega)
                · refine q_ald_n cx dX8_append_14 rfl (lv_at hl 1 rfl) ?_
                  refine q_gX8_19 cx hB hv kv z110 dX8_append_15 (fun lb115 ub115 => ?_)
                  refine q_ald_n cx dX8_append_18 rfl (lv_at hl 1 rfl) ?_
                  refine q_gX8_11 cx hB hv kv z111 dX8_append_19 (fun hb116 kb116 => ?_)
                  refine q_alen (n := 600) cx hB hb80 kb80 (by decide) rfl 0 rfl rfl dX8_append_22 ?_
                  refine q_icge (tgt := 49) cx ⟨by omega, by omega⟩ ⟨by decide, by decide⟩ dX8_append_23 (by decide) (fun c117 => ?_) (fun c117 => ?_)
                  · exact absurd c117 (by omega)
                  · refine q_ald_n cx dX8_append_26 rfl (lv_at hl 1 rfl) ?_
                    refine q_gX8_11 cx hB hv kv z111 dX8_append_27 (fun hb118 kb118 => ?_)
                    refine q_ald_n cx dX8_append_30 rfl (lv_at hl 1 rfl) ?_
                    refine q_gX8_19 cx hB hv kv z110 dX8_append_31 (fun lb119 ub119 => ?_)
                    refine q_ild_n cx dX8_append_34 rfl (lv_at hl 2 rfl) ?_
                    refine q_ild_n cx dX8_append_35 rfl (lv_at hl 0 rfl) ?_
                    refine q_ishr cx dX8_append_36 (fun y120 ry120 ey120 => ?_)
                    refine q_i2b cx dX8_append_37 (fun y121 ly121 uy121 ey121 => ?_)
                    refine q_bast (lo := (-128)) (hi := 127) (n := 600) cx hB hb80 kb80 (by decide) rfl rfl (by omega) (by omega) (by decide) rfl ⟨by omega, by omega⟩ (by omega) (by omega) (by omega) (by omega) (q_inWi (lo := 2) (hi := 598) (by decide) (by omega) (by omega)) dX8_append_38 (fun H locs f122 ef122 z123 hB => ?_)
                    have z124 : q_z f122 v 1 = ((n + 1) + 1) := by rw [ef122, q_setz (Or.inl (fun q => by rw [q, kb80] at kv; exact absurd kv (by decide)))]; exact z110
                    have z125 : q_r f122 v 0 = p79 := by rw [ef122, q_setr (Or.inl (fun q => by rw [q, kb80] at kv; exact absurd kv (by decide)))]; exact z111
                    refine q_ald_n cx dX8_append_39 rfl (lv_at hl 1 rfl) ?_
                    refine lv_dup cx.1 cx.2.1 dX8_append_40 rfl ?_
                    refine q_gX8_19 cx hB hv kv z124 dX8_append_41 (fun lb126 ub126 => ?_)
                    refine q_iconst cx dX8_append_44 ?_
                    refine q_iadd cx dX8_append_45 ?_
                    refine q_pX8_19 cx hB hv kv ⟨by omega, by omega⟩ (by omega) (by omega) rfl dX8_append_46 (fun H locs f127 ef127 z128 hB => ?_)
                    have z129 : q_r f127 v 0 = p79 := by rw [ef127, q_setr (Or.inr (by decide))]; exact z125
                    refine q_iinc (lv' := [(2, .int (q_i (((24 + (-8)) + (-8)) + (-8)))), (0, .ref v), (1, .int (q_i x))]) cx dX8_append_49 hl (k := 0) rfl (by decide) rfl (fun ls hl => ?_)
                    refine lv_goto (tgt := 3) cx.1 cx.2.1 dX8_append_52 (by decide) ?_
                    refine q_ild_n cx dX8_append_3 rfl (lv_at hl 0 rfl) ?_
                    refine q_iflt (tgt := 55) cx ⟨by decide, by decide⟩ dX8_append_4 (by decide) (fun c130 => ?_) (fun c130 => ?_)
                    · exact absurd c130 (by omega)
                    · refine q_ald_n cx dX8_append_7 rfl (lv_at hl 1 rfl) ?_
                      refine q_gX8_19 cx hB hv kv z128 dX8_append_8 (fun lb131 ub131 => ?_)
                      refine q_iflt (tgt := 49) cx ⟨by omega, by omega⟩ dX8_append_11 (by decide) (fun c132 => ?_) (fun c132 => ?_)
                      · exact absurd c132 (by omega)
                      · refine q_ald_n cx dX8_append_14 rfl (lv_at hl 1 rfl) ?_
                        refine q_gX8_19 cx hB hv kv z128 dX8_append_15 (fun lb133 ub133 => ?_)
                        refine q_ald_n cx dX8_append_18 rfl (lv_at hl 1 rfl) ?_
                        refine q_gX8_11 cx hB hv kv z129 dX8_append_19 (fun hb134 kb134 => ?_)
                        refine q_alen (n := 600) cx hB hb80 kb80 (by decide) rfl 0 rfl rfl dX8_append_22 ?_
                        refine q_icge (tgt := 49) cx ⟨by omega, by omega⟩ ⟨by decide, by decide⟩ dX8_append_23 (by decide) (fun c135 => ?_) (fun c135 => ?_)
                        · exact absurd c135 (by omega)
                        · refine q_ald_n cx dX8_append_26 rfl (lv_at hl 1 rfl) ?_
                          refine q_gX8_11 cx hB hv kv z129 dX8_append_27 (fun hb136 kb136 => ?_)
                          refine q_ald_n cx dX8_append_30 rfl (lv_at hl 1 rfl) ?_
                          refine q_gX8_19 cx hB hv kv z128 dX8_append_31 (fun lb137 ub137 => ?_)
                          refine q_ild_n cx dX8_append_34 rfl (lv_at hl 2 rfl) ?_
                          refine q_ild_n cx dX8_append_35 rfl (lv_at hl 0 rfl) ?_
                          refine q_ishr cx dX8_append_36 (fun y138 ry138 ey138 => ?_)
                          refine q_i2b cx dX8_append_37 (fun y139 ly139 uy139 ey139 => ?_)
                          refine q_bast (lo := (-128)) (hi := 127) (n := 600) cx hB hb80 kb80 (by decide) rfl rfl (by omega) (by omega) (by decide) rfl ⟨by omega, by omega⟩ (by omega) (by omega) (by omega) (by omega) (q_inWi (lo := 3) (hi := 599) (by decide) (by omega) (by omega)) dX8_append_38 (fun H locs f140 ef140 z141 hB => ?_)
                          have z142 : q_z f140 v 1 = (((n + 1) + 1) + 1) := by rw [ef140, q_setz (Or.inl (fun q => by rw [q, kb80] at kv; exact absurd kv (by decide)))]; exact z128
                          have z143 : q_r f140 v 0 = p79 := by rw [ef140, q_setr (Or.inl (fun q => by rw [q, kb80] at kv; exact absurd kv (by decide)))]; exact z129
                          refine q_ald_n cx dX8_append_39 rfl (lv_at hl 1 rfl) ?_
                          refine lv_dup cx.1 cx.2.1 dX8_append_40 rfl ?_
                          refine q_gX8_19 cx hB hv kv z142 dX8_append_41 (fun lb144 ub144 => ?_)
                          refine q_iconst cx dX8_append_44 ?_
                          refine q_iadd cx dX8_append_45 ?_
                          refine q_pX8_19 cx hB hv kv ⟨by omega, by omega⟩ (by omega) (by omega) rfl dX8_append_46 (fun H locs f145 ef145 z146 hB => ?_)
                          have z147 : q_r f145 v 0 = p79 := by rw [ef145, q_setr (Or.inr (by decide))]; exact z143
                          refine q_iinc (lv' := [(2, .int (q_i ((((24 + (-8)) + (-8)) + (-8)) + (-8)))), (0, .ref v), (1, .int (q_i x))]) cx dX8_append_49 hl (k := 0) rfl (by decide) rfl (fun ls hl => ?_)
                          refine lv_goto (tgt := 3) cx.1 cx.2.1 dX8_append_52 (by decide) ?_
                          refine q_ild_n cx dX8_append_3 rfl (lv_at hl 0 rfl) ?_
                          refine q_iflt (tgt := 55) cx ⟨by decide, by decide⟩ dX8_append_4 (by decide) (fun c148 => ?_) (fun c148 => ?_)
                          · refine q_vret cx hr hlk hB dX8_append_55 ?_
                            exact (by omega)
                          · exact absurd c148 (by omega)
set_option maxHeartbeats 4000000 in
set_option maxRecDepth 100000 in
theorem m_byteAt (l : Launch) (g : q_G) {K : Nat → Nat} {L : List Nat} (hN : L.Nodup) {f : Nat → va_E} (hT : q_Ty g K L f) (v : Nat) (hv : v ∈ L) (kv : K v = 8) (x : Int) (lx : (-2147483648) ≤ x) (ux : x ≤ 2147483647) : q_Ct l g K L yX8_byteAt cX8_byteAt 2 (some .int) 0 0 [.ref v, .int (q_i x)] f [] (q_Pi (fun (z : Int) (f1 : Nat → va_E) => f = f1 ∧ (-128) ≤ z ∧ z ≤ 127)) := by
  refine q_ofb (by decide +kernel) hN hT (Nat.le_of_ble_eq_true rfl) ?_
  intro p e s m below meth c ls cx hr hlk hB hl
  have hl : lv_has ls 2 [(0, .ref v), (1, .int (q_i x))] := hl
  obtain ⟨H, hH⟩ : ∃ H : Heap, H = s.heap := ⟨_, rfl⟩
  obtain ⟨locs, hlocs⟩ : ∃ z : List Loc, z = [] := ⟨_, rfl⟩
  rw [← hH, ← hlocs] at hB
  rw [← hH, ← hlocs]
  refine q_ild_n cx dX8_byteAt_0 rfl (lv_at hl 1 rfl) ?_
  refine q_iflt (tgt := 22) cx ⟨by omega, by omega⟩ dX8_byteAt_1 (by decide) (fun c8 => ?_) (fun c8 => ?_)
  · refine q_iconst cx dX8_byteAt_22 ?_
    refine q_iret cx hr hlk hB dX8_byteAt_23 ⟨by decide, by decide⟩ ?_
    exact ⟨rfl, (by decide), (by decide)⟩
  · refine q_ild_n cx dX8_byteAt_4 rfl (lv_at hl 1 rfl) ?_
    refine q_ald_n cx dX8_byteAt_5 rfl (lv_at hl 0 rfl) ?_
    obtain ⟨p9, ep9⟩ : ∃ zz, q_r f v 0 = zz := ⟨_, rfl⟩
    refine q_gX8_11 cx hB hv kv ep9 dX8_byteAt_6 (fun hb10 kb10 => ?_)
    refine q_alen (n := 600) cx hB hb10 kb10 (by decide) rfl 0 rfl rfl dX8_byteAt_9 ?_
    refine q_icge (tgt := 22) cx ⟨by omega, by omega⟩ ⟨by decide, by decide⟩ dX8_byteAt_10 (by decide) (fun c11 => ?_) (fun c11 => ?_)
    · refine q_iconst cx dX8_byteAt_22 ?_
      refine q_iret cx hr hlk hB dX8_byteAt_23 ⟨by decide, by decide⟩ ?_
      exact ⟨rfl, (by decide), (by decide)⟩
    · refine q_ald_n cx dX8_byteAt_13 rfl (lv_at hl 0 rfl) ?_
      refine q_gX8_11 cx hB hv kv ep9 dX8_byteAt_14 (fun hb12 kb12 => ?_)
      refine q_ild_n cx dX8_byteAt_17 rfl (lv_at hl 1 rfl) ?_
      obtain ⟨x13, ex13⟩ : ∃ zz, q_z f p9 (Int.toNat x) = zz := ⟨_, rfl⟩
      refine q_bald (lo := (-128)) (hi := 127) (n := 600) cx hB hb10 kb10 (by decide) rfl rfl (by omega) (by omega) (by decide) rfl ex13 dX8_byteAt_18 (fun lb14 ub14 => ?_)
      refine lv_goto (tgt := 23) cx.1 cx.2.1 dX8_byteAt_19 (by decide) ?_
      refine q_iret cx hr hlk hB dX8_byteAt_23 ⟨by omega, by omega⟩ ?_
      exact ⟨rfl, (by omega), (by omega)⟩
set_option maxHeartbeats 4000000 in
set_option maxRecDepth 100000 in
theorem m_advance0 (l : Launch) (g : q_G) {K : Nat → Nat} {L : List Nat} (hN : L.Nodup) {f : Nat → va_E} (hT : q_Ty g K L f) (v : Nat) (hv : v ∈ L) (kv : K v = 8) (hf0 : q_z f v 1 = 0) (hf1 : q_z f v 9 = 0) : q_Ct l g K L yX8_advance cX8_advance 2 none 1 21 [.ref v] f [(8, 4, 9)] (q_Pv (fun (f1 : Nat → va_E) => q_z f1 v 6 = 0)) := by
  refine q_ofb (by decide +kernel) hN hT (Nat.le_of_ble_eq_true rfl) ?_
  intro p e s m below meth c ls cx hr hlk hB hl
  have hl : lv_has ls 2 [(0, .ref v)] := hl
  obtain ⟨H, hH⟩ : ∃ H : Heap, H = s.heap := ⟨_, rfl⟩
  obtain ⟨locs, hlocs⟩ : ∃ z : List Loc, z = [] := ⟨_, rfl⟩
  rw [← hH, ← hlocs] at hB
  rw [← hH, ← hlocs]
  refine q_ald_n cx dX8_advance_0 rfl (lv_at hl 0 rfl) ?_
  refine q_gX8_27 cx hB hv kv hf1 dX8_advance_1 (fun lb21 ub21 => ?_)
  refine q_ald_n cx dX8_advance_4 rfl (lv_at hl 0 rfl) ?_
  refine q_gX8_19 cx hB hv kv hf0 dX8_advance_5 (fun lb22 ub22 => ?_)
  refine q_icge (tgt := 50) cx ⟨by decide, by decide⟩ ⟨by decide, by decide⟩ dX8_advance_8 (by decide) (fun c23 => ?_) (fun c23 => ?_)
  · refine q_ald_n cx dX8_advance_50 rfl (lv_at hl 0 rfl) ?_
    refine q_ald_n cx dX8_advance_51 rfl (lv_at hl 0 rfl) ?_
    refine q_gX8_27 cx hB hv kv hf1 dX8_advance_52 (fun lb24 ub24 => ?_)
    refine q_pX8_33 cx hB hv kv ⟨by decide, by decide⟩ (by decide) (by decide) rfl dX8_advance_55 (fun H locs f25 ef25 z26 hB => ?_)
    have z27 : q_z f25 v 1 = 0 := by rw [ef25, q_setz (Or.inr (by decide))]; exact hf0
    have z28 : q_z f25 v 9 = 0 := by rw [ef25, q_setz (Or.inr (by decide))]; exact hf1
    refine q_ald_n cx dX8_advance_58 rfl (lv_at hl 0 rfl) ?_
    refine q_ald_n cx dX8_advance_59 rfl (lv_at hl 0 rfl) ?_
    refine q_gX8_27 cx hB hv kv z28 dX8_advance_60 (fun lb29 ub29 => ?_)
    refine q_cVi (As := [.int (q_i 0)]) (rest := []) cx hB (fun _ h => h) hN hv kv (by decide) rfl (m_byteAt l g hN hB.2.1 v hv kv 0 (by decide) (by decide)) q_cX8_36 q_dX8_byteAt (by decide) rfl rfl hl.1 rfl (Nat.le_of_ble_eq_true rfl) dX8_advance_63 (fun y31 H locs f30 ry31 h32 hF hB => ?_)
    obtain ⟨rfl, ly31, uy31⟩ := h32
    refine lv_istore_n (lv' := [(1, .int (q_i y31)), (0, .ref v)]) cx.1 cx.2.1 dX8_advance_66 rfl hl (by decide) rfl (fun ls hl => ?_)
    refine q_ald_n cx dX8_advance_67 rfl (lv_at hl 1 rfl) ?_
    refine q_gX8_27 cx hB hv kv z28 dX8_advance_68 (fun lb33 ub33 => ?_)
    refine q_ald_n cx dX8_advance_71 rfl (lv_at hl 1 rfl) ?_
    refine q_gX8_19 cx hB hv kv z27 dX8_advance_72 (fun lb34 ub34 => ?_)
    refine q_iclt (tgt := 86) cx ⟨by decide, by decide⟩ ⟨by decide, by decide⟩ dX8_advance_75 (by decide) (fun c35 => ?_) (fun c35 => ?_)
    · exact absurd c35 (by omega)
    · refine q_ald_n cx dX8_advance_78 rfl (lv_at hl 1 rfl) ?_
      refine q_iconst cx dX8_advance_79 ?_
      refine q_pX8_40 cx hB hv kv ⟨by decide, by decide⟩ (by decide) (by decide) rfl dX8_advance_80 (fun H locs f36 ef36 z37 hB => ?_)
      have z38 : q_z f36 v 1 = 0 := by rw [ef36, q_setz (Or.inr (by decide))]; exact z27
      have z39 : q_z f36 v 9 = 0 := by rw [ef36, q_setz (Or.inr (by decide))]; exact z28
      have z40 : q_z f36 v 8 = 0 := by rw [ef36, q_setz (Or.inr (by decide))]; exact z26
      refine lv_goto (tgt := 151) cx.1 cx.2.1 dX8_advance_83 (by decide) ?_
      refine q_vret cx hr hlk hB dX8_advance_151 ?_
      exact z37
  · exact absurd c23 (by omega)
set_option maxHeartbeats 4000000 in
set_option maxRecDepth 100000 in
theorem m_begin0 (l : Launch) (g : q_G) {K : Nat → Nat} {L : List Nat} (hN : L.Nodup) {f : Nat → va_E} (hT : q_Ty g K L f) (v : Nat) (hv : v ∈ L) (kv : K v = 8) (hf0 : q_z f v 1 = 0) : q_Ct l g K L yX8_begin cX8_begin 1 none 2 42 [.ref v] f [(8, 2, 9)] (q_Pv (fun (f1 : Nat → va_E) => q_z f1 v 2 = 0 ∧ q_z f1 v 3 = (-1) ∧ q_z f1 v 6 = 0)) := by
  refine q_ofb (by decide +kernel) hN hT (Nat.le_of_ble_eq_true rfl) ?_
  intro p e s m below meth c ls cx hr hlk hB hl
  have hl : lv_has ls 1 [(0, .ref v)] := hl
  obtain ⟨H, hH⟩ : ∃ H : Heap, H = s.heap := ⟨_, rfl⟩
  obtain ⟨locs, hlocs⟩ : ∃ z : List Loc, z = [] := ⟨_, rfl⟩
  rw [← hH, ← hlocs] at hB
  rw [← hH, ← hlocs]
  refine q_ald_n cx dX8_begin_0 rfl (lv_at hl 0 rfl) ?_
  refine q_iconst cx dX8_begin_1 ?_
  refine q_pX8_24 cx hB hv kv ⟨by decide, by decide⟩ (by decide) (by decide) rfl dX8_begin_2 (fun H locs f20 ef20 z21 hB => ?_)
  have z22 : q_z f20 v 1 = 0 := by rw [ef20, q_setz (Or.inr (by decide))]; exact hf0
  refine q_ald_n cx dX8_begin_5 rfl (lv_at hl 0 rfl) ?_
  refine q_iconst cx dX8_begin_6 ?_
  refine q_pX8_15 cx hB hv kv ⟨by decide, by decide⟩ (by decide) (by decide) rfl dX8_begin_7 (fun H locs f23 ef23 z24 hB => ?_)
  have z25 : q_z f23 v 1 = 0 := by rw [ef23, q_setz (Or.inr (by decide))]; exact z22
  have z26 : q_z f23 v 2 = 0 := by rw [ef23, q_setz (Or.inr (by decide))]; exact z21
  refine q_ald_n cx dX8_begin_10 rfl (lv_at hl 0 rfl) ?_
  refine q_iconst cx dX8_begin_11 ?_
  refine q_pX8_27 cx hB hv kv ⟨by decide, by decide⟩ (by decide) (by decide) rfl dX8_begin_12 (fun H locs f27 ef27 z28 hB => ?_)
  have z29 : q_z f27 v 1 = 0 := by rw [ef27, q_setz (Or.inr (by decide))]; exact z25
  have z30 : q_z f27 v 2 = 0 := by rw [ef27, q_setz (Or.inr (by decide))]; exact z26
  have z31 : q_z f27 v 3 = (-1) := by rw [ef27, q_setz (Or.inr (by decide))]; exact z24
  refine q_ald_n cx dX8_begin_15 rfl (lv_at hl 0 rfl) ?_
  refine q_cVv (As := []) (rest := []) cx hB (fun _ h => h) hN hv kv (by decide) rfl (m_advance0 l g hN hB.2.1 v hv kv z29 z28) q_cX8_30 q_dX8_advance (by decide) rfl rfl hl.1 rfl (Nat.le_of_ble_eq_true rfl) dX8_begin_16 (fun H locs f32 h34 hF hB => ?_)
  have z35 := h34
  have z36 : q_z f32 v 1 = 0 := (hF.z hv (by rw [kv]; rfl)).trans z29
  have z37 : q_z f32 v 2 = 0 := (hF.z hv (by rw [kv]; rfl)).trans z30
  have z38 : q_z f32 v 3 = (-1) := (hF.z hv (by rw [kv]; rfl)).trans z31
  refine q_vret cx hr hlk hB dX8_begin_19 ?_
  exact ⟨z37, z38, z35⟩
set_option maxHeartbeats 4000000 in
set_option maxRecDepth 100000 in
theorem m_isAtEnd0 (l : Launch) (g : q_G) {K : Nat → Nat} {L : List Nat} (hN : L.Nodup) {f : Nat → va_E} (hT : q_Ty g K L f) (v : Nat) (hv : v ∈ L) (kv : K v = 8) (hf0 : q_z f v 6 = 0) : q_Ct l g K L yX8_isAtEnd cX8_isAtEnd 1 (some .boolean) 0 0 [.ref v] f [] (q_Pi (fun (z : Int) (f1 : Nat → va_E) => f = f1 ∧ z = 1)) := by
  refine q_ofb (by decide +kernel) hN hT (Nat.le_of_ble_eq_true rfl) ?_
  intro p e s m below meth c ls cx hr hlk hB hl
  have hl : lv_has ls 1 [(0, .ref v)] := hl
  obtain ⟨H, hH⟩ : ∃ H : Heap, H = s.heap := ⟨_, rfl⟩
  obtain ⟨locs, hlocs⟩ : ∃ z : List Loc, z = [] := ⟨_, rfl⟩
  rw [← hH, ← hlocs] at hB
  rw [← hH, ← hlocs]
  refine q_ald_n cx dX8_isAtEnd_0 rfl (lv_at hl 0 rfl) ?_
  refine q_gX8_40 cx hB hv kv hf0 dX8_isAtEnd_1 (fun lb3 ub3 => ?_)
  refine q_ifne (tgt := 11) cx ⟨by decide, by decide⟩ dX8_isAtEnd_4 (by decide) (fun c4 => ?_) (fun c4 => ?_)
  · exact absurd c4 (by omega)
  · refine q_iconst cx dX8_isAtEnd_7 ?_
    refine lv_goto (tgt := 12) cx.1 cx.2.1 dX8_isAtEnd_8 (by decide) ?_
    refine q_zret cx hr hlk hB dX8_isAtEnd_12 (by decide) (by decide) ?_
    exact ⟨rfl, rfl⟩
set_option maxHeartbeats 4000000 in
set_option maxRecDepth 100000 in
theorem m_makeEmpty_1 (l : Launch) (g : q_G) {K : Nat → Nat} {L : List Nat} (hN : L.Nodup) {f : Nat → va_E} (hT : q_Ty g K L f) (v : Nat) (hv : v ∈ L) (kv : K v = 13) : q_Ct l g K L yX10_makeEmpty cX10_makeEmpty 1 none 0 0 [.ref v] f [(13, 3, 12)] (q_Pv (fun (f1 : Nat → va_E) => q_z f1 v 3 = 0 ∧ q_z f1 v 4 = 0 ∧ q_z f1 v 5 = 0 ∧ q_z f1 v 6 = 12 ∧ q_z f1 v 10 = 3 ∧ q_z f1 v 11 = 0 ∧ q_z f1 v 12 = 0)) := by
  refine q_ofb (by decide +kernel) hN hT (Nat.le_of_ble_eq_true rfl) ?_
  intro p e s m below meth c ls cx hr hlk hB hl
  have hl : lv_has ls 1 [(0, .ref v)] := hl
  obtain ⟨H, hH⟩ : ∃ H : Heap, H = s.heap := ⟨_, rfl⟩
  obtain ⟨locs, hlocs⟩ : ∃ z : List Loc, z = [] := ⟨_, rfl⟩
  rw [← hH, ← hlocs] at hB
  rw [← hH, ← hlocs]
  refine q_ald_n cx dX10_makeEmpty_0 rfl (lv_at hl 0 rfl) ?_
  refine q_iconst cx dX10_makeEmpty_1 ?_
  refine q_pX10_35_13 cx hB hv kv ⟨by decide, by decide⟩ (by decide) (by decide) rfl dX10_makeEmpty_2 (fun H locs f66 ef66 z67 hB => ?_)
  refine q_ald_n cx dX10_makeEmpty_5 rfl (lv_at hl 0 rfl) ?_
  refine q_iconst cx dX10_makeEmpty_6 ?_
  refine q_pX10_39_13 cx hB hv kv ⟨by decide, by decide⟩ (by decide) (by decide) rfl dX10_makeEmpty_7 (fun H locs f68 ef68 z69 hB => ?_)
  have z70 : q_z f68 v 3 = 0 := by rw [ef68, q_setz (Or.inr (by decide))]; exact z67
  refine q_ald_n cx dX10_makeEmpty_10 rfl (lv_at hl 0 rfl) ?_
  refine q_iconst cx dX10_makeEmpty_11 ?_
  refine q_pX10_42_13 cx hB hv kv ⟨by decide, by decide⟩ (by decide) (by decide) rfl dX10_makeEmpty_12 (fun H locs f71 ef71 z72 hB => ?_)
  have z73 : q_z f71 v 3 = 0 := by rw [ef71, q_setz (Or.inr (by decide))]; exact z70
  have z74 : q_z f71 v 4 = 0 := by rw [ef71, q_setz (Or.inr (by decide))]; exact z69
  refine q_ald_n cx dX10_makeEmpty_15 rfl (lv_at hl 0 rfl) ?_
  refine q_bipush cx dX10_makeEmpty_16 rfl ?_
  refine q_pX10_45_13 cx hB hv kv ⟨by decide, by decide⟩ (by decide) (by decide) rfl dX10_makeEmpty_18 (fun H locs f75 ef75 z76 hB => ?_)
  have z77 : q_z f75 v 3 = 0 := by rw [ef75, q_setz (Or.inr (by decide))]; exact z73
  have z78 : q_z f75 v 4 = 0 := by rw [ef75, q_setz (Or.inr (by decide))]; exact z74
  have z79 : q_z f75 v 5 = 0 := by rw [ef75, q_setz (Or.inr (by decide))]; exact z72
  refine q_ald_n cx dX10_makeEmpty_21 rfl (lv_at hl 0 rfl) ?_
  refine q_iconst cx dX10_makeEmpty_22 ?_
  refine q_pX10_48_13 cx hB hv kv ⟨by decide, by decide⟩ (by decide) (by decide) rfl dX10_makeEmpty_23 (fun H locs f80 ef80 z81 hB => ?_)
  have z82 : q_z f80 v 3 = 0 := by rw [ef80, q_setz (Or.inr (by decide))]; exact z77
  have z83 : q_z f80 v 4 = 0 := by rw [ef80, q_setz (Or.inr (by decide))]; exact z78
  have z84 : q_z f80 v 5 = 0 := by rw [ef80, q_setz (Or.inr (by decide))]; exact z79
  have z85 : q_z f80 v 6 = 12 := by rw [ef80, q_setz (Or.inr (by decide))]; exact z76
  refine q_ald_n cx dX10_makeEmpty_26 rfl (lv_at hl 0 rfl) ?_
  refine q_iconst cx dX10_makeEmpty_27 ?_
  refine q_pX10_51_13 cx hB hv kv ⟨by decide, by decide⟩ (by decide) (by decide) rfl dX10_makeEmpty_28 (fun H locs f86 ef86 z87 hB => ?_)
  have z88 : q_z f86 v 3 = 0 := by rw [ef86, q_setz (Or.inr (by decide))]; exact z82
  have z89 : q_z f86 v 4 = 0 := by rw [ef86, q_setz (Or.inr (by decide))]; exact z83
  have z90 : q_z f86 v 5 = 0 := by rw [ef86, q_setz (Or.inr (by decide))]; exact z84
  have z91 : q_z f86 v 6 = 12 := by rw [ef86, q_setz (Or.inr (by decide))]; exact z85
  have z92 : q_z f86 v 7 = 1 := by rw [ef86, q_setz (Or.inr (by decide))]; exact z81
  refine q_ald_n cx dX10_makeEmpty_31 rfl (lv_at hl 0 rfl) ?_
  refine q_iconst cx dX10_makeEmpty_32 ?_
  refine q_pX10_54_13 cx hB hv kv ⟨by decide, by decide⟩ (by decide) (by decide) rfl dX10_makeEmpty_33 (fun H locs f93 ef93 z94 hB => ?_)
  have z95 : q_z f93 v 3 = 0 := by rw [ef93, q_setz (Or.inr (by decide))]; exact z88
  have z96 : q_z f93 v 4 = 0 := by rw [ef93, q_setz (Or.inr (by decide))]; exact z89
  have z97 : q_z f93 v 5 = 0 := by rw [ef93, q_setz (Or.inr (by decide))]; exact z90
  have z98 : q_z f93 v 6 = 12 := by rw [ef93, q_setz (Or.inr (by decide))]; exact z91
  have z99 : q_z f93 v 7 = 1 := by rw [ef93, q_setz (Or.inr (by decide))]; exact z92
  have z100 : q_z f93 v 8 = 2 := by rw [ef93, q_setz (Or.inr (by decide))]; exact z87
  refine q_ald_n cx dX10_makeEmpty_36 rfl (lv_at hl 0 rfl) ?_
  refine q_iconst cx dX10_makeEmpty_37 ?_
  refine q_pX10_57_13 cx hB hv kv ⟨by decide, by decide⟩ (by decide) (by decide) rfl dX10_makeEmpty_38 (fun H locs f101 ef101 z102 hB => ?_)
  have z103 : q_z f101 v 3 = 0 := by rw [ef101, q_setz (Or.inr (by decide))]; exact z95
  have z104 : q_z f101 v 4 = 0 := by rw [ef101, q_setz (Or.inr (by decide))]; exact z96
  have z105 : q_z f101 v 5 = 0 := by rw [ef101, q_setz (Or.inr (by decide))]; exact z97
  have z106 : q_z f101 v 6 = 12 := by rw [ef101, q_setz (Or.inr (by decide))]; exact z98
  have z107 : q_z f101 v 7 = 1 := by rw [ef101, q_setz (Or.inr (by decide))]; exact z99
  have z108 : q_z f101 v 8 = 2 := by rw [ef101, q_setz (Or.inr (by decide))]; exact z100
  have z109 : q_z f101 v 9 = 5 := by rw [ef101, q_setz (Or.inr (by decide))]; exact z94
  refine q_ald_n cx dX10_makeEmpty_41 rfl (lv_at hl 0 rfl) ?_
  refine q_iconst cx dX10_makeEmpty_42 ?_
  refine q_pX10_60_13 cx hB hv kv ⟨by decide, by decide⟩ (by decide) (by decide) rfl dX10_makeEmpty_43 (fun H locs f110 ef110 z111 hB => ?_)
  have z112 : q_z f110 v 3 = 0 := by rw [ef110, q_setz (Or.inr (by decide))]; exact z103
  have z113 : q_z f110 v 4 = 0 := by rw [ef110, q_setz (Or.inr (by decide))]; exact z104
  have z114 : q_z f110 v 5 = 0 := by rw [ef110, q_setz (Or.inr (by decide))]; exact z105
  have z115 : q_z f110 v 6 = 12 := by rw [ef110, q_setz (Or.inr (by decide))]; exact z106
  have z116 : q_z f110 v 7 = 1 := by rw [ef110, q_setz (Or.inr (by decide))]; exact z107
  have z117 : q_z f110 v 8 = 2 := by rw [ef110, q_setz (Or.inr (by decide))]; exact z108
  have z118 : q_z f110 v 9 = 5 := by rw [ef110, q_setz (Or.inr (by decide))]; exact z109
  have z119 : q_z f110 v 10 = 3 := by rw [ef110, q_setz (Or.inr (by decide))]; exact z102
  refine q_ald_n cx dX10_makeEmpty_46 rfl (lv_at hl 0 rfl) ?_
  refine q_iconst cx dX10_makeEmpty_47 ?_
  refine q_pX10_63_13 cx hB hv kv ⟨by decide, by decide⟩ (by decide) (by decide) rfl dX10_makeEmpty_48 (fun H locs f120 ef120 z121 hB => ?_)
  have z122 : q_z f120 v 3 = 0 := by rw [ef120, q_setz (Or.inr (by decide))]; exact z112
  have z123 : q_z f120 v 4 = 0 := by rw [ef120, q_setz (Or.inr (by decide))]; exact z113
  have z124 : q_z f120 v 5 = 0 := by rw [ef120, q_setz (Or.inr (by decide))]; exact z114
  have z125 : q_z f120 v 6 = 12 := by rw [ef120, q_setz (Or.inr (by decide))]; exact z115
  have z126 : q_z f120 v 7 = 1 := by rw [ef120, q_setz (Or.inr (by decide))]; exact z116
  have z127 : q_z f120 v 8 = 2 := by rw [ef120, q_setz (Or.inr (by decide))]; exact z117
  have z128 : q_z f120 v 9 = 5 := by rw [ef120, q_setz (Or.inr (by decide))]; exact z118
  have z129 : q_z f120 v 10 = 3 := by rw [ef120, q_setz (Or.inr (by decide))]; exact z119
  have z130 : q_z f120 v 11 = 0 := by rw [ef120, q_setz (Or.inr (by decide))]; exact z111
  refine q_vret cx hr hlk hB dX10_makeEmpty_51 ?_
  exact ⟨z122, z123, z124, z125, z129, z130, z121⟩
set_option maxHeartbeats 4000000 in
set_option maxRecDepth 100000 in
theorem m_foldDays0_1 (l : Launch) (g : q_G) {K : Nat → Nat} {L : List Nat} (hN : L.Nodup) {f : Nat → va_E} (hT : q_Ty g K L f) (v : Nat) (hv : v ∈ L) (kv : K v = 13) (hf0 : q_z f v 3 = 0) (hf1 : q_z f v 4 = 0) (hf2 : q_z f v 5 = 0) : q_Ct l g K L yX10_foldDays cX10_foldDays 2 none 0 0 [.ref v] f [] (q_Pv (fun (f1 : Nat → va_E) => f = f1)) := by
  refine q_ofb (by decide +kernel) hN hT (Nat.le_of_ble_eq_true rfl) ?_
  intro p e s m below meth c ls cx hr hlk hB hl
  have hl : lv_has ls 2 [(0, .ref v)] := hl
  obtain ⟨H, hH⟩ : ∃ H : Heap, H = s.heap := ⟨_, rfl⟩
  obtain ⟨locs, hlocs⟩ : ∃ z : List Loc, z = [] := ⟨_, rfl⟩
  rw [← hH, ← hlocs] at hB
  rw [← hH, ← hlocs]
  refine q_iconst cx dX10_foldDays_0 ?_
  refine lv_istore_n (lv' := [(1, .int (q_i 0)), (0, .ref v)]) cx.1 cx.2.1 dX10_foldDays_1 rfl hl (by decide) rfl (fun ls hl => ?_)
  refine q_ild_n cx dX10_foldDays_2 rfl (lv_at hl 0 rfl) ?_
  refine q_ald_n cx dX10_foldDays_3 rfl (lv_at hl 1 rfl) ?_
  refine q_gX10_35_13 cx hB hv kv hf0 dX10_foldDays_4 (fun lb3 ub3 => ?_)
  refine q_icge (tgt := 56) cx ⟨by decide, by decide⟩ ⟨by decide, by decide⟩ dX10_foldDays_7 (by decide) (fun c4 => ?_) (fun c4 => ?_)
  · refine q_vret cx hr hlk hB dX10_foldDays_56 ?_
    exact rfl
  · exact absurd c4 (by omega)
set_option maxHeartbeats 4000000 in
set_option maxRecDepth 100000 in
theorem m_copy0_01 (l : Launch) (g : q_G) {K : Nat → Nat} {L : List Nat} (hN : L.Nodup) {f : Nat → va_E} (hT : q_Ty g K L f) (v : Nat) (hv : v ∈ L) (kv : K v = 10) (o : Nat) (ho : o ∈ L) (ko : K o = 13) (hf0 : q_z f o 3 = 0) (hf1 : q_z f o 4 = 0) (hf2 : q_z f o 5 = 0) (hf3 : q_z f o 6 = 12) (hf4 : q_z f o 10 = 3) (hf5 : q_z f o 11 = 0) (hf6 : q_z f o 12 = 0) : q_Ct l g K L yX10_copyFrom cX10_copyFrom 3 none 0 0 [.ref v, .ref o] f [(10, 3, 12)] (q_Pv (fun (f1 : Nat → va_E) => q_z f1 v 3 = 0 ∧ q_z f1 v 4 = 0 ∧ q_z f1 v 5 = 0 ∧ q_z f1 v 6 = 12 ∧ q_z f1 v 10 = 3 ∧ q_z f1 v 11 = 0 ∧ q_z f1 v 12 = 0)) := by
  refine q_ofb (by decide +kernel) hN hT (Nat.le_of_ble_eq_true rfl) ?_
  intro p e s m below meth c ls cx hr hlk hB hl
  have hl : lv_has ls 3 [(0, .ref v), (1, .ref o)] := hl
  obtain ⟨H, hH⟩ : ∃ H : Heap, H = s.heap := ⟨_, rfl⟩
  obtain ⟨locs, hlocs⟩ : ∃ z : List Loc, z = [] := ⟨_, rfl⟩
  rw [← hH, ← hlocs] at hB
  rw [← hH, ← hlocs]
  refine q_ald_n cx dX10_copyFrom_0 rfl (lv_at hl 0 rfl) ?_
  refine q_ald_n cx dX10_copyFrom_1 rfl (lv_at hl 1 rfl) ?_
  refine q_gX10_35_13 cx hB ho ko hf0 dX10_copyFrom_2 (fun lb170 ub170 => ?_)
  refine q_pX10_35 cx hB hv kv ⟨by decide, by decide⟩ (by decide) (by decide) rfl dX10_copyFrom_5 (fun H locs f171 ef171 z172 hB => ?_)
  have z173 : q_z f171 o 3 = 0 := by rw [ef171, q_setz (Or.inl (fun q => by rw [q, kv] at ko; exact absurd ko (by decide)))]; exact hf0
  have z174 : q_z f171 o 4 = 0 := by rw [ef171, q_setz (Or.inr (by decide))]; exact hf1
  have z175 : q_z f171 o 5 = 0 := by rw [ef171, q_setz (Or.inr (by decide))]; exact hf2
  have z176 : q_z f171 o 6 = 12 := by rw [ef171, q_setz (Or.inr (by decide))]; exact hf3
  have z177 : q_z f171 o 10 = 3 := by rw [ef171, q_setz (Or.inr (by decide))]; exact hf4
  have z178 : q_z f171 o 11 = 0 := by rw [ef171, q_setz (Or.inr (by decide))]; exact hf5
  have z179 : q_z f171 o 12 = 0 := by rw [ef171, q_setz (Or.inr (by decide))]; exact hf6
  refine q_ald_n cx dX10_copyFrom_8 rfl (lv_at hl 0 rfl) ?_
  refine q_ald_n cx dX10_copyFrom_9 rfl (lv_at hl 1 rfl) ?_
  refine q_gX10_39_13 cx hB ho ko z174 dX10_copyFrom_10 (fun lb180 ub180 => ?_)
  refine q_pX10_39 cx hB hv kv ⟨by decide, by decide⟩ (by decide) (by decide) rfl dX10_copyFrom_13 (fun H locs f181 ef181 z182 hB => ?_)
  have z183 : q_z f181 o 3 = 0 := by rw [ef181, q_setz (Or.inr (by decide))]; exact z173
  have z184 : q_z f181 o 4 = 0 := by rw [ef181, q_setz (Or.inl (fun q => by rw [q, kv] at ko; exact absurd ko (by decide)))]; exact z174
  have z185 : q_z f181 o 5 = 0 := by rw [ef181, q_setz (Or.inr (by decide))]; exact z175
  have z186 : q_z f181 o 6 = 12 := by rw [ef181, q_setz (Or.inr (by decide))]; exact z176
  have z187 : q_z f181 o 10 = 3 := by rw [ef181, q_setz (Or.inr (by decide))]; exact z177
  have z188 : q_z f181 o 11 = 0 := by rw [ef181, q_setz (Or.inr (by decide))]; exact z178
  have z189 : q_z f181 o 12 = 0 := by rw [ef181, q_setz (Or.inr (by decide))]; exact z179
  have z190 : q_z f181 v 3 = 0 := by rw [ef181, q_setz (Or.inr (by decide))]; exact z172
  refine q_ald_n cx dX10_copyFrom_16 rfl (lv_at hl 0 rfl) ?_
  refine q_ald_n cx dX10_copyFrom_17 rfl (lv_at hl 1 rfl) ?_
  refine q_gX10_42_13 cx hB ho ko z185 dX10_copyFrom_18 (fun lb191 ub191 => ?_)
  refine q_pX10_42 cx hB hv kv ⟨by decide, by decide⟩ (by decide) (by decide) rfl dX10_copyFrom_21 (fun H locs f192 ef192 z193 hB => ?_)
  have z194 : q_z f192 o 3 = 0 := by rw [ef192, q_setz (Or.inr (by decide))]; exact z183
  have z195 : q_z f192 o 4 = 0 := by rw [ef192, q_setz (Or.inr (by decide))]; exact z184
  have z196 : q_z f192 o 5 = 0 := by rw [ef192, q_setz (Or.inl (fun q => by rw [q, kv] at ko; exact absurd ko (by decide)))]; exact z185
  have z197 : q_z f192 o 6 = 12 := by rw [ef192, q_setz (Or.inr (by decide))]; exact z186
  have z198 : q_z f192 o 10 = 3 := by rw [ef192, q_setz (Or.inr (by decide))]; exact z187
  have z199 : q_z f192 o 11 = 0 := by rw [ef192, q_setz (Or.inr (by decide))]; exact z188
  have z200 : q_z f192 o 12 = 0 := by rw [ef192, q_setz (Or.inr (by decide))]; exact z189
  have z201 : q_z f192 v 3 = 0 := by rw [ef192, q_setz (Or.inr (by decide))]; exact z190
  have z202 : q_z f192 v 4 = 0 := by rw [ef192, q_setz (Or.inr (by decide))]; exact z182
  refine q_ald_n cx dX10_copyFrom_24 rfl (lv_at hl 0 rfl) ?_
  refine q_ald_n cx dX10_copyFrom_25 rfl (lv_at hl 1 rfl) ?_
  refine q_gX10_45_13 cx hB ho ko z197 dX10_copyFrom_26 (fun lb203 ub203 => ?_)
  refine q_pX10_45 cx hB hv kv ⟨by decide, by decide⟩ (by decide) (by decide) rfl dX10_copyFrom_29 (fun H locs f204 ef204 z205 hB => ?_)
  have z206 : q_z f204 o 3 = 0 := by rw [ef204, q_setz (Or.inr (by decide))]; exact z194
  have z207 : q_z f204 o 4 = 0 := by rw [ef204, q_setz (Or.inr (by decide))]; exact z195
  have z208 : q_z f204 o 5 = 0 := by rw [ef204, q_setz (Or.inr (by decide))]; exact z196
  have z209 : q_z f204 o 6 = 12 := by rw [ef204, q_setz (Or.inl (fun q => by rw [q, kv] at ko; exact absurd ko (by decide)))]; exact z197
  have z210 : q_z f204 o 10 = 3 := by rw [ef204, q_setz (Or.inr (by decide))]; exact z198
  have z211 : q_z f204 o 11 = 0 := by rw [ef204, q_setz (Or.inr (by decide))]; exact z199
  have z212 : q_z f204 o 12 = 0 := by rw [ef204, q_setz (Or.inr (by decide))]; exact z200
  have z213 : q_z f204 v 3 = 0 := by rw [ef204, q_setz (Or.inr (by decide))]; exact z201
  have z214 : q_z f204 v 4 = 0 := by rw [ef204, q_setz (Or.inr (by decide))]; exact z202
  have z215 : q_z f204 v 5 = 0 := by rw [ef204, q_setz (Or.inr (by decide))]; exact z193
  refine q_ald_n cx dX10_copyFrom_32 rfl (lv_at hl 0 rfl) ?_
  refine q_ald_n cx dX10_copyFrom_33 rfl (lv_at hl 1 rfl) ?_
  obtain ⟨x216, ex216⟩ : ∃ zz, q_z f204 o 7 = zz := ⟨_, rfl⟩
  refine q_gX10_48_13 cx hB ho ko ex216 dX10_copyFrom_34 (fun lb217 ub217 => ?_)
  refine q_pX10_48 cx hB hv kv ⟨by omega, by omega⟩ (by omega) (by omega) rfl dX10_copyFrom_37 (fun H locs f218 ef218 z219 hB => ?_)
  have z220 : q_z f218 o 3 = 0 := by rw [ef218, q_setz (Or.inr (by decide))]; exact z206
  have z221 : q_z f218 o 4 = 0 := by rw [ef218, q_setz (Or.inr (by decide))]; exact z207
  have z222 : q_z f218 o 5 = 0 := by rw [ef218, q_setz (Or.inr (by decide))]; exact z208
  have z223 : q_z f218 o 6 = 12 := by rw [ef218, q_setz (Or.inr (by decide))]; exact z209
  have z224 : q_z f218 o 10 = 3 := by rw [ef218, q_setz (Or.inr (by decide))]; exact z210
  have z225 : q_z f218 o 11 = 0 := by rw [ef218, q_setz (Or.inr (by decide))]; exact z211
  have z226 : q_z f218 o 12 = 0 := by rw [ef218, q_setz (Or.inr (by decide))]; exact z212
  have z227 : q_z f218 v 3 = 0 := by rw [ef218, q_setz (Or.inr (by decide))]; exact z213
  have z228 : q_z f218 v 4 = 0 := by rw [ef218, q_setz (Or.inr (by decide))]; exact z214
  have z229 : q_z f218 v 5 = 0 := by rw [ef218, q_setz (Or.inr (by decide))]; exact z215
  have z230 : q_z f218 v 6 = 12 := by rw [ef218, q_setz (Or.inr (by decide))]; exact z205
  have z231 : q_z f218 o 7 = x216 := by rw [ef218, q_setz (Or.inl (fun q => by rw [q, kv] at ko; exact absurd ko (by decide)))]; exact ex216
  refine q_ald_n cx dX10_copyFrom_40 rfl (lv_at hl 0 rfl) ?_
  refine q_ald_n cx dX10_copyFrom_41 rfl (lv_at hl 1 rfl) ?_
  obtain ⟨x232, ex232⟩ : ∃ zz, q_z f218 o 8 = zz := ⟨_, rfl⟩
  refine q_gX10_51_13 cx hB ho ko ex232 dX10_copyFrom_42 (fun lb233 ub233 => ?_)
  refine q_pX10_51 cx hB hv kv ⟨by omega, by omega⟩ (by omega) (by omega) rfl dX10_copyFrom_45 (fun H locs f234 ef234 z235 hB => ?_)
  have z236 : q_z f234 o 3 = 0 := by rw [ef234, q_setz (Or.inr (by decide))]; exact z220
  have z237 : q_z f234 o 4 = 0 := by rw [ef234, q_setz (Or.inr (by decide))]; exact z221
  have z238 : q_z f234 o 5 = 0 := by rw [ef234, q_setz (Or.inr (by decide))]; exact z222
  have z239 : q_z f234 o 6 = 12 := by rw [ef234, q_setz (Or.inr (by decide))]; exact z223
  have z240 : q_z f234 o 10 = 3 := by rw [ef234, q_setz (Or.inr (by decide))]; exact z224
  have z241 : q_z f234 o 11 = 0 := by rw [ef234, q_setz (Or.inr (by decide))]; exact z225
  have z242 : q_z f234 o 12 = 0 := by rw [ef234, q_setz (Or.inr (by decide))]; exact z226
  have z243 : q_z f234 v 3 = 0 := by rw [ef234, q_setz (Or.inr (by decide))]; exact z227
  have z244 : q_z f234 v 4 = 0 := by rw [ef234, q_setz (Or.inr (by decide))]; exact z228
  have z245 : q_z f234 v 5 = 0 := by rw [ef234, q_setz (Or.inr (by decide))]; exact z229
  have z246 : q_z f234 v 6 = 12 := by rw [ef234, q_setz (Or.inr (by decide))]; exact z230
  have z247 : q_z f234 o 7 = x216 := by rw [ef234, q_setz (Or.inr (by decide))]; exact z231
  have z248 : q_z f234 v 7 = x216 := by rw [ef234, q_setz (Or.inr (by decide))]; exact z219
  have z249 : q_z f234 o 8 = x232 := by rw [ef234, q_setz (Or.inl (fun q => by rw [q, kv] at ko; exact absurd ko (by decide)))]; exact ex232
  refine q_ald_n cx dX10_copyFrom_48 rfl (lv_at hl 0 rfl) ?_
  refine q_ald_n cx dX10_copyFrom_49 rfl (lv_at hl 1 rfl) ?_
  obtain ⟨x250, ex250⟩ : ∃ zz, q_z f234 o 9 = zz := ⟨_, rfl⟩
  refine q_gX10_54_13 cx hB ho ko ex250 dX10_copyFrom_50 (fun lb251 ub251 => ?_)
  refine q_pX10_54 cx hB hv kv ⟨by omega, by omega⟩ (by omega) (by omega) rfl dX10_copyFrom_53 (fun H locs f252 ef252 z253 hB => ?_)
  have z254 : q_z f252 o 3 = 0 := by rw [ef252, q_setz (Or.inr (by decide))]; exact z236
  have z255 : q_z f252 o 4 = 0 := by rw [ef252, q_setz (Or.inr (by decide))]; exact z237
  have z256 : q_z f252 o 5 = 0 := by rw [ef252, q_setz (Or.inr (by decide))]; exact z238
  have z257 : q_z f252 o 6 = 12 := by rw [ef252, q_setz (Or.inr (by decide))]; exact z239
  have z258 : q_z f252 o 10 = 3 := by rw [ef252, q_setz (Or.inr (by decide))]; exact z240
  have z259 : q_z f252 o 11 = 0 := by rw [ef252, q_setz (Or.inr (by decide))]; exact z241
  have z260 : q_z f252 o 12 = 0 := by rw [ef252, q_setz (Or.inr (by decide))]; exact z242
  have z261 : q_z f252 v 3 = 0 := by rw [ef252, q_setz (Or.inr (by decide))]; exact z243
  have z262 : q_z f252 v 4 = 0 := by rw [ef252, q_setz (Or.inr (by decide))]; exact z244
  have z263 : q_z f252 v 5 = 0 := by rw [ef252, q_setz (Or.inr (by decide))]; exact z245
  have z264 : q_z f252 v 6 = 12 := by rw [ef252, q_setz (Or.inr (by decide))]; exact z246
  have z265 : q_z f252 o 7 = x216 := by rw [ef252, q_setz (Or.inr (by decide))]; exact z247
  have z266 : q_z f252 v 7 = x216 := by rw [ef252, q_setz (Or.inr (by decide))]; exact z248
  have z267 : q_z f252 o 8 = x232 := by rw [ef252, q_setz (Or.inr (by decide))]; exact z249
  have z268 : q_z f252 v 8 = x232 := by rw [ef252, q_setz (Or.inr (by decide))]; exact z235
  have z269 : q_z f252 o 9 = x250 := by rw [ef252, q_setz (Or.inl (fun q => by rw [q, kv] at ko; exact absurd ko (by decide)))]; exact ex250
  refine q_ald_n cx dX10_copyFrom_56 rfl (lv_at hl 0 rfl) ?_
  refine q_ald_n cx dX10_copyFrom_57 rfl (lv_at hl 1 rfl) ?_
  refine q_gX10_57_13 cx hB ho ko z258 dX10_copyFrom_58 (fun lb270 ub270 => ?_)
  refine q_pX10_57 cx hB hv kv ⟨by decide, by decide⟩ (by decide) (by decide) rfl dX10_copyFrom_61 (fun H locs f271 ef271 z272 hB => ?_)
  have z273 : q_z f271 o 3 = 0 := by rw [ef271, q_setz (Or.inr (by decide))]; exact z254
  have z274 : q_z f271 o 4 = 0 := by rw [ef271, q_setz (Or.inr (by decide))]; exact z255
  have z275 : q_z f271 o 5 = 0 := by rw [ef271, q_setz (Or.inr (by decide))]; exact z256
  have z276 : q_z f271 o 6 = 12 := by rw [ef271, q_setz (Or.inr (by decide))]; exact z257
  have z277 : q_z f271 o 10 = 3 := by rw [ef271, q_setz (Or.inl (fun q => by rw [q, kv] at ko; exact absurd ko (by decide)))]; exact z258
  have z278 : q_z f271 o 11 = 0 := by rw [ef271, q_setz (Or.inr (by decide))]; exact z259
  have z279 : q_z f271 o 12 = 0 := by rw [ef271, q_setz (Or.inr (by decide))]; exact z260
  have z280 : q_z f271 v 3 = 0 := by rw [ef271, q_setz (Or.inr (by decide))]; exact z261
  have z281 : q_z f271 v 4 = 0 := by rw [ef271, q_setz (Or.inr (by decide))]; exact z262
  have z282 : q_z f271 v 5 = 0 := by rw [ef271, q_setz (Or.inr (by decide))]; exact z263
  have z283 : q_z f271 v 6 = 12 := by rw [ef271, q_setz (Or.inr (by decide))]; exact z264
  have z284 : q_z f271 o 7 = x216 := by rw [ef271, q_setz (Or.inr (by decide))]; exact z265
  have z285 : q_z f271 v 7 = x216 := by rw [ef271, q_setz (Or.inr (by decide))]; exact z266
  have z286 : q_z f271 o 8 = x232 := by rw [ef271, q_setz (Or.inr (by decide))]; exact z267
  have z287 : q_z f271 v 8 = x232 := by rw [ef271, q_setz (Or.inr (by decide))]; exact z268
  have z288 : q_z f271 o 9 = x250 := by rw [ef271, q_setz (Or.inr (by decide))]; exact z269
  have z289 : q_z f271 v 9 = x250 := by rw [ef271, q_setz (Or.inr (by decide))]; exact z253
  refine q_ald_n cx dX10_copyFrom_64 rfl (lv_at hl 0 rfl) ?_
  refine q_ald_n cx dX10_copyFrom_65 rfl (lv_at hl 1 rfl) ?_
  refine q_gX10_60_13 cx hB ho ko z278 dX10_copyFrom_66 (fun lb290 ub290 => ?_)
  refine q_pX10_60 cx hB hv kv ⟨by decide, by decide⟩ (by decide) (by decide) rfl dX10_copyFrom_69 (fun H locs f291 ef291 z292 hB => ?_)
  have z293 : q_z f291 o 3 = 0 := by rw [ef291, q_setz (Or.inr (by decide))]; exact z273
  have z294 : q_z f291 o 4 = 0 := by rw [ef291, q_setz (Or.inr (by decide))]; exact z274
  have z295 : q_z f291 o 5 = 0 := by rw [ef291, q_setz (Or.inr (by decide))]; exact z275
  have z296 : q_z f291 o 6 = 12 := by rw [ef291, q_setz (Or.inr (by decide))]; exact z276
  have z297 : q_z f291 o 10 = 3 := by rw [ef291, q_setz (Or.inr (by decide))]; exact z277
  have z298 : q_z f291 o 11 = 0 := by rw [ef291, q_setz (Or.inl (fun q => by rw [q, kv] at ko; exact absurd ko (by decide)))]; exact z278
  have z299 : q_z f291 o 12 = 0 := by rw [ef291, q_setz (Or.inr (by decide))]; exact z279
  have z300 : q_z f291 v 3 = 0 := by rw [ef291, q_setz (Or.inr (by decide))]; exact z280
  have z301 : q_z f291 v 4 = 0 := by rw [ef291, q_setz (Or.inr (by decide))]; exact z281
  have z302 : q_z f291 v 5 = 0 := by rw [ef291, q_setz (Or.inr (by decide))]; exact z282
  have z303 : q_z f291 v 6 = 12 := by rw [ef291, q_setz (Or.inr (by decide))]; exact z283
  have z304 : q_z f291 o 7 = x216 := by rw [ef291, q_setz (Or.inr (by decide))]; exact z284
  have z305 : q_z f291 v 7 = x216 := by rw [ef291, q_setz (Or.inr (by decide))]; exact z285
  have z306 : q_z f291 o 8 = x232 := by rw [ef291, q_setz (Or.inr (by decide))]; exact z286
  have z307 : q_z f291 v 8 = x232 := by rw [ef291, q_setz (Or.inr (by decide))]; exact z287
  have z308 : q_z f291 o 9 = x250 := by rw [ef291, q_setz (Or.inr (by decide))]; exact z288
  have z309 : q_z f291 v 9 = x250 := by rw [ef291, q_setz (Or.inr (by decide))]; exact z289
  have z310 : q_z f291 v 10 = 3 := by rw [ef291, q_setz (Or.inr (by decide))]; exact z272
  refine q_ald_n cx dX10_copyFrom_72 rfl (lv_at hl 0 rfl) ?_
  refine q_ald_n cx dX10_copyFrom_73 rfl (lv_at hl 1 rfl) ?_
  refine q_gX10_63_13 cx hB ho ko z299 dX10_copyFrom_74 (fun lb311 ub311 => ?_)
  refine q_pX10_63 cx hB hv kv ⟨by decide, by decide⟩ (by decide) (by decide) rfl dX10_copyFrom_77 (fun H locs f312 ef312 z313 hB => ?_)
  have z314 : q_z f312 o 3 = 0 := by rw [ef312, q_setz (Or.inr (by decide))]; exact z293
  have z315 : q_z f312 o 4 = 0 := by rw [ef312, q_setz (Or.inr (by decide))]; exact z294
  have z316 : q_z f312 o 5 = 0 := by rw [ef312, q_setz (Or.inr (by decide))]; exact z295
  have z317 : q_z f312 o 6 = 12 := by rw [ef312, q_setz (Or.inr (by decide))]; exact z296
  have z318 : q_z f312 o 10 = 3 := by rw [ef312, q_setz (Or.inr (by decide))]; exact z297
  have z319 : q_z f312 o 11 = 0 := by rw [ef312, q_setz (Or.inr (by decide))]; exact z298
  have z320 : q_z f312 o 12 = 0 := by rw [ef312, q_setz (Or.inl (fun q => by rw [q, kv] at ko; exact absurd ko (by decide)))]; exact z299
  have z321 : q_z f312 v 3 = 0 := by rw [ef312, q_setz (Or.inr (by decide))]; exact z300
  have z322 : q_z f312 v 4 = 0 := by rw [ef312, q_setz (Or.inr (by decide))]; exact z301
  have z323 : q_z f312 v 5 = 0 := by rw [ef312, q_setz (Or.inr (by decide))]; exact z302
  have z324 : q_z f312 v 6 = 12 := by rw [ef312, q_setz (Or.inr (by decide))]; exact z303
  have z325 : q_z f312 o 7 = x216 := by rw [ef312, q_setz (Or.inr (by decide))]; exact z304
  have z326 : q_z f312 v 7 = x216 := by rw [ef312, q_setz (Or.inr (by decide))]; exact z305
  have z327 : q_z f312 o 8 = x232 := by rw [ef312, q_setz (Or.inr (by decide))]; exact z306
  have z328 : q_z f312 v 8 = x232 := by rw [ef312, q_setz (Or.inr (by decide))]; exact z307
  have z329 : q_z f312 o 9 = x250 := by rw [ef312, q_setz (Or.inr (by decide))]; exact z308
  have z330 : q_z f312 v 9 = x250 := by rw [ef312, q_setz (Or.inr (by decide))]; exact z309
  have z331 : q_z f312 v 10 = 3 := by rw [ef312, q_setz (Or.inr (by decide))]; exact z310
  have z332 : q_z f312 v 11 = 0 := by rw [ef312, q_setz (Or.inr (by decide))]; exact z292
  refine q_iconst cx dX10_copyFrom_80 ?_
  refine lv_istore_n (lv' := [(2, .int (q_i 0)), (0, .ref v), (1, .ref o)]) cx.1 cx.2.1 dX10_copyFrom_81 rfl hl (by decide) rfl (fun ls hl => ?_)
  refine q_ild_n cx dX10_copyFrom_82 rfl (lv_at hl 0 rfl) ?_
  refine q_ald_n cx dX10_copyFrom_83 rfl (lv_at hl 1 rfl) ?_
  refine q_gX10_35 cx hB hv kv z321 dX10_copyFrom_84 (fun lb333 ub333 => ?_)
  refine q_icge (tgt := 109) cx ⟨by decide, by decide⟩ ⟨by decide, by decide⟩ dX10_copyFrom_87 (by decide) (fun c334 => ?_) (fun c334 => ?_)
  · refine q_iconst cx dX10_copyFrom_109 ?_
    refine lv_istore_n (lv' := [(2, .int (q_i 0)), (0, .ref v), (1, .ref o)]) cx.1 cx.2.1 dX10_copyFrom_110 rfl hl (by decide) rfl (fun ls hl => ?_)
    refine q_ild_n cx dX10_copyFrom_111 rfl (lv_at hl 0 rfl) ?_
    refine q_ald_n cx dX10_copyFrom_112 rfl (lv_at hl 1 rfl) ?_
    refine q_gX10_39 cx hB hv kv z322 dX10_copyFrom_113 (fun lb335 ub335 => ?_)
    refine q_icge (tgt := 138) cx ⟨by decide, by decide⟩ ⟨by decide, by decide⟩ dX10_copyFrom_116 (by decide) (fun c336 => ?_) (fun c336 => ?_)
    · refine q_iconst cx dX10_copyFrom_138 ?_
      refine lv_istore_n (lv' := [(2, .int (q_i 0)), (0, .ref v), (1, .ref o)]) cx.1 cx.2.1 dX10_copyFrom_139 rfl hl (by decide) rfl (fun ls hl => ?_)
      refine q_ild_n cx dX10_copyFrom_140 rfl (lv_at hl 0 rfl) ?_
      refine q_ald_n cx dX10_copyFrom_141 rfl (lv_at hl 1 rfl) ?_
      refine q_gX10_42 cx hB hv kv z323 dX10_copyFrom_142 (fun lb337 ub337 => ?_)
      refine q_icge (tgt := 167) cx ⟨by decide, by decide⟩ ⟨by decide, by decide⟩ dX10_copyFrom_145 (by decide) (fun c338 => ?_) (fun c338 => ?_)
      · refine q_vret cx hr hlk hB dX10_copyFrom_167 ?_
        exact ⟨z321, z322, z323, z324, z331, z332, z313⟩
      · exact absurd c338 (by omega)
    · exact absurd c336 (by omega)
  · exact absurd c334 (by omega)
set_option maxHeartbeats 4000000 in
set_option maxRecDepth 100000 in
theorem m_copy0_40 (l : Launch) (g : q_G) {K : Nat → Nat} {L : List Nat} (hN : L.Nodup) {f : Nat → va_E} (hT : q_Ty g K L f) (v : Nat) (hv : v ∈ L) (kv : K v = 16) (o : Nat) (ho : o ∈ L) (ko : K o = 10) (hf0 : q_z f o 3 = 0) (hf1 : q_z f o 4 = 0) (hf2 : q_z f o 5 = 0) (hf3 : q_z f o 6 = 12) (hf4 : q_z f o 10 = 3) (hf5 : q_z f o 11 = 0) (hf6 : q_z f o 12 = 0) : q_Ct l g K L yX10_copyFrom cX10_copyFrom 3 none 0 0 [.ref v, .ref o] f [(16, 3, 12)] (q_Pv (fun (f1 : Nat → va_E) => q_z f1 v 3 = 0 ∧ q_z f1 v 4 = 0 ∧ q_z f1 v 5 = 0 ∧ q_z f1 v 6 = 12 ∧ q_z f1 v 10 = 3 ∧ q_z f1 v 11 = 0 ∧ q_z f1 v 12 = 0)) := by
  refine q_ofb (by decide +kernel) hN hT (Nat.le_of_ble_eq_true rfl) ?_
  intro p e s m below meth c ls cx hr hlk hB hl
  have hl : lv_has ls 3 [(0, .ref v), (1, .ref o)] := hl
  obtain ⟨H, hH⟩ : ∃ H : Heap, H = s.heap := ⟨_, rfl⟩
  obtain ⟨locs, hlocs⟩ : ∃ z : List Loc, z = [] := ⟨_, rfl⟩
  rw [← hH, ← hlocs] at hB
  rw [← hH, ← hlocs]
  refine q_ald_n cx dX10_copyFrom_0 rfl (lv_at hl 0 rfl) ?_
  refine q_ald_n cx dX10_copyFrom_1 rfl (lv_at hl 1 rfl) ?_
  refine q_gX10_35 cx hB ho ko hf0 dX10_copyFrom_2 (fun lb170 ub170 => ?_)
  refine q_pX10_35_16 cx hB hv kv ⟨by decide, by decide⟩ (by decide) (by decide) rfl dX10_copyFrom_5 (fun H locs f171 ef171 z172 hB => ?_)
  have z173 : q_z f171 o 3 = 0 := by rw [ef171, q_setz (Or.inl (fun q => by rw [q, kv] at ko; exact absurd ko (by decide)))]; exact hf0
  have z174 : q_z f171 o 4 = 0 := by rw [ef171, q_setz (Or.inr (by decide))]; exact hf1
  have z175 : q_z f171 o 5 = 0 := by rw [ef171, q_setz (Or.inr (by decide))]; exact hf2
  have z176 : q_z f171 o 6 = 12 := by rw [ef171, q_setz (Or.inr (by decide))]; exact hf3
  have z177 : q_z f171 o 10 = 3 := by rw [ef171, q_setz (Or.inr (by decide))]; exact hf4
  have z178 : q_z f171 o 11 = 0 := by rw [ef171, q_setz (Or.inr (by decide))]; exact hf5
  have z179 : q_z f171 o 12 = 0 := by rw [ef171, q_setz (Or.inr (by decide))]; exact hf6
  refine q_ald_n cx dX10_copyFrom_8 rfl (lv_at hl 0 rfl) ?_
  refine q_ald_n cx dX10_copyFrom_9 rfl (lv_at hl 1 rfl) ?_
  refine q_gX10_39 cx hB ho ko z174 dX10_copyFrom_10 (fun lb180 ub180 => ?_)
  refine q_pX10_39_16 cx hB hv kv ⟨by decide, by decide⟩ (by decide) (by decide) rfl dX10_copyFrom_13 (fun H locs f181 ef181 z182 hB => ?_)
  have z183 : q_z f181 o 3 = 0 := by rw [ef181, q_setz (Or.inr (by decide))]; exact z173
  have z184 : q_z f181 o 4 = 0 := by rw [ef181, q_setz (Or.inl (fun q => by rw [q, kv] at ko; exact absurd ko (by decide)))]; exact z174
  have z185 : q_z f181 o 5 = 0 := by rw [ef181, q_setz (Or.inr (by decide))]; exact z175
  have z186 : q_z f181 o 6 = 12 := by rw [ef181, q_setz (Or.inr (by decide))]; exact z176
  have z187 : q_z f181 o 10 = 3 := by rw [ef181, q_setz (Or.inr (by decide))]; exact z177
  have z188 : q_z f181 o 11 = 0 := by rw [ef181, q_setz (Or.inr (by decide))]; exact z178
  have z189 : q_z f181 o 12 = 0 := by rw [ef181, q_setz (Or.inr (by decide))]; exact z179
  have z190 : q_z f181 v 3 = 0 := by rw [ef181, q_setz (Or.inr (by decide))]; exact z172
  refine q_ald_n cx dX10_copyFrom_16 rfl (lv_at hl 0 rfl) ?_
  refine q_ald_n cx dX10_copyFrom_17 rfl (lv_at hl 1 rfl) ?_
  refine q_gX10_42 cx hB ho ko z185 dX10_copyFrom_18 (fun lb191 ub191 => ?_)
  refine q_pX10_42_16 cx hB hv kv ⟨by decide, by decide⟩ (by decide) (by decide) rfl dX10_copyFrom_21 (fun H locs f192 ef192 z193 hB => ?_)
  have z194 : q_z f192 o 3 = 0 := by rw [ef192, q_setz (Or.inr (by decide))]; exact z183
  have z195 : q_z f192 o 4 = 0 := by rw [ef192, q_setz (Or.inr (by decide))]; exact z184
  have z196 : q_z f192 o 5 = 0 := by rw [ef192, q_setz (Or.inl (fun q => by rw [q, kv] at ko; exact absurd ko (by decide)))]; exact z185
  have z197 : q_z f192 o 6 = 12 := by rw [ef192, q_setz (Or.inr (by decide))]; exact z186
  have z198 : q_z f192 o 10 = 3 := by rw [ef192, q_setz (Or.inr (by decide))]; exact z187
  have z199 : q_z f192 o 11 = 0 := by rw [ef192, q_setz (Or.inr (by decide))]; exact z188
  have z200 : q_z f192 o 12 = 0 := by rw [ef192, q_setz (Or.inr (by decide))]; exact z189
  have z201 : q_z f192 v 3 = 0 := by rw [ef192, q_setz (Or.inr (by decide))]; exact z190
  have z202 : q_z f192 v 4 = 0 := by rw [ef192, q_setz (Or.inr (by decide))]; exact z182
  refine q_ald_n cx dX10_copyFrom_24 rfl (lv_at hl 0 rfl) ?_
  refine q_ald_n cx dX10_copyFrom_25 rfl (lv_at hl 1 rfl) ?_
  refine q_gX10_45 cx hB ho ko z197 dX10_copyFrom_26 (fun lb203 ub203 => ?_)
  refine q_pX10_45_16 cx hB hv kv ⟨by decide, by decide⟩ (by decide) (by decide) rfl dX10_copyFrom_29 (fun H locs f204 ef204 z205 hB => ?_)
  have z206 : q_z f204 o 3 = 0 := by rw [ef204, q_setz (Or.inr (by decide))]; exact z194
  have z207 : q_z f204 o 4 = 0 := by rw [ef204, q_setz (Or.inr (by decide))]; exact z195
  have z208 : q_z f204 o 5 = 0 := by rw [ef204, q_setz (Or.inr (by decide))]; exact z196
  have z209 : q_z f204 o 6 = 12 := by rw [ef204, q_setz (Or.inl (fun q => by rw [q, kv] at ko; exact absurd ko (by decide)))]; exact z197
  have z210 : q_z f204 o 10 = 3 := by rw [ef204, q_setz (Or.inr (by decide))]; exact z198
  have z211 : q_z f204 o 11 = 0 := by rw [ef204, q_setz (Or.inr (by decide))]; exact z199
  have z212 : q_z f204 o 12 = 0 := by rw [ef204, q_setz (Or.inr (by decide))]; exact z200
  have z213 : q_z f204 v 3 = 0 := by rw [ef204, q_setz (Or.inr (by decide))]; exact z201
  have z214 : q_z f204 v 4 = 0 := by rw [ef204, q_setz (Or.inr (by decide))]; exact z202
  have z215 : q_z f204 v 5 = 0 := by rw [ef204, q_setz (Or.inr (by decide))]; exact z193
  refine q_ald_n cx dX10_copyFrom_32 rfl (lv_at hl 0 rfl) ?_
  refine q_ald_n cx dX10_copyFrom_33 rfl (lv_at hl 1 rfl) ?_
  obtain ⟨x216, ex216⟩ : ∃ zz, q_z f204 o 7 = zz := ⟨_, rfl⟩
  refine q_gX10_48 cx hB ho ko ex216 dX10_copyFrom_34 (fun lb217 ub217 => ?_)
  refine q_pX10_48_16 cx hB hv kv ⟨by omega, by omega⟩ (by omega) (by omega) rfl dX10_copyFrom_37 (fun H locs f218 ef218 z219 hB => ?_)
  have z220 : q_z f218 o 3 = 0 := by rw [ef218, q_setz (Or.inr (by decide))]; exact z206
  have z221 : q_z f218 o 4 = 0 := by rw [ef218, q_setz (Or.inr (by decide))]; exact z207
  have z222 : q_z f218 o 5 = 0 := by rw [ef218, q_setz (Or.inr (by decide))]; exact z208
  have z223 : q_z f218 o 6 = 12 := by rw [ef218, q_setz (Or.inr (by decide))]; exact z209
  have z224 : q_z f218 o 10 = 3 := by rw [ef218, q_setz (Or.inr (by decide))]; exact z210
  have z225 : q_z f218 o 11 = 0 := by rw [ef218, q_setz (Or.inr (by decide))]; exact z211
  have z226 : q_z f218 o 12 = 0 := by rw [ef218, q_setz (Or.inr (by decide))]; exact z212
  have z227 : q_z f218 v 3 = 0 := by rw [ef218, q_setz (Or.inr (by decide))]; exact z213
  have z228 : q_z f218 v 4 = 0 := by rw [ef218, q_setz (Or.inr (by decide))]; exact z214
  have z229 : q_z f218 v 5 = 0 := by rw [ef218, q_setz (Or.inr (by decide))]; exact z215
  have z230 : q_z f218 v 6 = 12 := by rw [ef218, q_setz (Or.inr (by decide))]; exact z205
  have z231 : q_z f218 o 7 = x216 := by rw [ef218, q_setz (Or.inl (fun q => by rw [q, kv] at ko; exact absurd ko (by decide)))]; exact ex216
  refine q_ald_n cx dX10_copyFrom_40 rfl (lv_at hl 0 rfl) ?_
  refine q_ald_n cx dX10_copyFrom_41 rfl (lv_at hl 1 rfl) ?_
  obtain ⟨x232, ex232⟩ : ∃ zz, q_z f218 o 8 = zz := ⟨_, rfl⟩
  refine q_gX10_51 cx hB ho ko ex232 dX10_copyFrom_42 (fun lb233 ub233 => ?_)
  refine q_pX10_51_16 cx hB hv kv ⟨by omega, by omega⟩ (by omega) (by omega) rfl dX10_copyFrom_45 (fun H locs f234 ef234 z235 hB => ?_)
  have z236 : q_z f234 o 3 = 0 := by rw [ef234, q_setz (Or.inr (by decide))]; exact z220
  have z237 : q_z f234 o 4 = 0 := by rw [ef234, q_setz (Or.inr (by decide))]; exact z221
  have z238 : q_z f234 o 5 = 0 := by rw [ef234, q_setz (Or.inr (by decide))]; exact z222
  have z239 : q_z f234 o 6 = 12 := by rw [ef234, q_setz (Or.inr (by decide))]; exact z223
  have z240 : q_z f234 o 10 = 3 := by rw [ef234, q_setz (Or.inr (by decide))]; exact z224
  have z241 : q_z f234 o 11 = 0 := by rw [ef234, q_setz (Or.inr (by decide))]; exact z225
  have z242 : q_z f234 o 12 = 0 := by rw [ef234, q_setz (Or.inr (by decide))]; exact z226
  have z243 : q_z f234 v 3 = 0 := by rw [ef234, q_setz (Or.inr (by decide))]; exact z227
  have z244 : q_z f234 v 4 = 0 := by rw [ef234, q_setz (Or.inr (by decide))]; exact z228
  have z245 : q_z f234 v 5 = 0 := by rw [ef234, q_setz (Or.inr (by decide))]; exact z229
  have z246 : q_z f234 v 6 = 12 := by rw [ef234, q_setz (Or.inr (by decide))]; exact z230
  have z247 : q_z f234 o 7 = x216 := by rw [ef234, q_setz (Or.inr (by decide))]; exact z231
  have z248 : q_z f234 v 7 = x216 := by rw [ef234, q_setz (Or.inr (by decide))]; exact z219
  have z249 : q_z f234 o 8 = x232 := by rw [ef234, q_setz (Or.inl (fun q => by rw [q, kv] at ko; exact absurd ko (by decide)))]; exact ex232
  refine q_ald_n cx dX10_copyFrom_48 rfl (lv_at hl 0 rfl) ?_
  refine q_ald_n cx dX10_copyFrom_49 rfl (lv_at hl 1 rfl) ?_
  obtain ⟨x250, ex250⟩ : ∃ zz, q_z f234 o 9 = zz := ⟨_, rfl⟩
  refine q_gX10_54 cx hB ho ko ex250 dX10_copyFrom_50 (fun lb251 ub251 => ?_)
  refine q_pX10_54_16 cx hB hv kv ⟨by omega, by omega⟩ (by omega) (by omega) rfl dX10_copyFrom_53 (fun H locs f252 ef252 z253 hB => ?_)
  have z254 : q_z f252 o 3 = 0 := by rw [ef252, q_setz (Or.inr (by decide))]; exact z236
  have z255 : q_z f252 o 4 = 0 := by rw [ef252, q_setz (Or.inr (by decide))]; exact z237
  have z256 : q_z f252 o 5 = 0 := by rw [ef252, q_setz (Or.inr (by decide))]; exact z238
  have z257 : q_z f252 o 6 = 12 := by rw [ef252, q_setz (Or.inr (by decide))]; exact z239
  have z258 : q_z f252 o 10 = 3 := by rw [ef252, q_setz (Or.inr (by decide))]; exact z240
  have z259 : q_z f252 o 11 = 0 := by rw [ef252, q_setz (Or.inr (by decide))]; exact z241
  have z260 : q_z f252 o 12 = 0 := by rw [ef252, q_setz (Or.inr (by decide))]; exact z242
  have z261 : q_z f252 v 3 = 0 := by rw [ef252, q_setz (Or.inr (by decide))]; exact z243
  have z262 : q_z f252 v 4 = 0 := by rw [ef252, q_setz (Or.inr (by decide))]; exact z244
  have z263 : q_z f252 v 5 = 0 := by rw [ef252, q_setz (Or.inr (by decide))]; exact z245
  have z264 : q_z f252 v 6 = 12 := by rw [ef252, q_setz (Or.inr (by decide))]; exact z246
  have z265 : q_z f252 o 7 = x216 := by rw [ef252, q_setz (Or.inr (by decide))]; exact z247
  have z266 : q_z f252 v 7 = x216 := by rw [ef252, q_setz (Or.inr (by decide))]; exact z248
  have z267 : q_z f252 o 8 = x232 := by rw [ef252, q_setz (Or.inr (by decide))]; exact z249
  have z268 : q_z f252 v 8 = x232 := by rw [ef252, q_setz (Or.inr (by decide))]; exact z235
  have z269 : q_z f252 o 9 = x250 := by rw [ef252, q_setz (Or.inl (fun q => by rw [q, kv] at ko; exact absurd ko (by decide)))]; exact ex250
  refine q_ald_n cx dX10_copyFrom_56 rfl (lv_at hl 0 rfl) ?_
  refine q_ald_n cx dX10_copyFrom_57 rfl (lv_at hl 1 rfl) ?_
  refine q_gX10_57 cx hB ho ko z258 dX10_copyFrom_58 (fun lb270 ub270 => ?_)
  refine q_pX10_57_16 cx hB hv kv ⟨by decide, by decide⟩ (by decide) (by decide) rfl dX10_copyFrom_61 (fun H locs f271 ef271 z272 hB => ?_)
  have z273 : q_z f271 o 3 = 0 := by rw [ef271, q_setz (Or.inr (by decide))]; exact z254
  have z274 : q_z f271 o 4 = 0 := by rw [ef271, q_setz (Or.inr (by decide))]; exact z255
  have z275 : q_z f271 o 5 = 0 := by rw [ef271, q_setz (Or.inr (by decide))]; exact z256
  have z276 : q_z f271 o 6 = 12 := by rw [ef271, q_setz (Or.inr (by decide))]; exact z257
  have z277 : q_z f271 o 10 = 3 := by rw [ef271, q_setz (Or.inl (fun q => by rw [q, kv] at ko; exact absurd ko (by decide)))]; exact z258
  have z278 : q_z f271 o 11 = 0 := by rw [ef271, q_setz (Or.inr (by decide))]; exact z259
  have z279 : q_z f271 o 12 = 0 := by rw [ef271, q_setz (Or.inr (by decide))]; exact z260
  have z280 : q_z f271 v 3 = 0 := by rw [ef271, q_setz (Or.inr (by decide))]; exact z261
  have z281 : q_z f271 v 4 = 0 := by rw [ef271, q_setz (Or.inr (by decide))]; exact z262
  have z282 : q_z f271 v 5 = 0 := by rw [ef271, q_setz (Or.inr (by decide))]; exact z263
  have z283 : q_z f271 v 6 = 12 := by rw [ef271, q_setz (Or.inr (by decide))]; exact z264
  have z284 : q_z f271 o 7 = x216 := by rw [ef271, q_setz (Or.inr (by decide))]; exact z265
  have z285 : q_z f271 v 7 = x216 := by rw [ef271, q_setz (Or.inr (by decide))]; exact z266
  have z286 : q_z f271 o 8 = x232 := by rw [ef271, q_setz (Or.inr (by decide))]; exact z267
  have z287 : q_z f271 v 8 = x232 := by rw [ef271, q_setz (Or.inr (by decide))]; exact z268
  have z288 : q_z f271 o 9 = x250 := by rw [ef271, q_setz (Or.inr (by decide))]; exact z269
  have z289 : q_z f271 v 9 = x250 := by rw [ef271, q_setz (Or.inr (by decide))]; exact z253
  refine q_ald_n cx dX10_copyFrom_64 rfl (lv_at hl 0 rfl) ?_
  refine q_ald_n cx dX10_copyFrom_65 rfl (lv_at hl 1 rfl) ?_
  refine q_gX10_60 cx hB ho ko z278 dX10_copyFrom_66 (fun lb290 ub290 => ?_)
  refine q_pX10_60_16 cx hB hv kv ⟨by decide, by decide⟩ (by decide) (by decide) rfl dX10_copyFrom_69 (fun H locs f291 ef291 z292 hB => ?_)
  have z293 : q_z f291 o 3 = 0 := by rw [ef291, q_setz (Or.inr (by decide))]; exact z273
  have z294 : q_z f291 o 4 = 0 := by rw [ef291, q_setz (Or.inr (by decide))]; exact z274
  have z295 : q_z f291 o 5 = 0 := by rw [ef291, q_setz (Or.inr (by decide))]; exact z275
  have z296 : q_z f291 o 6 = 12 := by rw [ef291, q_setz (Or.inr (by decide))]; exact z276
  have z297 : q_z f291 o 10 = 3 := by rw [ef291, q_setz (Or.inr (by decide))]; exact z277
  have z298 : q_z f291 o 11 = 0 := by rw [ef291, q_setz (Or.inl (fun q => by rw [q, kv] at ko; exact absurd ko (by decide)))]; exact z278
  have z299 : q_z f291 o 12 = 0 := by rw [ef291, q_setz (Or.inr (by decide))]; exact z279
  have z300 : q_z f291 v 3 = 0 := by rw [ef291, q_setz (Or.inr (by decide))]; exact z280
  have z301 : q_z f291 v 4 = 0 := by rw [ef291, q_setz (Or.inr (by decide))]; exact z281
  have z302 : q_z f291 v 5 = 0 := by rw [ef291, q_setz (Or.inr (by decide))]; exact z282
  have z303 : q_z f291 v 6 = 12 := by rw [ef291, q_setz (Or.inr (by decide))]; exact z283
  have z304 : q_z f291 o 7 = x216 := by rw [ef291, q_setz (Or.inr (by decide))]; exact z284
  have z305 : q_z f291 v 7 = x216 := by rw [ef291, q_setz (Or.inr (by decide))]; exact z285
  have z306 : q_z f291 o 8 = x232 := by rw [ef291, q_setz (Or.inr (by decide))]; exact z286
  have z307 : q_z f291 v 8 = x232 := by rw [ef291, q_setz (Or.inr (by decide))]; exact z287
  have z308 : q_z f291 o 9 = x250 := by rw [ef291, q_setz (Or.inr (by decide))]; exact z288
  have z309 : q_z f291 v 9 = x250 := by rw [ef291, q_setz (Or.inr (by decide))]; exact z289
  have z310 : q_z f291 v 10 = 3 := by rw [ef291, q_setz (Or.inr (by decide))]; exact z272
  refine q_ald_n cx dX10_copyFrom_72 rfl (lv_at hl 0 rfl) ?_
  refine q_ald_n cx dX10_copyFrom_73 rfl (lv_at hl 1 rfl) ?_
  refine q_gX10_63 cx hB ho ko z299 dX10_copyFrom_74 (fun lb311 ub311 => ?_)
  refine q_pX10_63_16 cx hB hv kv ⟨by decide, by decide⟩ (by decide) (by decide) rfl dX10_copyFrom_77 (fun H locs f312 ef312 z313 hB => ?_)
  have z314 : q_z f312 o 3 = 0 := by rw [ef312, q_setz (Or.inr (by decide))]; exact z293
  have z315 : q_z f312 o 4 = 0 := by rw [ef312, q_setz (Or.inr (by decide))]; exact z294
  have z316 : q_z f312 o 5 = 0 := by rw [ef312, q_setz (Or.inr (by decide))]; exact z295
  have z317 : q_z f312 o 6 = 12 := by rw [ef312, q_setz (Or.inr (by decide))]; exact z296
  have z318 : q_z f312 o 10 = 3 := by rw [ef312, q_setz (Or.inr (by decide))]; exact z297
  have z319 : q_z f312 o 11 = 0 := by rw [ef312, q_setz (Or.inr (by decide))]; exact z298
  have z320 : q_z f312 o 12 = 0 := by rw [ef312, q_setz (Or.inl (fun q => by rw [q, kv] at ko; exact absurd ko (by decide)))]; exact z299
  have z321 : q_z f312 v 3 = 0 := by rw [ef312, q_setz (Or.inr (by decide))]; exact z300
  have z322 : q_z f312 v 4 = 0 := by rw [ef312, q_setz (Or.inr (by decide))]; exact z301
  have z323 : q_z f312 v 5 = 0 := by rw [ef312, q_setz (Or.inr (by decide))]; exact z302
  have z324 : q_z f312 v 6 = 12 := by rw [ef312, q_setz (Or.inr (by decide))]; exact z303
  have z325 : q_z f312 o 7 = x216 := by rw [ef312, q_setz (Or.inr (by decide))]; exact z304
  have z326 : q_z f312 v 7 = x216 := by rw [ef312, q_setz (Or.inr (by decide))]; exact z305
  have z327 : q_z f312 o 8 = x232 := by rw [ef312, q_setz (Or.inr (by decide))]; exact z306
  have z328 : q_z f312 v 8 = x232 := by rw [ef312, q_setz (Or.inr (by decide))]; exact z307
  have z329 : q_z f312 o 9 = x250 := by rw [ef312, q_setz (Or.inr (by decide))]; exact z308
  have z330 : q_z f312 v 9 = x250 := by rw [ef312, q_setz (Or.inr (by decide))]; exact z309
  have z331 : q_z f312 v 10 = 3 := by rw [ef312, q_setz (Or.inr (by decide))]; exact z310
  have z332 : q_z f312 v 11 = 0 := by rw [ef312, q_setz (Or.inr (by decide))]; exact z292
  refine q_iconst cx dX10_copyFrom_80 ?_
  refine lv_istore_n (lv' := [(2, .int (q_i 0)), (0, .ref v), (1, .ref o)]) cx.1 cx.2.1 dX10_copyFrom_81 rfl hl (by decide) rfl (fun ls hl => ?_)
  refine q_ild_n cx dX10_copyFrom_82 rfl (lv_at hl 0 rfl) ?_
  refine q_ald_n cx dX10_copyFrom_83 rfl (lv_at hl 1 rfl) ?_
  refine q_gX10_35_16 cx hB hv kv z321 dX10_copyFrom_84 (fun lb333 ub333 => ?_)
  refine q_icge (tgt := 109) cx ⟨by decide, by decide⟩ ⟨by decide, by decide⟩ dX10_copyFrom_87 (by decide) (fun c334 => ?_) (fun c334 => ?_)
  · refine q_iconst cx dX10_copyFrom_109 ?_
    refine lv_istore_n (lv' := [(2, .int (q_i 0)), (0, .ref v), (1, .ref o)]) cx.1 cx.2.1 dX10_copyFrom_110 rfl hl (by decide) rfl (fun ls hl => ?_)
    refine q_ild_n cx dX10_copyFrom_111 rfl (lv_at hl 0 rfl) ?_
    refine q_ald_n cx dX10_copyFrom_112 rfl (lv_at hl 1 rfl) ?_
    refine q_gX10_39_16 cx hB hv kv z322 dX10_copyFrom_113 (fun lb335 ub335 => ?_)
    refine q_icge (tgt := 138) cx ⟨by decide, by decide⟩ ⟨by decide, by decide⟩ dX10_copyFrom_116 (by decide) (fun c336 => ?_) (fun c336 => ?_)
    · refine q_iconst cx dX10_copyFrom_138 ?_
      refine lv_istore_n (lv' := [(2, .int (q_i 0)), (0, .ref v), (1, .ref o)]) cx.1 cx.2.1 dX10_copyFrom_139 rfl hl (by decide) rfl (fun ls hl => ?_)
      refine q_ild_n cx dX10_copyFrom_140 rfl (lv_at hl 0 rfl) ?_
      refine q_ald_n cx dX10_copyFrom_141 rfl (lv_at hl 1 rfl) ?_
      refine q_gX10_42_16 cx hB hv kv z323 dX10_copyFrom_142 (fun lb337 ub337 => ?_)
      refine q_icge (tgt := 167) cx ⟨by decide, by decide⟩ ⟨by decide, by decide⟩ dX10_copyFrom_145 (by decide) (fun c338 => ?_) (fun c338 => ?_)
      · refine q_vret cx hr hlk hB dX10_copyFrom_167 ?_
        exact ⟨z321, z322, z323, z324, z331, z332, z313⟩
      · exact absurd c338 (by omega)
    · exact absurd c336 (by omega)
  · exact absurd c334 (by omega)
set_option maxHeartbeats 4000000 in
set_option maxRecDepth 100000 in
theorem m_copy0_30 (l : Launch) (g : q_G) {K : Nat → Nat} {L : List Nat} (hN : L.Nodup) {f : Nat → va_E} (hT : q_Ty g K L f) (v : Nat) (hv : v ∈ L) (kv : K v = 15) (o : Nat) (ho : o ∈ L) (ko : K o = 10) (hf0 : q_z f o 3 = 0) (hf1 : q_z f o 4 = 0) (hf2 : q_z f o 5 = 0) (hf3 : q_z f o 6 = 12) (hf4 : q_z f o 10 = 3) (hf5 : q_z f o 11 = 0) (hf6 : q_z f o 12 = 0) : q_Ct l g K L yX10_copyFrom cX10_copyFrom 3 none 0 0 [.ref v, .ref o] f [(15, 3, 12)] (q_Pv (fun (f1 : Nat → va_E) => q_z f1 v 3 = 0 ∧ q_z f1 v 4 = 0 ∧ q_z f1 v 5 = 0 ∧ q_z f1 v 6 = 12 ∧ q_z f1 v 10 = 3 ∧ q_z f1 v 11 = 0 ∧ q_z f1 v 12 = 0)) := by
  refine q_ofb (by decide +kernel) hN hT (Nat.le_of_ble_eq_true rfl) ?_
  intro p e s m below meth c ls cx hr hlk hB hl
  have hl : lv_has ls 3 [(0, .ref v), (1, .ref o)] := hl
  obtain ⟨H, hH⟩ : ∃ H : Heap, H = s.heap := ⟨_, rfl⟩
  obtain ⟨locs, hlocs⟩ : ∃ z : List Loc, z = [] := ⟨_, rfl⟩
  rw [← hH, ← hlocs] at hB
  rw [← hH, ← hlocs]
  refine q_ald_n cx dX10_copyFrom_0 rfl (lv_at hl 0 rfl) ?_
  refine q_ald_n cx dX10_copyFrom_1 rfl (lv_at hl 1 rfl) ?_
  refine q_gX10_35 cx hB ho ko hf0 dX10_copyFrom_2 (fun lb170 ub170 => ?_)
  refine q_pX10_35_15 cx hB hv kv ⟨by decide, by decide⟩ (by decide) (by decide) rfl dX10_copyFrom_5 (fun H locs f171 ef171 z172 hB => ?_)
  have z173 : q_z f171 o 3 = 0 := by rw [ef171, q_setz (Or.inl (fun q => by rw [q, kv] at ko; exact absurd ko (by decide)))]; exact hf0
  have z174 : q_z f171 o 4 = 0 := by rw [ef171, q_setz (Or.inr (by decide))]; exact hf1
  have z175 : q_z f171 o 5 = 0 := by rw [ef171, q_setz (Or.inr (by decide))]; exact hf2
  have z176 : q_z f171 o 6 = 12 := by rw [ef171, q_setz (Or.inr (by decide))]; exact hf3
  have z177 : q_z f171 o 10 = 3 := by rw [ef171, q_setz (Or.inr (by decide))]; exact hf4
  have z178 : q_z f171 o 11 = 0 := by rw [ef171, q_setz (Or.inr (by decide))]; exact hf5
  have z179 : q_z f171 o 12 = 0 := by rw [ef171, q_setz (Or.inr (by decide))]; exact hf6
  refine q_ald_n cx dX10_copyFrom_8 rfl (lv_at hl 0 rfl) ?_
  refine q_ald_n cx dX10_copyFrom_9 rfl (lv_at hl 1 rfl) ?_
  refine q_gX10_39 cx hB ho ko z174 dX10_copyFrom_10 (fun lb180 ub180 => ?_)
  refine q_pX10_39_15 cx hB hv kv ⟨by decide, by decide⟩ (by decide) (by decide) rfl dX10_copyFrom_13 (fun H locs f181 ef181 z182 hB => ?_)
  have z183 : q_z f181 o 3 = 0 := by rw [ef181, q_setz (Or.inr (by decide))]; exact z173
  have z184 : q_z f181 o 4 = 0 := by rw [ef181, q_setz (Or.inl (fun q => by rw [q, kv] at ko; exact absurd ko (by decide)))]; exact z174
  have z185 : q_z f181 o 5 = 0 := by rw [ef181, q_setz (Or.inr (by decide))]; exact z175
  have z186 : q_z f181 o 6 = 12 := by rw [ef181, q_setz (Or.inr (by decide))]; exact z176
  have z187 : q_z f181 o 10 = 3 := by rw [ef181, q_setz (Or.inr (by decide))]; exact z177
  have z188 : q_z f181 o 11 = 0 := by rw [ef181, q_setz (Or.inr (by decide))]; exact z178
  have z189 : q_z f181 o 12 = 0 := by rw [ef181, q_setz (Or.inr (by decide))]; exact z179
  have z190 : q_z f181 v 3 = 0 := by rw [ef181, q_setz (Or.inr (by decide))]; exact z172
  refine q_ald_n cx dX10_copyFrom_16 rfl (lv_at hl 0 rfl) ?_
  refine q_ald_n cx dX10_copyFrom_17 rfl (lv_at hl 1 rfl) ?_
  refine q_gX10_42 cx hB ho ko z185 dX10_copyFrom_18 (fun lb191 ub191 => ?_)
  refine q_pX10_42_15 cx hB hv kv ⟨by decide, by decide⟩ (by decide) (by decide) rfl dX10_copyFrom_21 (fun H locs f192 ef192 z193 hB => ?_)
  have z194 : q_z f192 o 3 = 0 := by rw [ef192, q_setz (Or.inr (by decide))]; exact z183
  have z195 : q_z f192 o 4 = 0 := by rw [ef192, q_setz (Or.inr (by decide))]; exact z184
  have z196 : q_z f192 o 5 = 0 := by rw [ef192, q_setz (Or.inl (fun q => by rw [q, kv] at ko; exact absurd ko (by decide)))]; exact z185
  have z197 : q_z f192 o 6 = 12 := by rw [ef192, q_setz (Or.inr (by decide))]; exact z186
  have z198 : q_z f192 o 10 = 3 := by rw [ef192, q_setz (Or.inr (by decide))]; exact z187
  have z199 : q_z f192 o 11 = 0 := by rw [ef192, q_setz (Or.inr (by decide))]; exact z188
  have z200 : q_z f192 o 12 = 0 := by rw [ef192, q_setz (Or.inr (by decide))]; exact z189
  have z201 : q_z f192 v 3 = 0 := by rw [ef192, q_setz (Or.inr (by decide))]; exact z190
  have z202 : q_z f192 v 4 = 0 := by rw [ef192, q_setz (Or.inr (by decide))]; exact z182
  refine q_ald_n cx dX10_copyFrom_24 rfl (lv_at hl 0 rfl) ?_
  refine q_ald_n cx dX10_copyFrom_25 rfl (lv_at hl 1 rfl) ?_
  refine q_gX10_45 cx hB ho ko z197 dX10_copyFrom_26 (fun lb203 ub203 => ?_)
  refine q_pX10_45_15 cx hB hv kv ⟨by decide, by decide⟩ (by decide) (by decide) rfl dX10_copyFrom_29 (fun H locs f204 ef204 z205 hB => ?_)
  have z206 : q_z f204 o 3 = 0 := by rw [ef204, q_setz (Or.inr (by decide))]; exact z194
  have z207 : q_z f204 o 4 = 0 := by rw [ef204, q_setz (Or.inr (by decide))]; exact z195
  have z208 : q_z f204 o 5 = 0 := by rw [ef204, q_setz (Or.inr (by decide))]; exact z196
  have z209 : q_z f204 o 6 = 12 := by rw [ef204, q_setz (Or.inl (fun q => by rw [q, kv] at ko; exact absurd ko (by decide)))]; exact z197
  have z210 : q_z f204 o 10 = 3 := by rw [ef204, q_setz (Or.inr (by decide))]; exact z198
  have z211 : q_z f204 o 11 = 0 := by rw [ef204, q_setz (Or.inr (by decide))]; exact z199
  have z212 : q_z f204 o 12 = 0 := by rw [ef204, q_setz (Or.inr (by decide))]; exact z200
  have z213 : q_z f204 v 3 = 0 := by rw [ef204, q_setz (Or.inr (by decide))]; exact z201
  have z214 : q_z f204 v 4 = 0 := by rw [ef204, q_setz (Or.inr (by decide))]; exact z202
  have z215 : q_z f204 v 5 = 0 := by rw [ef204, q_setz (Or.inr (by decide))]; exact z193
  refine q_ald_n cx dX10_copyFrom_32 rfl (lv_at hl 0 rfl) ?_
  refine q_ald_n cx dX10_copyFrom_33 rfl (lv_at hl 1 rfl) ?_
  obtain ⟨x216, ex216⟩ : ∃ zz, q_z f204 o 7 = zz := ⟨_, rfl⟩
  refine q_gX10_48 cx hB ho ko ex216 dX10_copyFrom_34 (fun lb217 ub217 => ?_)
  refine q_pX10_48_15 cx hB hv kv ⟨by omega, by omega⟩ (by omega) (by omega) rfl dX10_copyFrom_37 (fun H locs f218 ef218 z219 hB => ?_)
  have z220 : q_z f218 o 3 = 0 := by rw [ef218, q_setz (Or.inr (by decide))]; exact z206
  have z221 : q_z f218 o 4 = 0 := by rw [ef218, q_setz (Or.inr (by decide))]; exact z207
  have z222 : q_z f218 o 5 = 0 := by rw [ef218, q_setz (Or.inr (by decide))]; exact z208
  have z223 : q_z f218 o 6 = 12 := by rw [ef218, q_setz (Or.inr (by decide))]; exact z209
  have z224 : q_z f218 o 10 = 3 := by rw [ef218, q_setz (Or.inr (by decide))]; exact z210
  have z225 : q_z f218 o 11 = 0 := by rw [ef218, q_setz (Or.inr (by decide))]; exact z211
  have z226 : q_z f218 o 12 = 0 := by rw [ef218, q_setz (Or.inr (by decide))]; exact z212
  have z227 : q_z f218 v 3 = 0 := by rw [ef218, q_setz (Or.inr (by decide))]; exact z213
  have z228 : q_z f218 v 4 = 0 := by rw [ef218, q_setz (Or.inr (by decide))]; exact z214
  have z229 : q_z f218 v 5 = 0 := by rw [ef218, q_setz (Or.inr (by decide))]; exact z215
  have z230 : q_z f218 v 6 = 12 := by rw [ef218, q_setz (Or.inr (by decide))]; exact z205
  have z231 : q_z f218 o 7 = x216 := by rw [ef218, q_setz (Or.inl (fun q => by rw [q, kv] at ko; exact absurd ko (by decide)))]; exact ex216
  refine q_ald_n cx dX10_copyFrom_40 rfl (lv_at hl 0 rfl) ?_
  refine q_ald_n cx dX10_copyFrom_41 rfl (lv_at hl 1 rfl) ?_
  obtain ⟨x232, ex232⟩ : ∃ zz, q_z f218 o 8 = zz := ⟨_, rfl⟩
  refine q_gX10_51 cx hB ho ko ex232 dX10_copyFrom_42 (fun lb233 ub233 => ?_)
  refine q_pX10_51_15 cx hB hv kv ⟨by omega, by omega⟩ (by omega) (by omega) rfl dX10_copyFrom_45 (fun H locs f234 ef234 z235 hB => ?_)
  have z236 : q_z f234 o 3 = 0 := by rw [ef234, q_setz (Or.inr (by decide))]; exact z220
  have z237 : q_z f234 o 4 = 0 := by rw [ef234, q_setz (Or.inr (by decide))]; exact z221
  have z238 : q_z f234 o 5 = 0 := by rw [ef234, q_setz (Or.inr (by decide))]; exact z222
  have z239 : q_z f234 o 6 = 12 := by rw [ef234, q_setz (Or.inr (by decide))]; exact z223
  have z240 : q_z f234 o 10 = 3 := by rw [ef234, q_setz (Or.inr (by decide))]; exact z224
  have z241 : q_z f234 o 11 = 0 := by rw [ef234, q_setz (Or.inr (by decide))]; exact z225
  have z242 : q_z f234 o 12 = 0 := by rw [ef234, q_setz (Or.inr (by decide))]; exact z226
  have z243 : q_z f234 v 3 = 0 := by rw [ef234, q_setz (Or.inr (by decide))]; exact z227
  have z244 : q_z f234 v 4 = 0 := by rw [ef234, q_setz (Or.inr (by decide))]; exact z228
  have z245 : q_z f234 v 5 = 0 := by rw [ef234, q_setz (Or.inr (by decide))]; exact z229
  have z246 : q_z f234 v 6 = 12 := by rw [ef234, q_setz (Or.inr (by decide))]; exact z230
  have z247 : q_z f234 o 7 = x216 := by rw [ef234, q_setz (Or.inr (by decide))]; exact z231
  have z248 : q_z f234 v 7 = x216 := by rw [ef234, q_setz (Or.inr (by decide))]; exact z219
  have z249 : q_z f234 o 8 = x232 := by rw [ef234, q_setz (Or.inl (fun q => by rw [q, kv] at ko; exact absurd ko (by decide)))]; exact ex232
  refine q_ald_n cx dX10_copyFrom_48 rfl (lv_at hl 0 rfl) ?_
  refine q_ald_n cx dX10_copyFrom_49 rfl (lv_at hl 1 rfl) ?_
  obtain ⟨x250, ex250⟩ : ∃ zz, q_z f234 o 9 = zz := ⟨_, rfl⟩
  refine q_gX10_54 cx hB ho ko ex250 dX10_copyFrom_50 (fun lb251 ub251 => ?_)
  refine q_pX10_54_15 cx hB hv kv ⟨by omega, by omega⟩ (by omega) (by omega) rfl dX10_copyFrom_53 (fun H locs f252 ef252 z253 hB => ?_)
  have z254 : q_z f252 o 3 = 0 := by rw [ef252, q_setz (Or.inr (by decide))]; exact z236
  have z255 : q_z f252 o 4 = 0 := by rw [ef252, q_setz (Or.inr (by decide))]; exact z237
  have z256 : q_z f252 o 5 = 0 := by rw [ef252, q_setz (Or.inr (by decide))]; exact z238
  have z257 : q_z f252 o 6 = 12 := by rw [ef252, q_setz (Or.inr (by decide))]; exact z239
  have z258 : q_z f252 o 10 = 3 := by rw [ef252, q_setz (Or.inr (by decide))]; exact z240
  have z259 : q_z f252 o 11 = 0 := by rw [ef252, q_setz (Or.inr (by decide))]; exact z241
  have z260 : q_z f252 o 12 = 0 := by rw [ef252, q_setz (Or.inr (by decide))]; exact z242
  have z261 : q_z f252 v 3 = 0 := by rw [ef252, q_setz (Or.inr (by decide))]; exact z243
  have z262 : q_z f252 v 4 = 0 := by rw [ef252, q_setz (Or.inr (by decide))]; exact z244
  have z263 : q_z f252 v 5 = 0 := by rw [ef252, q_setz (Or.inr (by decide))]; exact z245
  have z264 : q_z f252 v 6 = 12 := by rw [ef252, q_setz (Or.inr (by decide))]; exact z246
  have z265 : q_z f252 o 7 = x216 := by rw [ef252, q_setz (Or.inr (by decide))]; exact z247
  have z266 : q_z f252 v 7 = x216 := by rw [ef252, q_setz (Or.inr (by decide))]; exact z248
  have z267 : q_z f252 o 8 = x232 := by rw [ef252, q_setz (Or.inr (by decide))]; exact z249
  have z268 : q_z f252 v 8 = x232 := by rw [ef252, q_setz (Or.inr (by decide))]; exact z235
  have z269 : q_z f252 o 9 = x250 := by rw [ef252, q_setz (Or.inl (fun q => by rw [q, kv] at ko; exact absurd ko (by decide)))]; exact ex250
  refine q_ald_n cx dX10_copyFrom_56 rfl (lv_at hl 0 rfl) ?_
  refine q_ald_n cx dX10_copyFrom_57 rfl (lv_at hl 1 rfl) ?_
  refine q_gX10_57 cx hB ho ko z258 dX10_copyFrom_58 (fun lb270 ub270 => ?_)
  refine q_pX10_57_15 cx hB hv kv ⟨by decide, by decide⟩ (by decide) (by decide) rfl dX10_copyFrom_61 (fun H locs f271 ef271 z272 hB => ?_)
  have z273 : q_z f271 o 3 = 0 := by rw [ef271, q_setz (Or.inr (by decide))]; exact z254
  have z274 : q_z f271 o 4 = 0 := by rw [ef271, q_setz (Or.inr (by decide))]; exact z255
  have z275 : q_z f271 o 5 = 0 := by rw [ef271, q_setz (Or.inr (by decide))]; exact z256
  have z276 : q_z f271 o 6 = 12 := by rw [ef271, q_setz (Or.inr (by decide))]; exact z257
  have z277 : q_z f271 o 10 = 3 := by rw [ef271, q_setz (Or.inl (fun q => by rw [q, kv] at ko; exact absurd ko (by decide)))]; exact z258
  have z278 : q_z f271 o 11 = 0 := by rw [ef271, q_setz (Or.inr (by decide))]; exact z259
  have z279 : q_z f271 o 12 = 0 := by rw [ef271, q_setz (Or.inr (by decide))]; exact z260
  have z280 : q_z f271 v 3 = 0 := by rw [ef271, q_setz (Or.inr (by decide))]; exact z261
  have z281 : q_z f271 v 4 = 0 := by rw [ef271, q_setz (Or.inr (by decide))]; exact z262
  have z282 : q_z f271 v 5 = 0 := by rw [ef271, q_setz (Or.inr (by decide))]; exact z263
  have z283 : q_z f271 v 6 = 12 := by rw [ef271, q_setz (Or.inr (by decide))]; exact z264
  have z284 : q_z f271 o 7 = x216 := by rw [ef271, q_setz (Or.inr (by decide))]; exact z265
  have z285 : q_z f271 v 7 = x216 := by rw [ef271, q_setz (Or.inr (by decide))]; exact z266
  have z286 : q_z f271 o 8 = x232 := by rw [ef271, q_setz (Or.inr (by decide))]; exact z267
  have z287 : q_z f271 v 8 = x232 := by rw [ef271, q_setz (Or.inr (by decide))]; exact z268
  have z288 : q_z f271 o 9 = x250 := by rw [ef271, q_setz (Or.inr (by decide))]; exact z269
  have z289 : q_z f271 v 9 = x250 := by rw [ef271, q_setz (Or.inr (by decide))]; exact z253
  refine q_ald_n cx dX10_copyFrom_64 rfl (lv_at hl 0 rfl) ?_
  refine q_ald_n cx dX10_copyFrom_65 rfl (lv_at hl 1 rfl) ?_
  refine q_gX10_60 cx hB ho ko z278 dX10_copyFrom_66 (fun lb290 ub290 => ?_)
  refine q_pX10_60_15 cx hB hv kv ⟨by decide, by decide⟩ (by decide) (by decide) rfl dX10_copyFrom_69 (fun H locs f291 ef291 z292 hB => ?_)
  have z293 : q_z f291 o 3 = 0 := by rw [ef291, q_setz (Or.inr (by decide))]; exact z273
  have z294 : q_z f291 o 4 = 0 := by rw [ef291, q_setz (Or.inr (by decide))]; exact z274
  have z295 : q_z f291 o 5 = 0 := by rw [ef291, q_setz (Or.inr (by decide))]; exact z275
  have z296 : q_z f291 o 6 = 12 := by rw [ef291, q_setz (Or.inr (by decide))]; exact z276
  have z297 : q_z f291 o 10 = 3 := by rw [ef291, q_setz (Or.inr (by decide))]; exact z277
  have z298 : q_z f291 o 11 = 0 := by rw [ef291, q_setz (Or.inl (fun q => by rw [q, kv] at ko; exact absurd ko (by decide)))]; exact z278
  have z299 : q_z f291 o 12 = 0 := by rw [ef291, q_setz (Or.inr (by decide))]; exact z279
  have z300 : q_z f291 v 3 = 0 := by rw [ef291, q_setz (Or.inr (by decide))]; exact z280
  have z301 : q_z f291 v 4 = 0 := by rw [ef291, q_setz (Or.inr (by decide))]; exact z281
  have z302 : q_z f291 v 5 = 0 := by rw [ef291, q_setz (Or.inr (by decide))]; exact z282
  have z303 : q_z f291 v 6 = 12 := by rw [ef291, q_setz (Or.inr (by decide))]; exact z283
  have z304 : q_z f291 o 7 = x216 := by rw [ef291, q_setz (Or.inr (by decide))]; exact z284
  have z305 : q_z f291 v 7 = x216 := by rw [ef291, q_setz (Or.inr (by decide))]; exact z285
  have z306 : q_z f291 o 8 = x232 := by rw [ef291, q_setz (Or.inr (by decide))]; exact z286
  have z307 : q_z f291 v 8 = x232 := by rw [ef291, q_setz (Or.inr (by decide))]; exact z287
  have z308 : q_z f291 o 9 = x250 := by rw [ef291, q_setz (Or.inr (by decide))]; exact z288
  have z309 : q_z f291 v 9 = x250 := by rw [ef291, q_setz (Or.inr (by decide))]; exact z289
  have z310 : q_z f291 v 10 = 3 := by rw [ef291, q_setz (Or.inr (by decide))]; exact z272
  refine q_ald_n cx dX10_copyFrom_72 rfl (lv_at hl 0 rfl) ?_
  refine q_ald_n cx dX10_copyFrom_73 rfl (lv_at hl 1 rfl) ?_
  refine q_gX10_63 cx hB ho ko z299 dX10_copyFrom_74 (fun lb311 ub311 => ?_)
  refine q_pX10_63_15 cx hB hv kv ⟨by decide, by decide⟩ (by decide) (by decide) rfl dX10_copyFrom_77 (fun H locs f312 ef312 z313 hB => ?_)
  have z314 : q_z f312 o 3 = 0 := by rw [ef312, q_setz (Or.inr (by decide))]; exact z293
  have z315 : q_z f312 o 4 = 0 := by rw [ef312, q_setz (Or.inr (by decide))]; exact z294
  have z316 : q_z f312 o 5 = 0 := by rw [ef312, q_setz (Or.inr (by decide))]; exact z295
  have z317 : q_z f312 o 6 = 12 := by rw [ef312, q_setz (Or.inr (by decide))]; exact z296
  have z318 : q_z f312 o 10 = 3 := by rw [ef312, q_setz (Or.inr (by decide))]; exact z297
  have z319 : q_z f312 o 11 = 0 := by rw [ef312, q_setz (Or.inr (by decide))]; exact z298
  have z320 : q_z f312 o 12 = 0 := by rw [ef312, q_setz (Or.inl (fun q => by rw [q, kv] at ko; exact absurd ko (by decide)))]; exact z299
  have z321 : q_z f312 v 3 = 0 := by rw [ef312, q_setz (Or.inr (by decide))]; exact z300
  have z322 : q_z f312 v 4 = 0 := by rw [ef312, q_setz (Or.inr (by decide))]; exact z301
  have z323 : q_z f312 v 5 = 0 := by rw [ef312, q_setz (Or.inr (by decide))]; exact z302
  have z324 : q_z f312 v 6 = 12 := by rw [ef312, q_setz (Or.inr (by decide))]; exact z303
  have z325 : q_z f312 o 7 = x216 := by rw [ef312, q_setz (Or.inr (by decide))]; exact z304
  have z326 : q_z f312 v 7 = x216 := by rw [ef312, q_setz (Or.inr (by decide))]; exact z305
  have z327 : q_z f312 o 8 = x232 := by rw [ef312, q_setz (Or.inr (by decide))]; exact z306
  have z328 : q_z f312 v 8 = x232 := by rw [ef312, q_setz (Or.inr (by decide))]; exact z307
  have z329 : q_z f312 o 9 = x250 := by rw [ef312, q_setz (Or.inr (by decide))]; exact z308
  have z330 : q_z f312 v 9 = x250 := by rw [ef312, q_setz (Or.inr (by decide))]; exact z309
  have z331 : q_z f312 v 10 = 3 := by rw [ef312, q_setz (Or.inr (by decide))]; exact z310
  have z332 : q_z f312 v 11 = 0 := by rw [ef312, q_setz (Or.inr (by decide))]; exact z292
  refine q_iconst cx dX10_copyFrom_80 ?_
  refine lv_istore_n (lv' := [(2, .int (q_i 0)), (0, .ref v), (1, .ref o)]) cx.1 cx.2.1 dX10_copyFrom_81 rfl hl (by decide) rfl (fun ls hl => ?_)
  refine q_ild_n cx dX10_copyFrom_82 rfl (lv_at hl 0 rfl) ?_
  refine q_ald_n cx dX10_copyFrom_83 rfl (lv_at hl 1 rfl) ?_
  refine q_gX10_35_15 cx hB hv kv z321 dX10_copyFrom_84 (fun lb333 ub333 => ?_)
  refine q_icge (tgt := 109) cx ⟨by decide, by decide⟩ ⟨by decide, by decide⟩ dX10_copyFrom_87 (by decide) (fun c334 => ?_) (fun c334 => ?_)
  · refine q_iconst cx dX10_copyFrom_109 ?_
    refine lv_istore_n (lv' := [(2, .int (q_i 0)), (0, .ref v), (1, .ref o)]) cx.1 cx.2.1 dX10_copyFrom_110 rfl hl (by decide) rfl (fun ls hl => ?_)
    refine q_ild_n cx dX10_copyFrom_111 rfl (lv_at hl 0 rfl) ?_
    refine q_ald_n cx dX10_copyFrom_112 rfl (lv_at hl 1 rfl) ?_
    refine q_gX10_39_15 cx hB hv kv z322 dX10_copyFrom_113 (fun lb335 ub335 => ?_)
    refine q_icge (tgt := 138) cx ⟨by decide, by decide⟩ ⟨by decide, by decide⟩ dX10_copyFrom_116 (by decide) (fun c336 => ?_) (fun c336 => ?_)
    · refine q_iconst cx dX10_copyFrom_138 ?_
      refine lv_istore_n (lv' := [(2, .int (q_i 0)), (0, .ref v), (1, .ref o)]) cx.1 cx.2.1 dX10_copyFrom_139 rfl hl (by decide) rfl (fun ls hl => ?_)
      refine q_ild_n cx dX10_copyFrom_140 rfl (lv_at hl 0 rfl) ?_
      refine q_ald_n cx dX10_copyFrom_141 rfl (lv_at hl 1 rfl) ?_
      refine q_gX10_42_15 cx hB hv kv z323 dX10_copyFrom_142 (fun lb337 ub337 => ?_)
      refine q_icge (tgt := 167) cx ⟨by decide, by decide⟩ ⟨by decide, by decide⟩ dX10_copyFrom_145 (by decide) (fun c338 => ?_) (fun c338 => ?_)
      · refine q_vret cx hr hlk hB dX10_copyFrom_167 ?_
        exact ⟨z321, z322, z323, z324, z331, z332, z313⟩
      · exact absurd c338 (by omega)
    · exact absurd c336 (by omega)
  · exact absurd c334 (by omega)
set_option maxHeartbeats 4000000 in
set_option maxRecDepth 100000 in
theorem m_copy0_20 (l : Launch) (g : q_G) {K : Nat → Nat} {L : List Nat} (hN : L.Nodup) {f : Nat → va_E} (hT : q_Ty g K L f) (v : Nat) (hv : v ∈ L) (kv : K v = 14) (o : Nat) (ho : o ∈ L) (ko : K o = 10) (hf0 : q_z f o 3 = 0) (hf1 : q_z f o 4 = 0) (hf2 : q_z f o 5 = 0) (hf3 : q_z f o 6 = 12) (hf4 : q_z f o 10 = 3) (hf5 : q_z f o 11 = 0) (hf6 : q_z f o 12 = 0) : q_Ct l g K L yX10_copyFrom cX10_copyFrom 3 none 0 0 [.ref v, .ref o] f [(14, 3, 12)] (q_Pv (fun (f1 : Nat → va_E) => q_z f1 v 3 = 0 ∧ q_z f1 v 4 = 0 ∧ q_z f1 v 5 = 0 ∧ q_z f1 v 6 = 12 ∧ q_z f1 v 10 = 3 ∧ q_z f1 v 11 = 0 ∧ q_z f1 v 12 = 0)) := by
  refine q_ofb (by decide +kernel) hN hT (Nat.le_of_ble_eq_true rfl) ?_
  intro p e s m below meth c ls cx hr hlk hB hl
  have hl : lv_has ls 3 [(0, .ref v), (1, .ref o)] := hl
  obtain ⟨H, hH⟩ : ∃ H : Heap, H = s.heap := ⟨_, rfl⟩
  obtain ⟨locs, hlocs⟩ : ∃ z : List Loc, z = [] := ⟨_, rfl⟩
  rw [← hH, ← hlocs] at hB
  rw [← hH, ← hlocs]
  refine q_ald_n cx dX10_copyFrom_0 rfl (lv_at hl 0 rfl) ?_
  refine q_ald_n cx dX10_copyFrom_1 rfl (lv_at hl 1 rfl) ?_
  refine q_gX10_35 cx hB ho ko hf0 dX10_copyFrom_2 (fun lb170 ub170 => ?_)
  refine q_pX10_35_14 cx hB hv kv ⟨by decide, by decide⟩ (by decide) (by decide) rfl dX10_copyFrom_5 (fun H locs f171 ef171 z172 hB => ?_)
  have z173 : q_z f171 o 3 = 0 := by rw [ef171, q_setz (Or.inl (fun q => by rw [q, kv] at ko; exact absurd ko (by decide)))]; exact hf0
  have z174 : q_z f171 o 4 = 0 := by rw [ef171, q_setz (Or.inr (by decide))]; exact hf1
  have z175 : q_z f171 o 5 = 0 := by rw [ef171, q_setz (Or.inr (by decide))]; exact hf2
  have z176 : q_z f171 o 6 = 12 := by rw [ef171, q_setz (Or.inr (by decide))]; exact hf3
  have z177 : q_z f171 o 10 = 3 := by rw [ef171, q_setz (Or.inr (by decide))]; exact hf4
  have z178 : q_z f171 o 11 = 0 := by rw [ef171, q_setz (Or.inr (by decide))]; exact hf5
  have z179 : q_z f171 o 12 = 0 := by rw [ef171, q_setz (Or.inr (by decide))]; exact hf6
  refine q_ald_n cx dX10_copyFrom_8 rfl (lv_at hl 0 rfl) ?_
  refine q_ald_n cx dX10_copyFrom_9 rfl (lv_at hl 1 rfl) ?_
  refine q_gX10_39 cx hB ho ko z174 dX10_copyFrom_10 (fun lb180 ub180 => ?_)
  refine q_pX10_39_14 cx hB hv kv ⟨by decide, by decide⟩ (by decide) (by decide) rfl dX10_copyFrom_13 (fun H locs f181 ef181 z182 hB => ?_)
  have z183 : q_z f181 o 3 = 0 := by rw [ef181, q_setz (Or.inr (by decide))]; exact z173
  have z184 : q_z f181 o 4 = 0 := by rw [ef181, q_setz (Or.inl (fun q => by rw [q, kv] at ko; exact absurd ko (by decide)))]; exact z174
  have z185 : q_z f181 o 5 = 0 := by rw [ef181, q_setz (Or.inr (by decide))]; exact z175
  have z186 : q_z f181 o 6 = 12 := by rw [ef181, q_setz (Or.inr (by decide))]; exact z176
  have z187 : q_z f181 o 10 = 3 := by rw [ef181, q_setz (Or.inr (by decide))]; exact z177
  have z188 : q_z f181 o 11 = 0 := by rw [ef181, q_setz (Or.inr (by decide))]; exact z178
  have z189 : q_z f181 o 12 = 0 := by rw [ef181, q_setz (Or.inr (by decide))]; exact z179
  have z190 : q_z f181 v 3 = 0 := by rw [ef181, q_setz (Or.inr (by decide))]; exact z172
  refine q_ald_n cx dX10_copyFrom_16 rfl (lv_at hl 0 rfl) ?_
  refine q_ald_n cx dX10_copyFrom_17 rfl (lv_at hl 1 rfl) ?_
  refine q_gX10_42 cx hB ho ko z185 dX10_copyFrom_18 (fun lb191 ub191 => ?_)
  refine q_pX10_42_14 cx hB hv kv ⟨by decide, by decide⟩ (by decide) (by decide) rfl dX10_copyFrom_21 (fun H locs f192 ef192 z193 hB => ?_)
  have z194 : q_z f192 o 3 = 0 := by rw [ef192, q_setz (Or.inr (by decide))]; exact z183
  have z195 : q_z f192 o 4 = 0 := by rw [ef192, q_setz (Or.inr (by decide))]; exact z184
  have z196 : q_z f192 o 5 = 0 := by rw [ef192, q_setz (Or.inl (fun q => by rw [q, kv] at ko; exact absurd ko (by decide)))]; exact z185
  have z197 : q_z f192 o 6 = 12 := by rw [ef192, q_setz (Or.inr (by decide))]; exact z186
  have z198 : q_z f192 o 10 = 3 := by rw [ef192, q_setz (Or.inr (by decide))]; exact z187
  have z199 : q_z f192 o 11 = 0 := by rw [ef192, q_setz (Or.inr (by decide))]; exact z188
  have z200 : q_z f192 o 12 = 0 := by rw [ef192, q_setz (Or.inr (by decide))]; exact z189
  have z201 : q_z f192 v 3 = 0 := by rw [ef192, q_setz (Or.inr (by decide))]; exact z190
  have z202 : q_z f192 v 4 = 0 := by rw [ef192, q_setz (Or.inr (by decide))]; exact z182
  refine q_ald_n cx dX10_copyFrom_24 rfl (lv_at hl 0 rfl) ?_
  refine q_ald_n cx dX10_copyFrom_25 rfl (lv_at hl 1 rfl) ?_
  refine q_gX10_45 cx hB ho ko z197 dX10_copyFrom_26 (fun lb203 ub203 => ?_)
  refine q_pX10_45_14 cx hB hv kv ⟨by decide, by decide⟩ (by decide) (by decide) rfl dX10_copyFrom_29 (fun H locs f204 ef204 z205 hB => ?_)
  have z206 : q_z f204 o 3 = 0 := by rw [ef204, q_setz (Or.inr (by decide))]; exact z194
  have z207 : q_z f204 o 4 = 0 := by rw [ef204, q_setz (Or.inr (by decide))]; exact z195
  have z208 : q_z f204 o 5 = 0 := by rw [ef204, q_setz (Or.inr (by decide))]; exact z196
  have z209 : q_z f204 o 6 = 12 := by rw [ef204, q_setz (Or.inl (fun q => by rw [q, kv] at ko; exact absurd ko (by decide)))]; exact z197
  have z210 : q_z f204 o 10 = 3 := by rw [ef204, q_setz (Or.inr (by decide))]; exact z198
  have z211 : q_z f204 o 11 = 0 := by rw [ef204, q_setz (Or.inr (by decide))]; exact z199
  have z212 : q_z f204 o 12 = 0 := by rw [ef204, q_setz (Or.inr (by decide))]; exact z200
  have z213 : q_z f204 v 3 = 0 := by rw [ef204, q_setz (Or.inr (by decide))]; exact z201
  have z214 : q_z f204 v 4 = 0 := by rw [ef204, q_setz (Or.inr (by decide))]; exact z202
  have z215 : q_z f204 v 5 = 0 := by rw [ef204, q_setz (Or.inr (by decide))]; exact z193
  refine q_ald_n cx dX10_copyFrom_32 rfl (lv_at hl 0 rfl) ?_
  refine q_ald_n cx dX10_copyFrom_33 rfl (lv_at hl 1 rfl) ?_
  obtain ⟨x216, ex216⟩ : ∃ zz, q_z f204 o 7 = zz := ⟨_, rfl⟩
  refine q_gX10_48 cx hB ho ko ex216 dX10_copyFrom_34 (fun lb217 ub217 => ?_)
  refine q_pX10_48_14 cx hB hv kv ⟨by omega, by omega⟩ (by omega) (by omega) rfl dX10_copyFrom_37 (fun H locs f218 ef218 z219 hB => ?_)
  have z220 : q_z f218 o 3 = 0 := by rw [ef218, q_setz (Or.inr (by decide))]; exact z206
  have z221 : q_z f218 o 4 = 0 := by rw [ef218, q_setz (Or.inr (by decide))]; exact z207
  have z222 : q_z f218 o 5 = 0 := by rw [ef218, q_setz (Or.inr (by decide))]; exact z208
  have z223 : q_z f218 o 6 = 12 := by rw [ef218, q_setz (Or.inr (by decide))]; exact z209
  have z224 : q_z f218 o 10 = 3 := by rw [ef218, q_setz (Or.inr (by decide))]; exact z210
  have z225 : q_z f218 o 11 = 0 := by rw [ef218, q_setz (Or.inr (by decide))]; exact z211
  have z226 : q_z f218 o 12 = 0 := by rw [ef218, q_setz (Or.inr (by decide))]; exact z212
  have z227 : q_z f218 v 3 = 0 := by rw [ef218, q_setz (Or.inr (by decide))]; exact z213
  have z228 : q_z f218 v 4 = 0 := by rw [ef218, q_setz (Or.inr (by decide))]; exact z214
  have z229 : q_z f218 v 5 = 0 := by rw [ef218, q_setz (Or.inr (by decide))]; exact z215
  have z230 : q_z f218 v 6 = 12 := by rw [ef218, q_setz (Or.inr (by decide))]; exact z205
  have z231 : q_z f218 o 7 = x216 := by rw [ef218, q_setz (Or.inl (fun q => by rw [q, kv] at ko; exact absurd ko (by decide)))]; exact ex216
  refine q_ald_n cx dX10_copyFrom_40 rfl (lv_at hl 0 rfl) ?_
  refine q_ald_n cx dX10_copyFrom_41 rfl (lv_at hl 1 rfl) ?_
  obtain ⟨x232, ex232⟩ : ∃ zz, q_z f218 o 8 = zz := ⟨_, rfl⟩
  refine q_gX10_51 cx hB ho ko ex232 dX10_copyFrom_42 (fun lb233 ub233 => ?_)
  refine q_pX10_51_14 cx hB hv kv ⟨by omega, by omega⟩ (by omega) (by omega) rfl dX10_copyFrom_45 (fun H locs f234 ef234 z235 hB => ?_)
  have z236 : q_z f234 o 3 = 0 := by rw [ef234, q_setz (Or.inr (by decide))]; exact z220
  have z237 : q_z f234 o 4 = 0 := by rw [ef234, q_setz (Or.inr (by decide))]; exact z221
  have z238 : q_z f234 o 5 = 0 := by rw [ef234, q_setz (Or.inr (by decide))]; exact z222
  have z239 : q_z f234 o 6 = 12 := by rw [ef234, q_setz (Or.inr (by decide))]; exact z223
  have z240 : q_z f234 o 10 = 3 := by rw [ef234, q_setz (Or.inr (by decide))]; exact z224
  have z241 : q_z f234 o 11 = 0 := by rw [ef234, q_setz (Or.inr (by decide))]; exact z225
  have z242 : q_z f234 o 12 = 0 := by rw [ef234, q_setz (Or.inr (by decide))]; exact z226
  have z243 : q_z f234 v 3 = 0 := by rw [ef234, q_setz (Or.inr (by decide))]; exact z227
  have z244 : q_z f234 v 4 = 0 := by rw [ef234, q_setz (Or.inr (by decide))]; exact z228
  have z245 : q_z f234 v 5 = 0 := by rw [ef234, q_setz (Or.inr (by decide))]; exact z229
  have z246 : q_z f234 v 6 = 12 := by rw [ef234, q_setz (Or.inr (by decide))]; exact z230
  have z247 : q_z f234 o 7 = x216 := by rw [ef234, q_setz (Or.inr (by decide))]; exact z231
  have z248 : q_z f234 v 7 = x216 := by rw [ef234, q_setz (Or.inr (by decide))]; exact z219
  have z249 : q_z f234 o 8 = x232 := by rw [ef234, q_setz (Or.inl (fun q => by rw [q, kv] at ko; exact absurd ko (by decide)))]; exact ex232
  refine q_ald_n cx dX10_copyFrom_48 rfl (lv_at hl 0 rfl) ?_
  refine q_ald_n cx dX10_copyFrom_49 rfl (lv_at hl 1 rfl) ?_
  obtain ⟨x250, ex250⟩ : ∃ zz, q_z f234 o 9 = zz := ⟨_, rfl⟩
  refine q_gX10_54 cx hB ho ko ex250 dX10_copyFrom_50 (fun lb251 ub251 => ?_)
  refine q_pX10_54_14 cx hB hv kv ⟨by omega, by omega⟩ (by omega) (by omega) rfl dX10_copyFrom_53 (fun H locs f252 ef252 z253 hB => ?_)
  have z254 : q_z f252 o 3 = 0 := by rw [ef252, q_setz (Or.inr (by decide))]; exact z236
  have z255 : q_z f252 o 4 = 0 := by rw [ef252, q_setz (Or.inr (by decide))]; exact z237
  have z256 : q_z f252 o 5 = 0 := by rw [ef252, q_setz (Or.inr (by decide))]; exact z238
  have z257 : q_z f252 o 6 = 12 := by rw [ef252, q_setz (Or.inr (by decide))]; exact z239
  have z258 : q_z f252 o 10 = 3 := by rw [ef252, q_setz (Or.inr (by decide))]; exact z240
  have z259 : q_z f252 o 11 = 0 := by rw [ef252, q_setz (Or.inr (by decide))]; exact z241
  have z260 : q_z f252 o 12 = 0 := by rw [ef252, q_setz (Or.inr (by decide))]; exact z242
  have z261 : q_z f252 v 3 = 0 := by rw [ef252, q_setz (Or.inr (by decide))]; exact z243
  have z262 : q_z f252 v 4 = 0 := by rw [ef252, q_setz (Or.inr (by decide))]; exact z244
  have z263 : q_z f252 v 5 = 0 := by rw [ef252, q_setz (Or.inr (by decide))]; exact z245
  have z264 : q_z f252 v 6 = 12 := by rw [ef252, q_setz (Or.inr (by decide))]; exact z246
  have z265 : q_z f252 o 7 = x216 := by rw [ef252, q_setz (Or.inr (by decide))]; exact z247
  have z266 : q_z f252 v 7 = x216 := by rw [ef252, q_setz (Or.inr (by decide))]; exact z248
  have z267 : q_z f252 o 8 = x232 := by rw [ef252, q_setz (Or.inr (by decide))]; exact z249
  have z268 : q_z f252 v 8 = x232 := by rw [ef252, q_setz (Or.inr (by decide))]; exact z235
  have z269 : q_z f252 o 9 = x250 := by rw [ef252, q_setz (Or.inl (fun q => by rw [q, kv] at ko; exact absurd ko (by decide)))]; exact ex250
  refine q_ald_n cx dX10_copyFrom_56 rfl (lv_at hl 0 rfl) ?_
  refine q_ald_n cx dX10_copyFrom_57 rfl (lv_at hl 1 rfl) ?_
  refine q_gX10_57 cx hB ho ko z258 dX10_copyFrom_58 (fun lb270 ub270 => ?_)
  refine q_pX10_57_14 cx hB hv kv ⟨by decide, by decide⟩ (by decide) (by decide) rfl dX10_copyFrom_61 (fun H locs f271 ef271 z272 hB => ?_)
  have z273 : q_z f271 o 3 = 0 := by rw [ef271, q_setz (Or.inr (by decide))]; exact z254
  have z274 : q_z f271 o 4 = 0 := by rw [ef271, q_setz (Or.inr (by decide))]; exact z255
  have z275 : q_z f271 o 5 = 0 := by rw [ef271, q_setz (Or.inr (by decide))]; exact z256
  have z276 : q_z f271 o 6 = 12 := by rw [ef271, q_setz (Or.inr (by decide))]; exact z257
  have z277 : q_z f271 o 10 = 3 := by rw [ef271, q_setz (Or.inl (fun q => by rw [q, kv] at ko; exact absurd ko (by decide)))]; exact z258
  have z278 : q_z f271 o 11 = 0 := by rw [ef271, q_setz (Or.inr (by decide))]; exact z259
  have z279 : q_z f271 o 12 = 0 := by rw [ef271, q_setz (Or.inr (by decide))]; exact z260
  have z280 : q_z f271 v 3 = 0 := by rw [ef271, q_setz (Or.inr (by decide))]; exact z261
  have z281 : q_z f271 v 4 = 0 := by rw [ef271, q_setz (Or.inr (by decide))]; exact z262
  have z282 : q_z f271 v 5 = 0 := by rw [ef271, q_setz (Or.inr (by decide))]; exact z263
  have z283 : q_z f271 v 6 = 12 := by rw [ef271, q_setz (Or.inr (by decide))]; exact z264
  have z284 : q_z f271 o 7 = x216 := by rw [ef271, q_setz (Or.inr (by decide))]; exact z265
  have z285 : q_z f271 v 7 = x216 := by rw [ef271, q_setz (Or.inr (by decide))]; exact z266
  have z286 : q_z f271 o 8 = x232 := by rw [ef271, q_setz (Or.inr (by decide))]; exact z267
  have z287 : q_z f271 v 8 = x232 := by rw [ef271, q_setz (Or.inr (by decide))]; exact z268
  have z288 : q_z f271 o 9 = x250 := by rw [ef271, q_setz (Or.inr (by decide))]; exact z269
  have z289 : q_z f271 v 9 = x250 := by rw [ef271, q_setz (Or.inr (by decide))]; exact z253
  refine q_ald_n cx dX10_copyFrom_64 rfl (lv_at hl 0 rfl) ?_
  refine q_ald_n cx dX10_copyFrom_65 rfl (lv_at hl 1 rfl) ?_
  refine q_gX10_60 cx hB ho ko z278 dX10_copyFrom_66 (fun lb290 ub290 => ?_)
  refine q_pX10_60_14 cx hB hv kv ⟨by decide, by decide⟩ (by decide) (by decide) rfl dX10_copyFrom_69 (fun H locs f291 ef291 z292 hB => ?_)
  have z293 : q_z f291 o 3 = 0 := by rw [ef291, q_setz (Or.inr (by decide))]; exact z273
  have z294 : q_z f291 o 4 = 0 := by rw [ef291, q_setz (Or.inr (by decide))]; exact z274
  have z295 : q_z f291 o 5 = 0 := by rw [ef291, q_setz (Or.inr (by decide))]; exact z275
  have z296 : q_z f291 o 6 = 12 := by rw [ef291, q_setz (Or.inr (by decide))]; exact z276
  have z297 : q_z f291 o 10 = 3 := by rw [ef291, q_setz (Or.inr (by decide))]; exact z277
  have z298 : q_z f291 o 11 = 0 := by rw [ef291, q_setz (Or.inl (fun q => by rw [q, kv] at ko; exact absurd ko (by decide)))]; exact z278
  have z299 : q_z f291 o 12 = 0 := by rw [ef291, q_setz (Or.inr (by decide))]; exact z279
  have z300 : q_z f291 v 3 = 0 := by rw [ef291, q_setz (Or.inr (by decide))]; exact z280
  have z301 : q_z f291 v 4 = 0 := by rw [ef291, q_setz (Or.inr (by decide))]; exact z281
  have z302 : q_z f291 v 5 = 0 := by rw [ef291, q_setz (Or.inr (by decide))]; exact z282
  have z303 : q_z f291 v 6 = 12 := by rw [ef291, q_setz (Or.inr (by decide))]; exact z283
  have z304 : q_z f291 o 7 = x216 := by rw [ef291, q_setz (Or.inr (by decide))]; exact z284
  have z305 : q_z f291 v 7 = x216 := by rw [ef291, q_setz (Or.inr (by decide))]; exact z285
  have z306 : q_z f291 o 8 = x232 := by rw [ef291, q_setz (Or.inr (by decide))]; exact z286
  have z307 : q_z f291 v 8 = x232 := by rw [ef291, q_setz (Or.inr (by decide))]; exact z287
  have z308 : q_z f291 o 9 = x250 := by rw [ef291, q_setz (Or.inr (by decide))]; exact z288
  have z309 : q_z f291 v 9 = x250 := by rw [ef291, q_setz (Or.inr (by decide))]; exact z289
  have z310 : q_z f291 v 10 = 3 := by rw [ef291, q_setz (Or.inr (by decide))]; exact z272
  refine q_ald_n cx dX10_copyFrom_72 rfl (lv_at hl 0 rfl) ?_
  refine q_ald_n cx dX10_copyFrom_73 rfl (lv_at hl 1 rfl) ?_
  refine q_gX10_63 cx hB ho ko z299 dX10_copyFrom_74 (fun lb311 ub311 => ?_)
  refine q_pX10_63_14 cx hB hv kv ⟨by decide, by decide⟩ (by decide) (by decide) rfl dX10_copyFrom_77 (fun H locs f312 ef312 z313 hB => ?_)
  have z314 : q_z f312 o 3 = 0 := by rw [ef312, q_setz (Or.inr (by decide))]; exact z293
  have z315 : q_z f312 o 4 = 0 := by rw [ef312, q_setz (Or.inr (by decide))]; exact z294
  have z316 : q_z f312 o 5 = 0 := by rw [ef312, q_setz (Or.inr (by decide))]; exact z295
  have z317 : q_z f312 o 6 = 12 := by rw [ef312, q_setz (Or.inr (by decide))]; exact z296
  have z318 : q_z f312 o 10 = 3 := by rw [ef312, q_setz (Or.inr (by decide))]; exact z297
  have z319 : q_z f312 o 11 = 0 := by rw [ef312, q_setz (Or.inr (by decide))]; exact z298
  have z320 : q_z f312 o 12 = 0 := by rw [ef312, q_setz (Or.inl (fun q => by rw [q, kv] at ko; exact absurd ko (by decide)))]; exact z299
  have z321 : q_z f312 v 3 = 0 := by rw [ef312, q_setz (Or.inr (by decide))]; exact z300
  have z322 : q_z f312 v 4 = 0 := by rw [ef312, q_setz (Or.inr (by decide))]; exact z301
  have z323 : q_z f312 v 5 = 0 := by rw [ef312, q_setz (Or.inr (by decide))]; exact z302
  have z324 : q_z f312 v 6 = 12 := by rw [ef312, q_setz (Or.inr (by decide))]; exact z303
  have z325 : q_z f312 o 7 = x216 := by rw [ef312, q_setz (Or.inr (by decide))]; exact z304
  have z326 : q_z f312 v 7 = x216 := by rw [ef312, q_setz (Or.inr (by decide))]; exact z305
  have z327 : q_z f312 o 8 = x232 := by rw [ef312, q_setz (Or.inr (by decide))]; exact z306
  have z328 : q_z f312 v 8 = x232 := by rw [ef312, q_setz (Or.inr (by decide))]; exact z307
  have z329 : q_z f312 o 9 = x250 := by rw [ef312, q_setz (Or.inr (by decide))]; exact z308
  have z330 : q_z f312 v 9 = x250 := by rw [ef312, q_setz (Or.inr (by decide))]; exact z309
  have z331 : q_z f312 v 10 = 3 := by rw [ef312, q_setz (Or.inr (by decide))]; exact z310
  have z332 : q_z f312 v 11 = 0 := by rw [ef312, q_setz (Or.inr (by decide))]; exact z292
  refine q_iconst cx dX10_copyFrom_80 ?_
  refine lv_istore_n (lv' := [(2, .int (q_i 0)), (0, .ref v), (1, .ref o)]) cx.1 cx.2.1 dX10_copyFrom_81 rfl hl (by decide) rfl (fun ls hl => ?_)
  refine q_ild_n cx dX10_copyFrom_82 rfl (lv_at hl 0 rfl) ?_
  refine q_ald_n cx dX10_copyFrom_83 rfl (lv_at hl 1 rfl) ?_
  refine q_gX10_35_14 cx hB hv kv z321 dX10_copyFrom_84 (fun lb333 ub333 => ?_)
  refine q_icge (tgt := 109) cx ⟨by decide, by decide⟩ ⟨by decide, by decide⟩ dX10_copyFrom_87 (by decide) (fun c334 => ?_) (fun c334 => ?_)
  · refine q_iconst cx dX10_copyFrom_109 ?_
    refine lv_istore_n (lv' := [(2, .int (q_i 0)), (0, .ref v), (1, .ref o)]) cx.1 cx.2.1 dX10_copyFrom_110 rfl hl (by decide) rfl (fun ls hl => ?_)
    refine q_ild_n cx dX10_copyFrom_111 rfl (lv_at hl 0 rfl) ?_
    refine q_ald_n cx dX10_copyFrom_112 rfl (lv_at hl 1 rfl) ?_
    refine q_gX10_39_14 cx hB hv kv z322 dX10_copyFrom_113 (fun lb335 ub335 => ?_)
    refine q_icge (tgt := 138) cx ⟨by decide, by decide⟩ ⟨by decide, by decide⟩ dX10_copyFrom_116 (by decide) (fun c336 => ?_) (fun c336 => ?_)
    · refine q_iconst cx dX10_copyFrom_138 ?_
      refine lv_istore_n (lv' := [(2, .int (q_i 0)), (0, .ref v), (1, .ref o)]) cx.1 cx.2.1 dX10_copyFrom_139 rfl hl (by decide) rfl (fun ls hl => ?_)
      refine q_ild_n cx dX10_copyFrom_140 rfl (lv_at hl 0 rfl) ?_
      refine q_ald_n cx dX10_copyFrom_141 rfl (lv_at hl 1 rfl) ?_
      refine q_gX10_42_14 cx hB hv kv z323 dX10_copyFrom_142 (fun lb337 ub337 => ?_)
      refine q_icge (tgt := 167) cx ⟨by decide, by decide⟩ ⟨by decide, by decide⟩ dX10_copyFrom_145 (by decide) (fun c338 => ?_) (fun c338 => ?_)
      · refine q_vret cx hr hlk hB dX10_copyFrom_167 ?_
        exact ⟨z321, z322, z323, z324, z331, z332, z313⟩
      · exact absurd c338 (by omega)
    · exact absurd c336 (by omega)
  · exact absurd c334 (by omega)
set_option maxHeartbeats 4000000 in
set_option maxRecDepth 100000 in
theorem m_readText0 (l : Launch) (g : q_G) {K : Nat → Nat} {L : List Nat} (hN : L.Nodup) {f : Nat → va_E} (hT : q_Ty g K L f) (v : Nat) (hv : v ∈ L) (kv : K v = 9) (q : Nat) (hq : q ∈ L) (kq : K q = 8) (d : Nat) (hd : d ∈ L) (kd : K d = 13) (hf0 : q_z f q 1 = 0) : q_Ct l g K L yX9_readAll cX9_readAll 4 (some .boolean) 3 62 [.ref v, .ref q, .ref d] f [(9, 0, 2), (8, 2, 9), (13, 3, 12)] (q_Pi (fun (z : Int) (f1 : Nat → va_E) => z = 1 ∧ q_z f1 q 2 = 0 ∧ q_z f1 q 3 = (-1) ∧ q_z f1 d 3 = 0 ∧ q_z f1 d 4 = 0 ∧ q_z f1 d 5 = 0 ∧ q_z f1 d 6 = 12 ∧ q_z f1 d 10 = 3 ∧ q_z f1 d 11 = 0 ∧ q_z f1 d 12 = 0)) := by
  refine q_ofb (by decide +kernel) hN hT (Nat.le_of_ble_eq_true rfl) ?_
  intro p e s m below meth c ls cx hr hlk hB hl
  have hl : lv_has ls 4 [(0, .ref v), (1, .ref q), (2, .ref d)] := hl
  obtain ⟨H, hH⟩ : ∃ H : Heap, H = s.heap := ⟨_, rfl⟩
  obtain ⟨locs, hlocs⟩ : ∃ z : List Loc, z = [] := ⟨_, rfl⟩
  rw [← hH, ← hlocs] at hB
  rw [← hH, ← hlocs]
  refine q_ald_n cx dX9_readAll_0 rfl (lv_at hl 0 rfl) ?_
  refine q_iconst cx dX9_readAll_1 ?_
  refine q_pX9_9 cx hB hv kv ⟨by decide, by decide⟩ (by decide) (by decide) rfl dX9_readAll_2 (fun H locs f52 ef52 z53 hB => ?_)
  have z54 : q_z f52 q 1 = 0 := by rw [ef52, q_setz (Or.inr (by decide))]; exact hf0
  refine q_ald_n cx dX9_readAll_5 rfl (lv_at hl 0 rfl) ?_
  refine q_iconst cx dX9_readAll_6 ?_
  refine q_pX9_15 cx hB hv kv ⟨by decide, by decide⟩ (by decide) (by decide) rfl dX9_readAll_7 (fun H locs f55 ef55 z56 hB => ?_)
  have z57 : q_z f55 q 1 = 0 := by rw [ef55, q_setz (Or.inl (fun q => by rw [q, kv] at kq; exact absurd kq (by decide)))]; exact z54
  have z58 : q_z f55 v 0 = 0 := by rw [ef55, q_setz (Or.inr (by decide))]; exact z53
  refine q_ald_n cx dX9_readAll_10 rfl (lv_at hl 0 rfl) ?_
  refine q_iconst cx dX9_readAll_11 ?_
  refine q_pX9_18 cx hB hv kv ⟨by decide, by decide⟩ (by decide) (by decide) rfl dX9_readAll_12 (fun H locs f59 ef59 z60 hB => ?_)
  have z61 : q_z f59 q 1 = 0 := by rw [ef59, q_setz (Or.inr (by decide))]; exact z57
  have z62 : q_z f59 v 0 = 0 := by rw [ef59, q_setz (Or.inr (by decide))]; exact z58
  have z63 : q_z f59 v 1 = 0 := by rw [ef59, q_setz (Or.inr (by decide))]; exact z56
  refine q_ald_n cx dX9_readAll_15 rfl (lv_at hl 2 rfl) ?_
  refine q_cVv (As := []) (rest := []) cx hB (fun _ h => h) hN hd kd (by decide) rfl (m_makeEmpty_1 l g hN hB.2.1 d hd kd) q_cX9_21 q_dX10_makeEmpty (by decide) rfl rfl hl.1 rfl (Nat.le_of_ble_eq_true rfl) dX9_readAll_16 (fun H locs f64 h66 hF hB => ?_)
  obtain ⟨z67, z68, z69, z70, z71, z72, z73⟩ := h66
  have z74 : q_z f64 q 1 = 0 := (hF.z hq (by rw [kq]; rfl)).trans z61
  have z75 : q_z f64 v 0 = 0 := (hF.z hv (by rw [kv]; rfl)).trans z62
  have z76 : q_z f64 v 1 = 0 := (hF.z hv (by rw [kv]; rfl)).trans z63
  have z77 : q_z f64 v 2 = 0 := (hF.z hv (by rw [kv]; rfl)).trans z60
  refine q_ald_n cx dX9_readAll_19 rfl (lv_at hl 1 rfl) ?_
  refine q_cVv (As := []) (rest := []) cx hB (fun _ h => h) hN hq kq (by decide) rfl (m_begin0 l g hN hB.2.1 q hq kq z74) q_cX9_26 q_dX8_begin (by decide) rfl rfl hl.1 rfl (Nat.le_of_ble_eq_true rfl) dX9_readAll_20 (fun H locs f78 h80 hF hB => ?_)
  obtain ⟨z81, z82, z83⟩ := h80
  have z84 : q_z f78 q 1 = 0 := (hF.z hq (by rw [kq]; rfl)).trans z74
  have z85 : q_z f78 v 0 = 0 := (hF.z hv (by rw [kv]; rfl)).trans z75
  have z86 : q_z f78 v 1 = 0 := (hF.z hv (by rw [kv]; rfl)).trans z76
  have z87 : q_z f78 v 2 = 0 := (hF.z hv (by rw [kv]; rfl)).trans z77
  have z88 : q_z f78 d 3 = 0 := (hF.z hd (by rw [kd]; rfl)).trans z67
  have z89 : q_z f78 d 4 = 0 := (hF.z hd (by rw [kd]; rfl)).trans z68
  have z90 : q_z f78 d 5 = 0 := (hF.z hd (by rw [kd]; rfl)).trans z69
  have z91 : q_z f78 d 6 = 12 := (hF.z hd (by rw [kd]; rfl)).trans z70
  have z92 : q_z f78 d 10 = 3 := (hF.z hd (by rw [kd]; rfl)).trans z71
  have z93 : q_z f78 d 11 = 0 := (hF.z hd (by rw [kd]; rfl)).trans z72
  have z94 : q_z f78 d 12 = 0 := (hF.z hd (by rw [kd]; rfl)).trans z73
  refine q_iconst cx dX9_readAll_23 ?_
  refine lv_istore_n (lv' := [(3, .int (q_i 0)), (0, .ref v), (1, .ref q), (2, .ref d)]) cx.1 cx.2.1 dX9_readAll_24 rfl hl (by decide) rfl (fun ls hl => ?_)
  refine q_ild_n cx dX9_readAll_25 rfl (lv_at hl 0 rfl) ?_
  refine q_sipush cx dX9_readAll_26 rfl ?_
  refine q_icgt (tgt := 65) cx ⟨by decide, by decide⟩ ⟨by decide, by decide⟩ dX9_readAll_29 (by decide) (fun c95 => ?_) (fun c95 => ?_)
  · exact absurd c95 (by omega)
  · refine q_ald_n cx dX9_readAll_32 rfl (lv_at hl 2 rfl) ?_
    refine q_cVi (As := []) (rest := []) cx hB (fun _ h => h) hN hq kq (by decide) rfl (m_isAtEnd0 l g hN hB.2.1 q hq kq z83) q_cX9_31 q_dX8_isAtEnd (by decide) rfl rfl hl.1 rfl (Nat.le_of_ble_eq_true rfl) dX9_readAll_33 (fun y97 H locs f96 ry97 h98 hF hB => ?_)
    obtain ⟨rfl, qy97⟩ := h98
    subst qy97
    refine q_ifne (tgt := 65) cx ⟨by decide, by decide⟩ dX9_readAll_36 (by decide) (fun c99 => ?_) (fun c99 => ?_)
    · refine q_ald_n cx dX9_readAll_65 rfl (lv_at hl 3 rfl) ?_
      refine q_cVv (As := []) (rest := []) cx hB (fun _ h => h) hN hd kd (by decide) rfl (m_foldDays0_1 l g hN hB.2.1 d hd kd z88 z89 z90) q_cX9_43 q_dX10_foldDays (by decide) rfl rfl hl.1 rfl (Nat.le_of_ble_eq_true rfl) dX9_readAll_66 (fun H locs f100 h102 hF hB => ?_)
      obtain rfl := h102
      refine q_iconst cx dX9_readAll_69 ?_
      refine q_zret cx hr hlk hB dX9_readAll_70 (by decide) (by decide) ?_
      exact ⟨rfl, z81, z82, z88, z89, z90, z91, z92, z93, z94⟩
    · exact absurd c99 (by omega)
set_option maxHeartbeats 4000000 in
set_option maxRecDepth 100000 in
theorem m_readScript0 (l : Launch) (g : q_G) {K : Nat → Nat} {L : List Nat} (hN : L.Nodup) {f : Nat → va_E} (hT : q_Ty g K L f) (v : Nat) (hv : v ∈ L) (kv : K v = 7) (q : Nat) (hq : q ∈ L) (kq : K q = 8) (d : Nat) (hd : d ∈ L) (kd : K d = 10) (hf0 : q_z f q 1 = 0) : q_Ct l g K L yX7_readAll cX7_readAll 5 (some .boolean) 3 62 [.ref v, .ref q, .ref d] f [(7, 1, 4), (8, 2, 9)] (q_Pi (fun (z : Int) (f1 : Nat → va_E) => z = 1 ∧ q_z f1 v 1 = 0 ∧ q_z f1 q 2 = 0 ∧ q_z f1 q 3 = (-1))) := by
  refine q_ofb (by decide +kernel) hN hT (Nat.le_of_ble_eq_true rfl) ?_
  intro p e s m below meth c ls cx hr hlk hB hl
  have hl : lv_has ls 5 [(0, .ref v), (1, .ref q), (2, .ref d)] := hl
  obtain ⟨H, hH⟩ : ∃ H : Heap, H = s.heap := ⟨_, rfl⟩
  obtain ⟨locs, hlocs⟩ : ∃ z : List Loc, z = [] := ⟨_, rfl⟩
  rw [← hH, ← hlocs] at hB
  rw [← hH, ← hlocs]
  refine q_ald_n cx dX7_readAll_0 rfl (lv_at hl 0 rfl) ?_
  refine q_iconst cx dX7_readAll_1 ?_
  refine q_pX7_18 cx hB hv kv ⟨by decide, by decide⟩ (by decide) (by decide) rfl dX7_readAll_2 (fun H locs f30 ef30 z31 hB => ?_)
  have z32 : q_z f30 q 1 = 0 := by rw [ef30, q_setz (Or.inl (fun q => by rw [q, kv] at kq; exact absurd kq (by decide)))]; exact hf0
  refine q_ald_n cx dX7_readAll_5 rfl (lv_at hl 0 rfl) ?_
  refine q_iconst cx dX7_readAll_6 ?_
  refine q_pX7_22 cx hB hv kv ⟨by decide, by decide⟩ (by decide) (by decide) rfl dX7_readAll_7 (fun H locs f33 ef33 z34 hB => ?_)
  have z35 : q_z f33 q 1 = 0 := by rw [ef33, q_setz (Or.inr (by decide))]; exact z32
  have z36 : q_z f33 v 1 = 0 := by rw [ef33, q_setz (Or.inr (by decide))]; exact z31
  refine q_ald_n cx dX7_readAll_10 rfl (lv_at hl 0 rfl) ?_
  refine q_iconst cx dX7_readAll_11 ?_
  refine q_pX7_25 cx hB hv kv ⟨by decide, by decide⟩ (by decide) (by decide) rfl dX7_readAll_12 (fun H locs f37 ef37 z38 hB => ?_)
  have z39 : q_z f37 q 1 = 0 := by rw [ef37, q_setz (Or.inr (by decide))]; exact z35
  have z40 : q_z f37 v 1 = 0 := by rw [ef37, q_setz (Or.inr (by decide))]; exact z36
  have z41 : q_z f37 v 3 = (-1) := by rw [ef37, q_setz (Or.inr (by decide))]; exact z34
  refine q_ald_n cx dX7_readAll_15 rfl (lv_at hl 1 rfl) ?_
  refine q_cVv (As := []) (rest := []) cx hB (fun _ h => h) hN hq kq (by decide) rfl (m_begin0 l g hN hB.2.1 q hq kq z39) q_cX7_28 q_dX8_begin (by decide) rfl rfl hl.1 rfl (Nat.le_of_ble_eq_true rfl) dX7_readAll_16 (fun H locs f42 h44 hF hB => ?_)
  obtain ⟨z45, z46, z47⟩ := h44
  have z48 : q_z f42 q 1 = 0 := (hF.z hq (by rw [kq]; rfl)).trans z39
  have z49 : q_z f42 v 1 = 0 := (hF.z hv (by rw [kv]; rfl)).trans z40
  have z50 : q_z f42 v 3 = (-1) := (hF.z hv (by rw [kv]; rfl)).trans z41
  have z51 : q_z f42 v 4 = 0 := (hF.z hv (by rw [kv]; rfl)).trans z38
  refine q_iconst cx dX7_readAll_19 ?_
  refine lv_istore_n (lv' := [(3, .int (q_i 0)), (0, .ref v), (1, .ref q), (2, .ref d)]) cx.1 cx.2.1 dX7_readAll_20 rfl hl (by decide) rfl (fun ls hl => ?_)
  refine q_ild_n cx dX7_readAll_21 rfl (lv_at hl 0 rfl) ?_
  refine q_sipush cx dX7_readAll_22 rfl ?_
  refine q_icgt (tgt := 81) cx ⟨by decide, by decide⟩ ⟨by decide, by decide⟩ dX7_readAll_25 (by decide) (fun c52 => ?_) (fun c52 => ?_)
  · exact absurd c52 (by omega)
  · refine q_ald_n cx dX7_readAll_28 rfl (lv_at hl 2 rfl) ?_
    refine q_cVi (As := []) (rest := []) cx hB (fun _ h => h) hN hq kq (by decide) rfl (m_isAtEnd0 l g hN hB.2.1 q hq kq z47) q_cX7_33 q_dX8_isAtEnd (by decide) rfl rfl hl.1 rfl (Nat.le_of_ble_eq_true rfl) dX7_readAll_29 (fun y54 H locs f53 ry54 h55 hF hB => ?_)
    obtain ⟨rfl, qy54⟩ := h55
    subst qy54
    refine q_ifne (tgt := 81) cx ⟨by decide, by decide⟩ dX7_readAll_32 (by decide) (fun c56 => ?_) (fun c56 => ?_)
    · refine q_ald_n cx dX7_readAll_81 rfl (lv_at hl 1 rfl) ?_
      refine q_gX7_22 cx hB hv kv z50 dX7_readAll_82 (fun lb57 ub57 => ?_)
      refine q_iconst cx dX7_readAll_85 ?_
      refine q_iceq (tgt := 97) cx ⟨by decide, by decide⟩ ⟨by decide, by decide⟩ dX7_readAll_86 (by decide) (fun c58 => ?_) (fun c58 => ?_)
      · refine q_iconst cx dX7_readAll_97 ?_
        refine lv_goto (tgt := 102) cx.1 cx.2.1 dX7_readAll_98 (by decide) ?_
        refine q_zret cx hr hlk hB dX7_readAll_102 (by decide) (by decide) ?_
        exact ⟨rfl, z49, z45, z46⟩
      · exact absurd c58 (by omega)
    · exact absurd c56 (by omega)
set_option maxHeartbeats 4000000 in
set_option maxRecDepth 100000 in
theorem m_commandAt (l : Launch) (g : q_G) {K : Nat → Nat} {L : List Nat} (hN : L.Nodup) {f : Nat → va_E} (hT : q_Ty g K L f) (v : Nat) (hv : v ∈ L) (kv : K v = 7) (x : Int) (lx : (-2147483648) ≤ x) (ux : x ≤ 2147483647) : q_Ct l g K L yX7_commandAt cX7_commandAt 2 (some (.object "WakeVillage$Command")) 0 0 [.ref v, .int (q_i x)] f [] (q_Pr (fun (z : Nat) (f1 : Nat → va_E) => f = f1 ∧ z ∈ L ∧ K z = 0)) := by
  refine q_ofb (by decide +kernel) hN hT (Nat.le_of_ble_eq_true rfl) ?_
  intro p e s m below meth c ls cx hr hlk hB hl
  have hl : lv_has ls 2 [(0, .ref v), (1, .int (q_i x))] := hl
  obtain ⟨H, hH⟩ : ∃ H : Heap, H = s.heap := ⟨_, rfl⟩
  obtain ⟨locs, hlocs⟩ : ∃ z : List Loc, z = [] := ⟨_, rfl⟩
  rw [← hH, ← hlocs] at hB
  rw [← hH, ← hlocs]
  refine q_ald_n cx dX7_commandAt_0 rfl (lv_at hl 0 rfl) ?_
  obtain ⟨p12, ep12⟩ : ∃ zz, q_r f v 0 = zz := ⟨_, rfl⟩
  refine q_gX7_13 cx hB hv kv ep12 dX7_commandAt_1 (fun hb13 kb13 => ?_)
  refine q_ild_n cx dX7_commandAt_4 rfl (lv_at hl 1 rfl) ?_
  refine q_iflt (tgt := 21) cx ⟨by omega, by omega⟩ dX7_commandAt_5 (by decide) (fun c14 => ?_) (fun c14 => ?_)
  · refine q_iconst cx dX7_commandAt_21 ?_
    obtain ⟨p15, ep15⟩ : ∃ zz, q_r f p12 (Int.toNat 0) = zz := ⟨_, rfl⟩
    refine q_aald (k2 := 0) (n := 30) cx hB hb13 kb13 (by decide) rfl 4 rfl (by decide) rfl (by decide) (by decide) (by decide) rfl ep15 dX7_commandAt_22 (fun hb16 kb16 => ?_)
    refine q_aret cx hr (Or.inl ⟨_, rfl⟩) hlk hB dX7_commandAt_23 ?_
    exact ⟨rfl, hb16, kb16⟩
  · refine q_ild_n cx dX7_commandAt_8 rfl (lv_at hl 1 rfl) ?_
    refine q_ald_n cx dX7_commandAt_9 rfl (lv_at hl 0 rfl) ?_
    refine q_gX7_13 cx hB hv kv ep12 dX7_commandAt_10 (fun hb17 kb17 => ?_)
    refine q_alen (n := 30) cx hB hb13 kb13 (by decide) rfl 4 rfl rfl dX7_commandAt_13 ?_
    refine q_icge (tgt := 21) cx ⟨by omega, by omega⟩ ⟨by decide, by decide⟩ dX7_commandAt_14 (by decide) (fun c18 => ?_) (fun c18 => ?_)
    · refine q_iconst cx dX7_commandAt_21 ?_
      obtain ⟨p19, ep19⟩ : ∃ zz, q_r f p12 (Int.toNat 0) = zz := ⟨_, rfl⟩
      refine q_aald (k2 := 0) (n := 30) cx hB hb13 kb13 (by decide) rfl 4 rfl (by decide) rfl (by decide) (by decide) (by decide) rfl ep19 dX7_commandAt_22 (fun hb20 kb20 => ?_)
      refine q_aret cx hr (Or.inl ⟨_, rfl⟩) hlk hB dX7_commandAt_23 ?_
      exact ⟨rfl, hb20, kb20⟩
    · refine q_ild_n cx dX7_commandAt_17 rfl (lv_at hl 1 rfl) ?_
      refine lv_goto (tgt := 22) cx.1 cx.2.1 dX7_commandAt_18 (by decide) ?_
      obtain ⟨p21, ep21⟩ : ∃ zz, q_r f p12 (Int.toNat x) = zz := ⟨_, rfl⟩
      refine q_aald (k2 := 0) (n := 30) cx hB hb13 kb13 (by decide) rfl 4 rfl (by decide) rfl (by omega) (by omega) (by decide) rfl ep21 dX7_commandAt_22 (fun hb22 kb22 => ?_)
      refine q_aret cx hr (Or.inl ⟨_, rfl⟩) hlk hB dX7_commandAt_23 ?_
      exact ⟨rfl, hb22, kb22⟩
set_option maxHeartbeats 4000000 in
set_option maxRecDepth 100000 in
theorem m_runOn0 (l : Launch) (g : q_G) {K : Nat → Nat} {L : List Nat} (hN : L.Nodup) {f : Nat → va_E} (hT : q_Ty g K L f) (v : Nat) (hv : v ∈ L) (kv : K v = 7) (d : Nat) (hd : d ∈ L) (kd : K d = 10) (hf0 : q_z f v 1 = 0) : q_Ct l g K L yX7_runOn cX7_runOn 5 (some .int) 1 21 [.ref v, .ref d] f [(7, 2, 3)] (q_Pi (fun (z : Int) (f1 : Nat → va_E) => z = 0)) := by
  refine q_ofb (by decide +kernel) hN hT (Nat.le_of_ble_eq_true rfl) ?_
  intro p e s m below meth c ls cx hr hlk hB hl
  have hl : lv_has ls 5 [(0, .ref v), (1, .ref d)] := hl
  obtain ⟨H, hH⟩ : ∃ H : Heap, H = s.heap := ⟨_, rfl⟩
  obtain ⟨locs, hlocs⟩ : ∃ z : List Loc, z = [] := ⟨_, rfl⟩
  rw [← hH, ← hlocs] at hB
  rw [← hH, ← hlocs]
  refine q_ald_n cx dX7_runOn_0 rfl (lv_at hl 0 rfl) ?_
  refine q_iconst cx dX7_runOn_1 ?_
  refine q_pX7_124 cx hB hv kv ⟨by decide, by decide⟩ (by decide) (by decide) rfl dX7_runOn_2 (fun H locs f19 ef19 z20 hB => ?_)
  have z21 : q_z f19 v 1 = 0 := by rw [ef19, q_setz (Or.inr (by decide))]; exact hf0
  refine q_ald_n cx dX7_runOn_5 rfl (lv_at hl 0 rfl) ?_
  refine q_iconst cx dX7_runOn_6 ?_
  refine q_pX7_22 cx hB hv kv ⟨by decide, by decide⟩ (by decide) (by decide) rfl dX7_runOn_7 (fun H locs f22 ef22 z23 hB => ?_)
  have z24 : q_z f22 v 1 = 0 := by rw [ef22, q_setz (Or.inr (by decide))]; exact z21
  have z25 : q_z f22 v 2 = 0 := by rw [ef22, q_setz (Or.inr (by decide))]; exact z20
  refine q_iconst cx dX7_runOn_10 ?_
  refine lv_istore_n (lv' := [(2, .int (q_i 0)), (0, .ref v), (1, .ref d)]) cx.1 cx.2.1 dX7_runOn_11 rfl hl (by decide) rfl (fun ls hl => ?_)
  refine q_iconst cx dX7_runOn_12 ?_
  refine lv_istore_n (lv' := [(3, .int (q_i 0)), (2, .int (q_i 0)), (0, .ref v), (1, .ref d)]) cx.1 cx.2.1 dX7_runOn_13 rfl hl (by decide) rfl (fun ls hl => ?_)
  refine q_ild_n cx dX7_runOn_14 rfl (lv_at hl 0 rfl) ?_
  refine lv_ldc (v := q_i 1000000) cx.1 cx.2.1 cx.2.2.2.1 (cx.2.2.2.2 _ q_h1143) dX7_runOn_15 ?_
  refine q_icge (tgt := 145) cx ⟨by decide, by decide⟩ ⟨by decide, by decide⟩ dX7_runOn_17 (by decide) (fun c26 => ?_) (fun c26 => ?_)
  · exact absurd c26 (by omega)
  · refine q_ald_n cx dX7_runOn_20 rfl (lv_at hl 2 rfl) ?_
    refine q_gX7_124 cx hB hv kv z25 dX7_runOn_21 (fun lb27 ub27 => ?_)
    refine q_bipush cx dX7_runOn_24 rfl ?_
    refine q_icge (tgt := 145) cx ⟨by decide, by decide⟩ ⟨by decide, by decide⟩ dX7_runOn_26 (by decide) (fun c28 => ?_) (fun c28 => ?_)
    · exact absurd c28 (by omega)
    · refine q_ald_n cx dX7_runOn_29 rfl (lv_at hl 2 rfl) ?_
      refine q_ild_n cx dX7_runOn_30 rfl (lv_at hl 1 rfl) ?_
      refine q_cVr (As := [.int (q_i 0)]) (rest := []) cx hB (fun _ h => h) hN hv kv (by decide) rfl (m_commandAt l g hN hB.2.1 v hv kv 0 (by decide) (by decide)) q_cX7_74 q_dX7_commandAt (by decide) rfl rfl hl.1 rfl (Nat.le_of_ble_eq_true rfl) dX7_runOn_31 (fun y30 H locs f29 h31 hF hB => ?_)
      obtain ⟨rfl, hy30, ky30⟩ := h31
      refine lv_astore (lv' := [(4, .ref y30), (3, .int (q_i 0)), (2, .int (q_i 0)), (0, .ref v), (1, .ref d)]) cx.1 cx.2.1 dX7_runOn_34 hl (by decide) rfl (fun ls hl => ?_)
      refine q_ald_n cx dX7_runOn_36 rfl (lv_at hl 3 rfl) ?_
      refine q_gX7_22 cx hB hv kv z23 dX7_runOn_37 (fun lb32 ub32 => ?_)
      refine q_iconst cx dX7_runOn_40 ?_
      refine q_iceq (tgt := 68) cx ⟨by decide, by decide⟩ ⟨by decide, by decide⟩ dX7_runOn_41 (by decide) (fun c33 => ?_) (fun c33 => ?_)
      · refine q_ild_n cx dX7_runOn_68 rfl (lv_at hl 2 rfl) ?_
        refine q_ald_n cx dX7_runOn_69 rfl (lv_at hl 3 rfl) ?_
        refine q_gX7_18 cx hB hv kv z24 dX7_runOn_70 (fun lb34 ub34 => ?_)
        refine q_iclt (tgt := 81) cx ⟨by decide, by decide⟩ ⟨by decide, by decide⟩ dX7_runOn_73 (by decide) (fun c35 => ?_) (fun c35 => ?_)
        · exact absurd c35 (by omega)
        · refine q_ald_n cx dX7_runOn_76 rfl (lv_at hl 3 rfl) ?_
          refine q_gX7_124 cx hB hv kv z25 dX7_runOn_77 (fun lb36 ub36 => ?_)
          refine q_iret cx hr hlk hB dX7_runOn_80 ⟨by decide, by decide⟩ ?_
          exact rfl
      · exact absurd c33 (by omega)
set_option maxHeartbeats 4000000 in
set_option maxRecDepth 100000 in
theorem m_forget (l : Launch) (g : q_G) {K : Nat → Nat} {L : List Nat} (hN : L.Nodup) {f : Nat → va_E} (hT : q_Ty g K L f) (v : Nat) (hv : v ∈ L) (kv : K v = 2) : q_Ct l g K L yX2_forget cX2_forget 1 none 0 0 [.ref v] f [(2, 2, 2)] (q_Pv (fun (f1 : Nat → va_E) => q_z f1 v 2 = 0)) := by
  refine q_ofb (by decide +kernel) hN hT (Nat.le_of_ble_eq_true rfl) ?_
  intro p e s m below meth c ls cx hr hlk hB hl
  have hl : lv_has ls 1 [(0, .ref v)] := hl
  obtain ⟨H, hH⟩ : ∃ H : Heap, H = s.heap := ⟨_, rfl⟩
  obtain ⟨locs, hlocs⟩ : ∃ z : List Loc, z = [] := ⟨_, rfl⟩
  rw [← hH, ← hlocs] at hB
  rw [← hH, ← hlocs]
  refine q_ald_n cx dX2_forget_0 rfl (lv_at hl 0 rfl) ?_
  refine q_iconst cx dX2_forget_1 ?_
  refine q_pX2_16 cx hB hv kv ⟨by decide, by decide⟩ (by decide) (by decide) rfl dX2_forget_2 (fun H locs f3 ef3 z4 hB => ?_)
  refine q_vret cx hr hlk hB dX2_forget_5 ?_
  exact z4
set_option maxHeartbeats 4000000 in
set_option maxRecDepth 100000 in
theorem m_keep0 (l : Launch) (g : q_G) {K : Nat → Nat} {L : List Nat} (hN : L.Nodup) {f : Nat → va_E} (hT : q_Ty g K L f) (v : Nat) (hv : v ∈ L) (kv : K v = 2) (o : Nat) (ho : o ∈ L) (ko : K o = 10) (hf0 : q_z f v 1 = 0) (hf1 : q_z f v 2 = 0) (hf2 : q_z f o 3 = 0) (hf3 : q_z f o 4 = 0) (hf4 : q_z f o 5 = 0) (hf5 : q_z f o 6 = 12) (hf6 : q_z f o 10 = 3) (hf7 : q_z f o 11 = 0) (hf8 : q_z f o 12 = 0) : q_Ct l g K L yX2_keep cX2_keep 2 none 1 22 [.ref v, .ref o] f [(2, 1, 2), (16, 3, 12)] (q_Pv (fun (f1 : Nat → va_E) => q_z f1 v 1 = 1 ∧ q_z f1 v 2 = 1)) := by
  refine q_ofb (by decide +kernel) hN hT (Nat.le_of_ble_eq_true rfl) ?_
  intro p e s m below meth c ls cx hr hlk hB hl
  have hl : lv_has ls 2 [(0, .ref v), (1, .ref o)] := hl
  obtain ⟨H, hH⟩ : ∃ H : Heap, H = s.heap := ⟨_, rfl⟩
  obtain ⟨locs, hlocs⟩ : ∃ z : List Loc, z = [] := ⟨_, rfl⟩
  rw [← hH, ← hlocs] at hB
  rw [← hH, ← hlocs]
  refine q_ald_n cx dX2_keep_0 rfl (lv_at hl 0 rfl) ?_
  refine q_gX2_20 cx hB hv kv hf0 dX2_keep_1 (fun lb70 ub70 => ?_)
  refine q_iflt (tgt := 19) cx ⟨by decide, by decide⟩ dX2_keep_4 (by decide) (fun c71 => ?_) (fun c71 => ?_)
  · exact absurd c71 (by omega)
  · refine q_ald_n cx dX2_keep_7 rfl (lv_at hl 0 rfl) ?_
    refine q_gX2_20 cx hB hv kv hf0 dX2_keep_8 (fun lb72 ub72 => ?_)
    refine q_ald_n cx dX2_keep_11 rfl (lv_at hl 0 rfl) ?_
    obtain ⟨p73, ep73⟩ : ∃ zz, q_r f v 0 = zz := ⟨_, rfl⟩
    refine q_gX2_11 cx hB hv kv ep73 dX2_keep_12 (fun hb74 kb74 => ?_)
    refine q_alen (n := 6) cx hB hb74 kb74 (by decide) rfl 8 rfl rfl dX2_keep_15 ?_
    refine q_iclt (tgt := 24) cx ⟨by decide, by decide⟩ ⟨by decide, by decide⟩ dX2_keep_16 (by decide) (fun c75 => ?_) (fun c75 => ?_)
    · refine q_ald_n cx dX2_keep_24 rfl (lv_at hl 0 rfl) ?_
      refine q_gX2_11 cx hB hv kv ep73 dX2_keep_25 (fun hb76 kb76 => ?_)
      refine q_ald_n cx dX2_keep_28 rfl (lv_at hl 0 rfl) ?_
      refine q_gX2_20 cx hB hv kv hf0 dX2_keep_29 (fun lb77 ub77 => ?_)
      obtain ⟨p78, ep78⟩ : ∃ zz, q_r f p73 (Int.toNat 0) = zz := ⟨_, rfl⟩
      refine q_aald (k2 := 16) (n := 6) cx hB hb74 kb74 (by decide) rfl 8 rfl (by decide) rfl (by decide) (by decide) (by decide) rfl ep78 dX2_keep_32 (fun hb79 kb79 => ?_)
      refine q_ald_n cx dX2_keep_33 rfl (lv_at hl 1 rfl) ?_
      refine q_cVv (As := [.ref o]) (rest := []) cx hB (fun _ h => h) hN hb79 kb79 (by decide) rfl (m_copy0_40 l g hN hB.2.1 p78 hb79 kb79 o ho ko hf2 hf3 hf4 hf5 hf6 hf7 hf8) q_cX2_23 q_dX10_copyFrom (by decide) rfl rfl hl.1 rfl (Nat.le_of_ble_eq_true rfl) dX2_keep_34 (fun H locs f80 h82 hF hB => ?_)
      obtain ⟨z83, z84, z85, z86, z87, z88, z89⟩ := h82
      have z90 : q_z f80 v 1 = 0 := (hF.z hv (by rw [kv]; rfl)).trans hf0
      have z91 : q_z f80 v 2 = 0 := (hF.z hv (by rw [kv]; rfl)).trans hf1
      have z92 : q_z f80 o 3 = 0 := (hF.z ho (by rw [ko]; rfl)).trans hf2
      have z93 : q_z f80 o 4 = 0 := (hF.z ho (by rw [ko]; rfl)).trans hf3
      have z94 : q_z f80 o 5 = 0 := (hF.z ho (by rw [ko]; rfl)).trans hf4
      have z95 : q_z f80 o 6 = 12 := (hF.z ho (by rw [ko]; rfl)).trans hf5
      have z96 : q_z f80 o 10 = 3 := (hF.z ho (by rw [ko]; rfl)).trans hf6
      have z97 : q_z f80 o 11 = 0 := (hF.z ho (by rw [ko]; rfl)).trans hf7
      have z98 : q_z f80 o 12 = 0 := (hF.z ho (by rw [ko]; rfl)).trans hf8
      have z99 : q_r f80 v 0 = p73 := (hF.r hv (by rw [kv]; rfl)).trans ep73
      refine q_ald_n cx dX2_keep_37 rfl (lv_at hl 0 rfl) ?_
      refine lv_dup cx.1 cx.2.1 dX2_keep_38 rfl ?_
      refine q_gX2_20 cx hB hv kv z90 dX2_keep_39 (fun lb100 ub100 => ?_)
      refine q_iconst cx dX2_keep_42 ?_
      refine q_iadd cx dX2_keep_43 ?_
      refine q_pX2_20 cx hB hv kv ⟨by decide, by decide⟩ (by decide) (by decide) rfl dX2_keep_44 (fun H locs f101 ef101 z102 hB => ?_)
      have z103 : q_z f101 v 2 = 0 := by rw [ef101, q_setz (Or.inr (by decide))]; exact z91
      have z104 : q_z f101 o 3 = 0 := by rw [ef101, q_setz (Or.inr (by decide))]; exact z92
      have z105 : q_z f101 o 4 = 0 := by rw [ef101, q_setz (Or.inr (by decide))]; exact z93
      have z106 : q_z f101 o 5 = 0 := by rw [ef101, q_setz (Or.inr (by decide))]; exact z94
      have z107 : q_z f101 o 6 = 12 := by rw [ef101, q_setz (Or.inr (by decide))]; exact z95
      have z108 : q_z f101 o 10 = 3 := by rw [ef101, q_setz (Or.inr (by decide))]; exact z96
      have z109 : q_z f101 o 11 = 0 := by rw [ef101, q_setz (Or.inr (by decide))]; exact z97
      have z110 : q_z f101 o 12 = 0 := by rw [ef101, q_setz (Or.inr (by decide))]; exact z98
      have z111 : q_z f101 p78 3 = 0 := by rw [ef101, q_setz (Or.inr (by decide))]; exact z83
      have z112 : q_z f101 p78 4 = 0 := by rw [ef101, q_setz (Or.inr (by decide))]; exact z84
      have z113 : q_z f101 p78 5 = 0 := by rw [ef101, q_setz (Or.inr (by decide))]; exact z85
      have z114 : q_z f101 p78 6 = 12 := by rw [ef101, q_setz (Or.inr (by decide))]; exact z86
      have z115 : q_z f101 p78 10 = 3 := by rw [ef101, q_setz (Or.inr (by decide))]; exact z87
      have z116 : q_z f101 p78 11 = 0 := by rw [ef101, q_setz (Or.inr (by decide))]; exact z88
      have z117 : q_z f101 p78 12 = 0 := by rw [ef101, q_setz (Or.inr (by decide))]; exact z89
      have z118 : q_r f101 v 0 = p73 := by rw [ef101, q_setr (Or.inr (by decide))]; exact z99
      refine q_ald_n cx dX2_keep_47 rfl (lv_at hl 0 rfl) ?_
      refine q_bipush cx dX2_keep_48 rfl ?_
      refine q_ald_n cx dX2_keep_50 rfl (lv_at hl 0 rfl) ?_
      refine q_gX2_16 cx hB hv kv z103 dX2_keep_51 (fun lb119 ub119 => ?_)
      refine q_iconst cx dX2_keep_54 ?_
      refine q_iadd cx dX2_keep_55 ?_
      refine q_mmin (rest := [.ref v]) cx hl.1 q_h1138 q_h714 q_h157 q_h715 (by decide) (Nat.le_of_ble_eq_true rfl) (by decide) (by decide) ⟨by decide, by decide⟩ ⟨by decide, by decide⟩ dX2_keep_56 (fun y120 ay120 by120 ey120 => ?_)
      obtain rfl : y120 = 1 := by omega
      refine q_pX2_16 cx hB hv kv ⟨by decide, by decide⟩ (by decide) (by decide) rfl dX2_keep_59 (fun H locs f121 ef121 z122 hB => ?_)
      have z123 : q_z f121 o 3 = 0 := by rw [ef121, q_setz (Or.inr (by decide))]; exact z104
      have z124 : q_z f121 o 4 = 0 := by rw [ef121, q_setz (Or.inr (by decide))]; exact z105
      have z125 : q_z f121 o 5 = 0 := by rw [ef121, q_setz (Or.inr (by decide))]; exact z106
      have z126 : q_z f121 o 6 = 12 := by rw [ef121, q_setz (Or.inr (by decide))]; exact z107
      have z127 : q_z f121 o 10 = 3 := by rw [ef121, q_setz (Or.inr (by decide))]; exact z108
      have z128 : q_z f121 o 11 = 0 := by rw [ef121, q_setz (Or.inr (by decide))]; exact z109
      have z129 : q_z f121 o 12 = 0 := by rw [ef121, q_setz (Or.inr (by decide))]; exact z110
      have z130 : q_z f121 p78 3 = 0 := by rw [ef121, q_setz (Or.inr (by decide))]; exact z111
      have z131 : q_z f121 p78 4 = 0 := by rw [ef121, q_setz (Or.inr (by decide))]; exact z112
      have z132 : q_z f121 p78 5 = 0 := by rw [ef121, q_setz (Or.inr (by decide))]; exact z113
      have z133 : q_z f121 p78 6 = 12 := by rw [ef121, q_setz (Or.inr (by decide))]; exact z114
      have z134 : q_z f121 p78 10 = 3 := by rw [ef121, q_setz (Or.inr (by decide))]; exact z115
      have z135 : q_z f121 p78 11 = 0 := by rw [ef121, q_setz (Or.inr (by decide))]; exact z116
      have z136 : q_z f121 p78 12 = 0 := by rw [ef121, q_setz (Or.inr (by decide))]; exact z117
      have z137 : q_z f121 v 1 = (0 + 1) := by rw [ef121, q_setz (Or.inr (by decide))]; exact z102
      have z138 : q_r f121 v 0 = p73 := by rw [ef121, q_setr (Or.inr (by decide))]; exact z118
      refine q_vret cx hr hlk hB dX2_keep_62 ?_
      exact ⟨(by omega), z122⟩
    · exact absurd c75 (by omega)
set_option maxHeartbeats 4000000 in
set_option maxRecDepth 100000 in
theorem m_takeBack0 (l : Launch) (g : q_G) {K : Nat → Nat} {L : List Nat} (hN : L.Nodup) {f : Nat → va_E} (hT : q_Ty g K L f) (v : Nat) (hv : v ∈ L) (kv : K v = 2) (o : Nat) (ho : o ∈ L) (ko : K o = 10) (hf0 : q_z f v 2 = 0) : q_Ct l g K L yX2_takeBack cX2_takeBack 2 (some .boolean) 0 0 [.ref v, .ref o] f [] (q_Pi (fun (z : Int) (f1 : Nat → va_E) => f = f1 ∧ z = 0)) := by
  refine q_ofb (by decide +kernel) hN hT (Nat.le_of_ble_eq_true rfl) ?_
  intro p e s m below meth c ls cx hr hlk hB hl
  have hl : lv_has ls 2 [(0, .ref v), (1, .ref o)] := hl
  obtain ⟨H, hH⟩ : ∃ H : Heap, H = s.heap := ⟨_, rfl⟩
  obtain ⟨locs, hlocs⟩ : ∃ z : List Loc, z = [] := ⟨_, rfl⟩
  rw [← hH, ← hlocs] at hB
  rw [← hH, ← hlocs]
  refine q_ald_n cx dX2_takeBack_0 rfl (lv_at hl 0 rfl) ?_
  refine q_gX2_16 cx hB hv kv hf0 dX2_takeBack_1 (fun lb3 ub3 => ?_)
  refine q_ifne (tgt := 9) cx ⟨by decide, by decide⟩ dX2_takeBack_4 (by decide) (fun c4 => ?_) (fun c4 => ?_)
  · exact absurd c4 (by omega)
  · refine q_iconst cx dX2_takeBack_7 ?_
    refine q_zret cx hr hlk hB dX2_takeBack_8 (by decide) (by decide) ?_
    exact ⟨rfl, rfl⟩
set_option maxHeartbeats 4000000 in
set_option maxRecDepth 100000 in
theorem m_notOut0 (l : Launch) (g : q_G) {K : Nat → Nat} {L : List Nat} (hN : L.Nodup) {f : Nat → va_E} (hT : q_Ty g K L f) (v : Nat) (hv : v ∈ L) (kv : K v = 10) (hf0 : q_z f v 3 = 0) : q_Ct l g K L yX10_notOut cX10_notOut 3 (some .int) 0 0 [.ref v] f [] (q_Pi (fun (z : Int) (f1 : Nat → va_E) => f = f1 ∧ z = 0)) := by
  refine q_ofb (by decide +kernel) hN hT (Nat.le_of_ble_eq_true rfl) ?_
  intro p e s m below meth c ls cx hr hlk hB hl
  have hl : lv_has ls 3 [(0, .ref v)] := hl
  obtain ⟨H, hH⟩ : ∃ H : Heap, H = s.heap := ⟨_, rfl⟩
  obtain ⟨locs, hlocs⟩ : ∃ z : List Loc, z = [] := ⟨_, rfl⟩
  rw [← hH, ← hlocs] at hB
  rw [← hH, ← hlocs]
  refine q_iconst cx dX10_notOut_0 ?_
  refine lv_istore_n (lv' := [(1, .int (q_i 0)), (0, .ref v)]) cx.1 cx.2.1 dX10_notOut_1 rfl hl (by decide) rfl (fun ls hl => ?_)
  refine q_iconst cx dX10_notOut_2 ?_
  refine lv_istore_n (lv' := [(2, .int (q_i 0)), (1, .int (q_i 0)), (0, .ref v)]) cx.1 cx.2.1 dX10_notOut_3 rfl hl (by decide) rfl (fun ls hl => ?_)
  refine q_ild_n cx dX10_notOut_4 rfl (lv_at hl 0 rfl) ?_
  refine q_ald_n cx dX10_notOut_5 rfl (lv_at hl 2 rfl) ?_
  refine q_gX10_35 cx hB hv kv hf0 dX10_notOut_6 (fun lb3 ub3 => ?_)
  refine q_icge (tgt := 35) cx ⟨by decide, by decide⟩ ⟨by decide, by decide⟩ dX10_notOut_9 (by decide) (fun c4 => ?_) (fun c4 => ?_)
  · refine q_ild_n cx dX10_notOut_35 rfl (lv_at hl 1 rfl) ?_
    refine q_iret cx hr hlk hB dX10_notOut_36 ⟨by decide, by decide⟩ ?_
    exact ⟨rfl, rfl⟩
  · exact absurd c4 (by omega)
set_option maxHeartbeats 4000000 in
set_option maxRecDepth 100000 in
theorem m_inState0 (l : Launch) (g : q_G) {K : Nat → Nat} {L : List Nat} (hN : L.Nodup) {f : Nat → va_E} (hT : q_Ty g K L f) (v : Nat) (hv : v ∈ L) (kv : K v = 10) (x : Int) (lx : (-2147483648) ≤ x) (ux : x ≤ 2147483647) (hf0 : q_z f v 5 = 0) : q_Ct l g K L yX10_messagesInState cX10_messagesInState 4 (some .int) 0 0 [.ref v, .int (q_i x)] f [] (q_Pi (fun (z : Int) (f1 : Nat → va_E) => f = f1 ∧ z = 0)) := by
  refine q_ofb (by decide +kernel) hN hT (Nat.le_of_ble_eq_true rfl) ?_
  intro p e s m below meth c ls cx hr hlk hB hl
  have hl : lv_has ls 4 [(0, .ref v), (1, .int (q_i x))] := hl
  obtain ⟨H, hH⟩ : ∃ H : Heap, H = s.heap := ⟨_, rfl⟩
  obtain ⟨locs, hlocs⟩ : ∃ z : List Loc, z = [] := ⟨_, rfl⟩
  rw [← hH, ← hlocs] at hB
  rw [← hH, ← hlocs]
  refine q_iconst cx dX10_messagesInState_0 ?_
  refine lv_istore_n (lv' := [(2, .int (q_i 0)), (0, .ref v), (1, .int (q_i x))]) cx.1 cx.2.1 dX10_messagesInState_1 rfl hl (by decide) rfl (fun ls hl => ?_)
  refine q_iconst cx dX10_messagesInState_2 ?_
  refine lv_istore_n (lv' := [(3, .int (q_i 0)), (2, .int (q_i 0)), (0, .ref v), (1, .int (q_i x))]) cx.1 cx.2.1 dX10_messagesInState_3 rfl hl (by decide) rfl (fun ls hl => ?_)
  refine q_ild_n cx dX10_messagesInState_4 rfl (lv_at hl 0 rfl) ?_
  refine q_ald_n cx dX10_messagesInState_5 rfl (lv_at hl 2 rfl) ?_
  refine q_gX10_42 cx hB hv kv hf0 dX10_messagesInState_6 (fun lb3 ub3 => ?_)
  refine q_icge (tgt := 33) cx ⟨by decide, by decide⟩ ⟨by decide, by decide⟩ dX10_messagesInState_9 (by decide) (fun c4 => ?_) (fun c4 => ?_)
  · refine q_ild_n cx dX10_messagesInState_33 rfl (lv_at hl 1 rfl) ?_
    refine q_iret cx hr hlk hB dX10_messagesInState_34 ⟨by decide, by decide⟩ ?_
    exact ⟨rfl, rfl⟩
  · exact absurd c4 (by omega)
set_option maxHeartbeats 4000000 in
set_option maxRecDepth 100000 in
theorem m_inTime0 (l : Launch) (g : q_G) {K : Nat → Nat} {L : List Nat} (hN : L.Nodup) {f : Nat → va_E} (hT : q_Ty g K L f) (v : Nat) (hv : v ∈ L) (kv : K v = 10) (hf0 : q_z f v 5 = 0) : q_Ct l g K L yX10_messagesInTime cX10_messagesInTime 4 (some .int) 0 0 [.ref v] f [] (q_Pi (fun (z : Int) (f1 : Nat → va_E) => f = f1 ∧ z = 0)) := by
  refine q_ofb (by decide +kernel) hN hT (Nat.le_of_ble_eq_true rfl) ?_
  intro p e s m below meth c ls cx hr hlk hB hl
  have hl : lv_has ls 4 [(0, .ref v)] := hl
  obtain ⟨H, hH⟩ : ∃ H : Heap, H = s.heap := ⟨_, rfl⟩
  obtain ⟨locs, hlocs⟩ : ∃ z : List Loc, z = [] := ⟨_, rfl⟩
  rw [← hH, ← hlocs] at hB
  rw [← hH, ← hlocs]
  refine q_iconst cx dX10_messagesInTime_0 ?_
  refine lv_istore_n (lv' := [(1, .int (q_i 0)), (0, .ref v)]) cx.1 cx.2.1 dX10_messagesInTime_1 rfl hl (by decide) rfl (fun ls hl => ?_)
  refine q_iconst cx dX10_messagesInTime_2 ?_
  refine lv_istore_n (lv' := [(2, .int (q_i 0)), (1, .int (q_i 0)), (0, .ref v)]) cx.1 cx.2.1 dX10_messagesInTime_3 rfl hl (by decide) rfl (fun ls hl => ?_)
  refine q_ild_n cx dX10_messagesInTime_4 rfl (lv_at hl 0 rfl) ?_
  refine q_ald_n cx dX10_messagesInTime_5 rfl (lv_at hl 2 rfl) ?_
  refine q_gX10_42 cx hB hv kv hf0 dX10_messagesInTime_6 (fun lb3 ub3 => ?_)
  refine q_icge (tgt := 46) cx ⟨by decide, by decide⟩ ⟨by decide, by decide⟩ dX10_messagesInTime_9 (by decide) (fun c4 => ?_) (fun c4 => ?_)
  · refine q_ild_n cx dX10_messagesInTime_46 rfl (lv_at hl 1 rfl) ?_
    refine q_iret cx hr hlk hB dX10_messagesInTime_47 ⟨by decide, by decide⟩ ?_
    exact ⟨rfl, rfl⟩
  · exact absurd c4 (by omega)
set_option maxHeartbeats 4000000 in
set_option maxRecDepth 100000 in
theorem m_figure0a (l : Launch) (g : q_G) {K : Nat → Nat} {L : List Nat} (hN : L.Nodup) {f : Nat → va_E} (hT : q_Ty g K L f) (v : Nat) (hv : v ∈ L) (kv : K v = 10) (x : Int) (lx : 0 ≤ x) (ux : x ≤ 1) (hf0 : q_z f v 3 = 0) (hf1 : q_z f v 4 = 0) (hf2 : q_z f v 5 = 0) (hf3 : q_z f v 6 = 12) (hf4 : q_z f v 10 = 3) (hf5 : q_z f v 11 = 0) (hf6 : q_z f v 12 = 0) : q_Ct l g K L yX10_figure cX10_figure 2 (some .int) 0 0 [.ref v, .int (q_i x)] f [] (q_Pi (fun (z : Int) (f1 : Nat → va_E) => f = f1 ∧ z = 0)) := by
  refine q_ofb (by decide +kernel) hN hT (Nat.le_of_ble_eq_true rfl) ?_
  intro p e s m below meth c ls cx hr hlk hB hl
  have hl : lv_has ls 2 [(0, .ref v), (1, .int (q_i x))] := hl
  obtain ⟨H, hH⟩ : ∃ H : Heap, H = s.heap := ⟨_, rfl⟩
  obtain ⟨locs, hlocs⟩ : ∃ z : List Loc, z = [] := ⟨_, rfl⟩
  rw [← hH, ← hlocs] at hB
  rw [← hH, ← hlocs]
  refine q_ild_n cx dX10_figure_0 rfl (lv_at hl 1 rfl) ?_
  by_cases c7 : x = 0
  · refine lv_tableIn (tgt := 52) cx.1 cx.2.1 dX10_figure_1 (by rw [q_toInt ⟨by omega, by omega⟩]; omega) (by rw [q_toInt ⟨by omega, by omega⟩]; omega) (off := 51) (by rw [q_toInt ⟨by omega, by omega⟩, c7]; rfl) (by decide) ?_
    refine q_ald_n cx dX10_figure_52 rfl (lv_at hl 0 rfl) ?_
    refine q_gX10_35 cx hB hv kv hf0 dX10_figure_53 (fun lb8 ub8 => ?_)
    refine q_iret cx hr hlk hB dX10_figure_56 ⟨by decide, by decide⟩ ?_
    exact ⟨rfl, rfl⟩
  by_cases c9 : x = 1
  · refine lv_tableIn (tgt := 57) cx.1 cx.2.1 dX10_figure_1 (by rw [q_toInt ⟨by omega, by omega⟩]; omega) (by rw [q_toInt ⟨by omega, by omega⟩]; omega) (off := 56) (by rw [q_toInt ⟨by omega, by omega⟩, c9]; rfl) (by decide) ?_
    refine q_ald_n cx dX10_figure_57 rfl (lv_at hl 0 rfl) ?_
    refine q_gX10_39 cx hB hv kv hf1 dX10_figure_58 (fun lb10 ub10 => ?_)
    refine q_iret cx hr hlk hB dX10_figure_61 ⟨by decide, by decide⟩ ?_
    exact ⟨rfl, rfl⟩
  exact absurd True.intro (by omega)
set_option maxHeartbeats 4000000 in
set_option maxRecDepth 100000 in
theorem m_figure0b (l : Launch) (g : q_G) {K : Nat → Nat} {L : List Nat} (hN : L.Nodup) {f : Nat → va_E} (hT : q_Ty g K L f) (v : Nat) (hv : v ∈ L) (kv : K v = 10) (x : Int) (lx : 2 ≤ x) (ux : x ≤ 2) (hf0 : q_z f v 3 = 0) (hf1 : q_z f v 4 = 0) (hf2 : q_z f v 5 = 0) (hf3 : q_z f v 6 = 12) (hf4 : q_z f v 10 = 3) (hf5 : q_z f v 11 = 0) (hf6 : q_z f v 12 = 0) : q_Ct l g K L yX10_figure cX10_figure 2 (some .int) 0 0 [.ref v, .int (q_i x)] f [] (q_Pi (fun (z : Int) (f1 : Nat → va_E) => f = f1 ∧ z = 12)) := by
  obtain rfl : x = 2 := by omega
  refine q_ofb (by decide +kernel) hN hT (Nat.le_of_ble_eq_true rfl) ?_
  intro p e s m below meth c ls cx hr hlk hB hl
  have hl : lv_has ls 2 [(0, .ref v), (1, .int (q_i 2))] := hl
  obtain ⟨H, hH⟩ : ∃ H : Heap, H = s.heap := ⟨_, rfl⟩
  obtain ⟨locs, hlocs⟩ : ∃ z : List Loc, z = [] := ⟨_, rfl⟩
  rw [← hH, ← hlocs] at hB
  rw [← hH, ← hlocs]
  refine q_ild_n cx dX10_figure_0 rfl (lv_at hl 1 rfl) ?_
  refine lv_tableIn (tgt := 62) cx.1 cx.2.1 dX10_figure_1 (by rw [q_toInt ⟨by decide, by decide⟩]; omega) (by rw [q_toInt ⟨by decide, by decide⟩]; omega) (off := 61) (by rw [q_toInt ⟨by decide, by decide⟩]; rfl) (by decide) ?_
  refine q_ald_n cx dX10_figure_62 rfl (lv_at hl 0 rfl) ?_
  refine q_gX10_45 cx hB hv kv hf3 dX10_figure_63 (fun lb4 ub4 => ?_)
  refine q_iret cx hr hlk hB dX10_figure_66 ⟨by decide, by decide⟩ ?_
  exact ⟨rfl, rfl⟩
set_option maxHeartbeats 4000000 in
set_option maxRecDepth 100000 in
theorem m_figure0c (l : Launch) (g : q_G) {K : Nat → Nat} {L : List Nat} (hN : L.Nodup) {f : Nat → va_E} (hT : q_Ty g K L f) (v : Nat) (hv : v ∈ L) (kv : K v = 10) (x : Int) (lx : 3 ≤ x) (ux : x ≤ 9) (hf0 : q_z f v 3 = 0) (hf1 : q_z f v 4 = 0) (hf2 : q_z f v 5 = 0) (hf3 : q_z f v 6 = 12) (hf4 : q_z f v 10 = 3) (hf5 : q_z f v 11 = 0) (hf6 : q_z f v 12 = 0) : q_Ct l g K L yX10_figure cX10_figure 2 (some .int) 1 23 [.ref v, .int (q_i x)] f [] (q_Pi (fun (z : Int) (f1 : Nat → va_E) => f = f1 ∧ z = 0)) := by
  refine q_ofb (by decide +kernel) hN hT (Nat.le_of_ble_eq_true rfl) ?_
  intro p e s m below meth c ls cx hr hlk hB hl
  have hl : lv_has ls 2 [(0, .ref v), (1, .int (q_i x))] := hl
  obtain ⟨H, hH⟩ : ∃ H : Heap, H = s.heap := ⟨_, rfl⟩
  obtain ⟨locs, hlocs⟩ : ∃ z : List Loc, z = [] := ⟨_, rfl⟩
  rw [← hH, ← hlocs] at hB
  rw [← hH, ← hlocs]
  refine q_ild_n cx dX10_figure_0 rfl (lv_at hl 1 rfl) ?_
  by_cases c27 : x = 3
  · refine lv_tableIn (tgt := 67) cx.1 cx.2.1 dX10_figure_1 (by rw [q_toInt ⟨by omega, by omega⟩]; omega) (by rw [q_toInt ⟨by omega, by omega⟩]; omega) (off := 66) (by rw [q_toInt ⟨by omega, by omega⟩, c27]; rfl) (by decide) ?_
    refine q_ald_n cx dX10_figure_67 rfl (lv_at hl 0 rfl) ?_
    refine q_gX10_60 cx hB hv kv hf5 dX10_figure_68 (fun lb28 ub28 => ?_)
    refine q_iret cx hr hlk hB dX10_figure_71 ⟨by decide, by decide⟩ ?_
    exact ⟨rfl, rfl⟩
  by_cases c29 : x = 4
  · refine lv_tableIn (tgt := 72) cx.1 cx.2.1 dX10_figure_1 (by rw [q_toInt ⟨by omega, by omega⟩]; omega) (by rw [q_toInt ⟨by omega, by omega⟩]; omega) (off := 71) (by rw [q_toInt ⟨by omega, by omega⟩, c29]; rfl) (by decide) ?_
    refine q_ald_n cx dX10_figure_72 rfl (lv_at hl 0 rfl) ?_
    refine q_gX10_42 cx hB hv kv hf2 dX10_figure_73 (fun lb30 ub30 => ?_)
    refine q_iret cx hr hlk hB dX10_figure_76 ⟨by decide, by decide⟩ ?_
    exact ⟨rfl, rfl⟩
  by_cases c31 : x = 5
  · refine lv_tableIn (tgt := 77) cx.1 cx.2.1 dX10_figure_1 (by rw [q_toInt ⟨by omega, by omega⟩]; omega) (by rw [q_toInt ⟨by omega, by omega⟩]; omega) (off := 76) (by rw [q_toInt ⟨by omega, by omega⟩, c31]; rfl) (by decide) ?_
    refine q_ald_n cx dX10_figure_77 rfl (lv_at hl 0 rfl) ?_
    refine q_iconst cx dX10_figure_78 ?_
    refine q_cVi (As := [.int (q_i 1)]) (rest := []) cx hB (fun _ h => h) hN hv kv (by decide) rfl (m_inState0 l g hN hB.2.1 v hv kv 1 (by decide) (by decide) hf2) q_cX10_188 q_dX10_messagesInState (by decide) rfl rfl hl.1 rfl (Nat.le_of_ble_eq_true rfl) dX10_figure_79 (fun y33 H locs f32 ry33 h34 hF hB => ?_)
    obtain ⟨rfl, qy33⟩ := h34
    subst qy33
    refine q_iret cx hr hlk hB dX10_figure_82 ⟨by decide, by decide⟩ ?_
    exact ⟨rfl, rfl⟩
  by_cases c35 : x = 6
  · refine lv_tableIn (tgt := 83) cx.1 cx.2.1 dX10_figure_1 (by rw [q_toInt ⟨by omega, by omega⟩]; omega) (by rw [q_toInt ⟨by omega, by omega⟩]; omega) (off := 82) (by rw [q_toInt ⟨by omega, by omega⟩, c35]; rfl) (by decide) ?_
    refine q_ald_n cx dX10_figure_83 rfl (lv_at hl 0 rfl) ?_
    refine q_cVi (As := []) (rest := []) cx hB (fun _ h => h) hN hv kv (by decide) rfl (m_inTime0 l g hN hB.2.1 v hv kv hf2) q_cX10_191 q_dX10_messagesInTime (by decide) rfl rfl hl.1 rfl (Nat.le_of_ble_eq_true rfl) dX10_figure_84 (fun y37 H locs f36 ry37 h38 hF hB => ?_)
    obtain ⟨rfl, qy37⟩ := h38
    subst qy37
    refine q_iret cx hr hlk hB dX10_figure_87 ⟨by decide, by decide⟩ ?_
    exact ⟨rfl, rfl⟩
  by_cases c39 : x = 7
  · refine lv_tableIn (tgt := 88) cx.1 cx.2.1 dX10_figure_1 (by rw [q_toInt ⟨by omega, by omega⟩]; omega) (by rw [q_toInt ⟨by omega, by omega⟩]; omega) (off := 87) (by rw [q_toInt ⟨by omega, by omega⟩, c39]; rfl) (by decide) ?_
    refine q_ald_n cx dX10_figure_88 rfl (lv_at hl 0 rfl) ?_
    refine q_iconst cx dX10_figure_89 ?_
    refine q_cVi (As := [.int (q_i 2)]) (rest := []) cx hB (fun _ h => h) hN hv kv (by decide) rfl (m_inState0 l g hN hB.2.1 v hv kv 2 (by decide) (by decide) hf2) q_cX10_188 q_dX10_messagesInState (by decide) rfl rfl hl.1 rfl (Nat.le_of_ble_eq_true rfl) dX10_figure_90 (fun y41 H locs f40 ry41 h42 hF hB => ?_)
    obtain ⟨rfl, qy41⟩ := h42
    subst qy41
    refine q_iret cx hr hlk hB dX10_figure_93 ⟨by decide, by decide⟩ ?_
    exact ⟨rfl, rfl⟩
  by_cases c43 : x = 8
  · refine lv_tableIn (tgt := 94) cx.1 cx.2.1 dX10_figure_1 (by rw [q_toInt ⟨by omega, by omega⟩]; omega) (by rw [q_toInt ⟨by omega, by omega⟩]; omega) (off := 93) (by rw [q_toInt ⟨by omega, by omega⟩, c43]; rfl) (by decide) ?_
    refine q_ald_n cx dX10_figure_94 rfl (lv_at hl 0 rfl) ?_
    refine q_cVi (As := []) (rest := []) cx hB (fun _ h => h) hN hv kv (by decide) rfl (m_notOut0 l g hN hB.2.1 v hv kv hf0) q_cX10_195 q_dX10_notOut (by decide) rfl rfl hl.1 rfl (Nat.le_of_ble_eq_true rfl) dX10_figure_95 (fun y45 H locs f44 ry45 h46 hF hB => ?_)
    obtain ⟨rfl, qy45⟩ := h46
    subst qy45
    refine q_cSi (As := [.int (q_i 0)]) (rest := []) cx hB (fun _ h => h) hN (m_bitCount0 l g hN hB.2.1 0 (by decide) (by decide)) q_cX10_198 q_dJ6_bitCount_0f7a4 (by decide) rfl rfl hl.1 rfl (Nat.le_of_ble_eq_true rfl) dX10_figure_98 (fun y48 H locs f47 ry48 h49 hF hB => ?_)
    obtain ⟨rfl, qy48⟩ := h49
    subst qy48
    refine q_iret cx hr hlk hB dX10_figure_101 ⟨by decide, by decide⟩ ?_
    exact ⟨rfl, rfl⟩
  refine lv_tableOut (tgt := 102) cx.1 cx.2.1 dX10_figure_1 (by rw [q_toInt ⟨by omega, by omega⟩]; omega) (by decide) ?_
  refine q_ald_n cx dX10_figure_102 rfl (lv_at hl 0 rfl) ?_
  refine q_gX10_63 cx hB hv kv hf6 dX10_figure_103 (fun lb50 ub50 => ?_)
  refine q_iret cx hr hlk hB dX10_figure_106 ⟨by decide, by decide⟩ ?_
  exact ⟨rfl, rfl⟩
set_option maxHeartbeats 4000000 in
set_option maxRecDepth 100000 in
theorem m_awakeAfter0 (l : Launch) (g : q_G) {K : Nat → Nat} {L : List Nat} (hN : L.Nodup) {f : Nat → va_E} (hT : q_Ty g K L f) (v : Nat) (hv : v ∈ L) (kv : K v = 10) (x : Int) (lx : 0 ≤ x) (ux : x ≤ 99) (hf0 : q_z f v 3 = 0) : q_Ct l g K L yX10_awakeAfter cX10_awakeAfter 4 (some .int) 0 0 [.ref v, .int (q_i x)] f [] (q_Pi (fun (z : Int) (f1 : Nat → va_E) => f = f1 ∧ z = 0)) := by
  refine q_ofb (by decide +kernel) hN hT (Nat.le_of_ble_eq_true rfl) ?_
  intro p e s m below meth c ls cx hr hlk hB hl
  have hl : lv_has ls 4 [(0, .ref v), (1, .int (q_i x))] := hl
  obtain ⟨H, hH⟩ : ∃ H : Heap, H = s.heap := ⟨_, rfl⟩
  obtain ⟨locs, hlocs⟩ : ∃ z : List Loc, z = [] := ⟨_, rfl⟩
  rw [← hH, ← hlocs] at hB
  rw [← hH, ← hlocs]
  refine q_iconst cx dX10_awakeAfter_0 ?_
  refine lv_istore_n (lv' := [(2, .int (q_i 0)), (0, .ref v), (1, .int (q_i x))]) cx.1 cx.2.1 dX10_awakeAfter_1 rfl hl (by decide) rfl (fun ls hl => ?_)
  refine q_iconst cx dX10_awakeAfter_2 ?_
  refine lv_istore_n (lv' := [(3, .int (q_i 0)), (2, .int (q_i 0)), (0, .ref v), (1, .int (q_i x))]) cx.1 cx.2.1 dX10_awakeAfter_3 rfl hl (by decide) rfl (fun ls hl => ?_)
  refine q_ild_n cx dX10_awakeAfter_4 rfl (lv_at hl 0 rfl) ?_
  refine q_ald_n cx dX10_awakeAfter_5 rfl (lv_at hl 2 rfl) ?_
  refine q_gX10_35 cx hB hv kv hf0 dX10_awakeAfter_6 (fun lb3 ub3 => ?_)
  refine q_icge (tgt := 41) cx ⟨by decide, by decide⟩ ⟨by decide, by decide⟩ dX10_awakeAfter_9 (by decide) (fun c4 => ?_) (fun c4 => ?_)
  · refine q_ild_n cx dX10_awakeAfter_41 rfl (lv_at hl 1 rfl) ?_
    refine q_iret cx hr hlk hB dX10_awakeAfter_42 ⟨by decide, by decide⟩ ?_
    exact ⟨rfl, rfl⟩
  · exact absurd c4 (by omega)
set_option maxHeartbeats 4000000 in
set_option maxRecDepth 100000 in
theorem m_worst0 (l : Launch) (g : q_G) {K : Nat → Nat} {L : List Nat} (hN : L.Nodup) {f : Nat → va_E} (hT : q_Ty g K L f) (v : Nat) (hv : v ∈ L) (kv : K v = 10) (hf0 : q_z f v 4 = 0) : q_Ct l g K L yX10_latestMeetingLink cX10_latestMeetingLink 6 (some .int) 0 0 [.ref v] f [] (q_Pi (fun (z : Int) (f1 : Nat → va_E) => f = f1 ∧ z = (-1))) := by
  refine q_ofb (by decide +kernel) hN hT (Nat.le_of_ble_eq_true rfl) ?_
  intro p e s m below meth c ls cx hr hlk hB hl
  have hl : lv_has ls 6 [(0, .ref v)] := hl
  obtain ⟨H, hH⟩ : ∃ H : Heap, H = s.heap := ⟨_, rfl⟩
  obtain ⟨locs, hlocs⟩ : ∃ z : List Loc, z = [] := ⟨_, rfl⟩
  rw [← hH, ← hlocs] at hB
  rw [← hH, ← hlocs]
  refine q_iconst cx dX10_latestMeetingLink_0 ?_
  refine lv_istore_n (lv' := [(1, .int (q_i (-1))), (0, .ref v)]) cx.1 cx.2.1 dX10_latestMeetingLink_1 rfl hl (by decide) rfl (fun ls hl => ?_)
  refine q_iconst cx dX10_latestMeetingLink_2 ?_
  refine lv_istore_n (lv' := [(2, .int (q_i 0)), (1, .int (q_i (-1))), (0, .ref v)]) cx.1 cx.2.1 dX10_latestMeetingLink_3 rfl hl (by decide) rfl (fun ls hl => ?_)
  refine q_iconst cx dX10_latestMeetingLink_4 ?_
  refine lv_istore_n (lv' := [(3, .int (q_i 0)), (2, .int (q_i 0)), (1, .int (q_i (-1))), (0, .ref v)]) cx.1 cx.2.1 dX10_latestMeetingLink_5 rfl hl (by decide) rfl (fun ls hl => ?_)
  refine q_ild_n cx dX10_latestMeetingLink_6 rfl (lv_at hl 0 rfl) ?_
  refine q_ald_n cx dX10_latestMeetingLink_7 rfl (lv_at hl 3 rfl) ?_
  refine q_gX10_39 cx hB hv kv hf0 dX10_latestMeetingLink_8 (fun lb3 ub3 => ?_)
  refine q_icge (tgt := 66) cx ⟨by decide, by decide⟩ ⟨by decide, by decide⟩ dX10_latestMeetingLink_11 (by decide) (fun c4 => ?_) (fun c4 => ?_)
  · refine q_ild_n cx dX10_latestMeetingLink_66 rfl (lv_at hl 2 rfl) ?_
    refine q_iret cx hr hlk hB dX10_latestMeetingLink_67 ⟨by decide, by decide⟩ ?_
    exact ⟨rfl, rfl⟩
  · exact absurd c4 (by omega)
set_option maxHeartbeats 4000000 in
set_option maxRecDepth 100000 in
theorem m_busiest0 (l : Launch) (g : q_G) {K : Nat → Nat} {L : List Nat} (hN : L.Nodup) {f : Nat → va_E} (hT : q_Ty g K L f) (v : Nat) (hv : v ∈ L) (kv : K v = 10) (hf0 : q_z f v 3 = 0) (hf1 : q_z f v 6 = 12) : q_Ct l g K L yX10_ticksToMostAwake cX10_ticksToMostAwake 5 (some .int) 1 23 [.ref v] f [] (q_Pi (fun (z : Int) (f1 : Nat → va_E) => f = f1 ∧ z = 1)) := by
  refine q_ofb (by decide +kernel) hN hT (Nat.le_of_ble_eq_true rfl) ?_
  intro p e s m below meth c ls cx hr hlk hB hl
  have hl : lv_has ls 5 [(0, .ref v)] := hl
  obtain ⟨H, hH⟩ : ∃ H : Heap, H = s.heap := ⟨_, rfl⟩
  obtain ⟨locs, hlocs⟩ : ∃ z : List Loc, z = [] := ⟨_, rfl⟩
  rw [← hH, ← hlocs] at hB
  rw [← hH, ← hlocs]
  refine q_iconst cx dX10_ticksToMostAwake_0 ?_
  refine lv_istore_n (lv' := [(1, .int (q_i 1)), (0, .ref v)]) cx.1 cx.2.1 dX10_ticksToMostAwake_1 rfl hl (by decide) rfl (fun ls hl => ?_)
  refine q_iconst cx dX10_ticksToMostAwake_2 ?_
  refine lv_istore_n (lv' := [(2, .int (q_i 0)), (1, .int (q_i 1)), (0, .ref v)]) cx.1 cx.2.1 dX10_ticksToMostAwake_3 rfl hl (by decide) rfl (fun ls hl => ?_)
  refine q_iconst cx dX10_ticksToMostAwake_4 ?_
  refine lv_istore_n (lv' := [(3, .int (q_i 1)), (2, .int (q_i 0)), (1, .int (q_i 1)), (0, .ref v)]) cx.1 cx.2.1 dX10_ticksToMostAwake_5 rfl hl (by decide) rfl (fun ls hl => ?_)
  refine q_ild_n cx dX10_ticksToMostAwake_6 rfl (lv_at hl 0 rfl) ?_
  refine q_ald_n cx dX10_ticksToMostAwake_7 rfl (lv_at hl 3 rfl) ?_
  refine q_gX10_45 cx hB hv kv hf1 dX10_ticksToMostAwake_8 (fun lb111 ub111 => ?_)
  refine q_icgt (tgt := 41) cx ⟨by decide, by decide⟩ ⟨by decide, by decide⟩ dX10_ticksToMostAwake_11 (by decide) (fun c112 => ?_) (fun c112 => ?_)
  · exact absurd c112 (by omega)
  · refine q_ald_n cx dX10_ticksToMostAwake_14 rfl (lv_at hl 3 rfl) ?_
    refine q_ild_n cx dX10_ticksToMostAwake_15 rfl (lv_at hl 0 rfl) ?_
    refine q_cVi (As := [.int (q_i 1)]) (rest := []) cx hB (fun _ h => h) hN hv kv (by decide) rfl (m_awakeAfter0 l g hN hB.2.1 v hv kv 1 (by decide) (by decide) hf0) q_cX10_225 q_dX10_awakeAfter (by decide) rfl rfl hl.1 rfl (Nat.le_of_ble_eq_true rfl) dX10_ticksToMostAwake_16 (fun y114 H locs f113 ry114 h115 hF hB => ?_)
    obtain ⟨rfl, qy114⟩ := h115
    subst qy114
    refine q_cSi (As := [.int (q_i 0)]) (rest := []) cx hB (fun _ h => h) hN (m_bitCount0 l g hN hB.2.1 0 (by decide) (by decide)) q_cX10_198 q_dJ6_bitCount_0f7a4 (by decide) rfl rfl hl.1 rfl (Nat.le_of_ble_eq_true rfl) dX10_ticksToMostAwake_19 (fun y117 H locs f116 ry117 h118 hF hB => ?_)
    obtain ⟨rfl, qy117⟩ := h118
    subst qy117
    refine lv_istore (lv' := [(4, .int (q_i 0)), (3, .int (q_i 1)), (2, .int (q_i 0)), (1, .int (q_i 1)), (0, .ref v)]) cx.1 cx.2.1 dX10_ticksToMostAwake_22 hl (by decide) rfl (fun ls hl => ?_)
    refine lv_iload cx.1 cx.2.1 dX10_ticksToMostAwake_24 (lv_at hl 0 rfl) ?_
    refine q_ild_n cx dX10_ticksToMostAwake_26 rfl (lv_at hl 2 rfl) ?_
    refine q_icle (tgt := 35) cx ⟨by decide, by decide⟩ ⟨by decide, by decide⟩ dX10_ticksToMostAwake_27 (by decide) (fun c119 => ?_) (fun c119 => ?_)
    · refine q_iinc (lv' := [(3, .int (q_i (1 + 1))), (4, .int (q_i 0)), (2, .int (q_i 0)), (1, .int (q_i 1)), (0, .ref v)]) cx dX10_ticksToMostAwake_35 hl (k := 1) rfl (by decide) rfl (fun ls hl => ?_)
      refine lv_goto (tgt := 6) cx.1 cx.2.1 dX10_ticksToMostAwake_38 (by decide) ?_
      refine q_ild_n cx dX10_ticksToMostAwake_6 rfl (lv_at hl 0 rfl) ?_
      refine q_ald_n cx dX10_ticksToMostAwake_7 rfl (lv_at hl 4 rfl) ?_
      refine q_gX10_45 cx hB hv kv hf1 dX10_ticksToMostAwake_8 (fun lb120 ub120 => ?_)
      refine q_icgt (tgt := 41) cx ⟨by decide, by decide⟩ ⟨by decide, by decide⟩ dX10_ticksToMostAwake_11 (by decide) (fun c121 => ?_) (fun c121 => ?_)
      · exact absurd c121 (by omega)
      · refine q_ald_n cx dX10_ticksToMostAwake_14 rfl (lv_at hl 4 rfl) ?_
        refine q_ild_n cx dX10_ticksToMostAwake_15 rfl (lv_at hl 0 rfl) ?_
        refine q_cVi (As := [.int (q_i (1 + 1))]) (rest := []) cx hB (fun _ h => h) hN hv kv (by decide) rfl (m_awakeAfter0 l g hN hB.2.1 v hv kv (1 + 1) (by decide) (by decide) hf0) q_cX10_225 q_dX10_awakeAfter (by decide) rfl rfl hl.1 rfl (Nat.le_of_ble_eq_true rfl) dX10_ticksToMostAwake_16 (fun y123 H locs f122 ry123 h124 hF hB => ?_)
        obtain ⟨rfl, qy123⟩ := h124
        subst qy123
        refine q_cSi (As := [.int (q_i 0)]) (rest := []) cx hB (fun _ h => h) hN (m_bitCount0 l g hN hB.2.1 0 (by decide) (by decide)) q_cX10_198 q_dJ6_bitCount_0f7a4 (by decide) rfl rfl hl.1 rfl (Nat.le_of_ble_eq_true rfl) dX10_ticksToMostAwake_19 (fun y126 H locs f125 ry126 h127 hF hB => ?_)
        obtain ⟨rfl, qy126⟩ := h127
        subst qy126
        refine lv_istore (lv' := [(4, .int (q_i 0)), (3, .int (q_i (1 + 1))), (2, .int (q_i 0)), (1, .int (q_i 1)), (0, .ref v)]) cx.1 cx.2.1 dX10_ticksToMostAwake_22 hl (by decide) rfl (fun ls hl => ?_)
        refine lv_iload cx.1 cx.2.1 dX10_ticksToMostAwake_24 (lv_at hl 0 rfl) ?_
        refine q_ild_n cx dX10_ticksToMostAwake_26 rfl (lv_at hl 2 rfl) ?_
        refine q_icle (tgt := 35) cx ⟨by decide, by decide⟩ ⟨by decide, by decide⟩ dX10_ticksToMostAwake_27 (by decide) (fun c128 => ?_) (fun c128 => ?_)
        · refine q_iinc (lv' := [(3, .int (q_i ((1 + 1) + 1))), (4, .int (q_i 0)), (2, .int (q_i 0)), (1, .int (q_i 1)), (0, .ref v)]) cx dX10_ticksToMostAwake_35 hl (k := 1) rfl (by decide) rfl (fun ls hl => ?_)
          refine lv_goto (tgt := 6) cx.1 cx.2.1 dX10_ticksToMostAwake_38 (by decide) ?_
          refine q_ild_n cx dX10_ticksToMostAwake_6 rfl (lv_at hl 0 rfl) ?_
          refine q_ald_n cx dX10_ticksToMostAwake_7 rfl (lv_at hl 4 rfl) ?_
          refine q_gX10_45 cx hB hv kv hf1 dX10_ticksToMostAwake_8 (fun lb129 ub129 => ?_)
          refine q_icgt (tgt := 41) cx ⟨by decide, by decide⟩ ⟨by decide, by decide⟩ dX10_ticksToMostAwake_11 (by decide) (fun c130 => ?_) (fun c130 => ?_)
          · exact absurd c130 (by omega)
          · refine q_ald_n cx dX10_ticksToMostAwake_14 rfl (lv_at hl 4 rfl) ?_
            refine q_ild_n cx dX10_ticksToMostAwake_15 rfl (lv_at hl 0 rfl) ?_
            refine q_cVi (As := [.int (q_i ((1 + 1) + 1))]) (rest := []) cx hB (fun _ h => h) hN hv kv (by decide) rfl (m_awakeAfter0 l g hN hB.2.1 v hv kv ((1 + 1) + 1) (by decide) (by decide) hf0) q_cX10_225 q_dX10_awakeAfter (by decide) rfl rfl hl.1 rfl (Nat.le_of_ble_eq_true rfl) dX10_ticksToMostAwake_16 (fun y132 H locs f131 ry132 h133 hF hB => ?_)
            obtain ⟨rfl, qy132⟩ := h133
            subst qy132
            refine q_cSi (As := [.int (q_i 0)]) (rest := []) cx hB (fun _ h => h) hN (m_bitCount0 l g hN hB.2.1 0 (by decide) (by decide)) q_cX10_198 q_dJ6_bitCount_0f7a4 (by decide) rfl rfl hl.1 rfl (Nat.le_of_ble_eq_true rfl) dX10_ticksToMostAwake_19 (fun y135 H locs f134 ry135 h136 hF hB => ?_)
            obtain ⟨rfl, qy135⟩ := h136
            subst qy135
            refine lv_istore (lv' := [(4, .int (q_i 0)), (3, .int (q_i ((1 + 1) + 1))), (2, .int (q_i 0)), (1, .int (q_i 1)), (0, .ref v)]) cx.1 cx.2.1 dX10_ticksToMostAwake_22 hl (by decide) rfl (fun ls hl => ?_)
            refine lv_iload cx.1 cx.2.1 dX10_ticksToMostAwake_24 (lv_at hl 0 rfl) ?_
            refine q_ild_n cx dX10_ticksToMostAwake_26 rfl (lv_at hl 2 rfl) ?_
            refine q_icle (tgt := 35) cx ⟨by decide, by decide⟩ ⟨by decide, by decide⟩ dX10_ticksToMostAwake_27 (by decide) (fun c137 => ?_) (fun c137 => ?_)
            · refine q_iinc (lv' := [(3, .int (q_i (((1 + 1) + 1) + 1))), (4, .int (q_i 0)), (2, .int (q_i 0)), (1, .int (q_i 1)), (0, .ref v)]) cx dX10_ticksToMostAwake_35 hl (k := 1) rfl (by decide) rfl (fun ls hl => ?_)
              refine lv_goto (tgt := 6) cx.1 cx.2.1 dX10_ticksToMostAwake_38 (by decide) ?_
              refine q_ild_n cx dX10_ticksToMostAwake_6 rfl (lv_at hl 0 rfl) ?_
              refine q_ald_n cx dX10_ticksToMostAwake_7 rfl (lv_at hl 4 rfl) ?_
              refine q_gX10_45 cx hB hv kv hf1 dX10_ticksToMostAwake_8 (fun lb138 ub138 => ?_)
              refine q_icgt (tgt := 41) cx ⟨by decide, by decide⟩ ⟨by decide, by decide⟩ dX10_ticksToMostAwake_11 (by decide) (fun c139 => ?_) (fun c139 => ?_)
              · exact absurd c139 (by omega)
              · refine q_ald_n cx dX10_ticksToMostAwake_14 rfl (lv_at hl 4 rfl) ?_
                refine q_ild_n cx dX10_ticksToMostAwake_15 rfl (lv_at hl 0 rfl) ?_
                refine q_cVi (As := [.int (q_i (((1 + 1) + 1) + 1))]) (rest := []) cx hB (fun _ h => h) hN hv kv (by decide) rfl (m_awakeAfter0 l g hN hB.2.1 v hv kv (((1 + 1) + 1) + 1) (by decide) (by decide) hf0) q_cX10_225 q_dX10_awakeAfter (by decide) rfl rfl hl.1 rfl (Nat.le_of_ble_eq_true rfl) dX10_ticksToMostAwake_16 (fun y141 H locs f140 ry141 h142 hF hB => ?_)
                obtain ⟨rfl, qy141⟩ := h142
                subst qy141
                refine q_cSi (As := [.int (q_i 0)]) (rest := []) cx hB (fun _ h => h) hN (m_bitCount0 l g hN hB.2.1 0 (by decide) (by decide)) q_cX10_198 q_dJ6_bitCount_0f7a4 (by decide) rfl rfl hl.1 rfl (Nat.le_of_ble_eq_true rfl) dX10_ticksToMostAwake_19 (fun y144 H locs f143 ry144 h145 hF hB => ?_)
                obtain ⟨rfl, qy144⟩ := h145
                subst qy144
                refine lv_istore (lv' := [(4, .int (q_i 0)), (3, .int (q_i (((1 + 1) + 1) + 1))), (2, .int (q_i 0)), (1, .int (q_i 1)), (0, .ref v)]) cx.1 cx.2.1 dX10_ticksToMostAwake_22 hl (by decide) rfl (fun ls hl => ?_)
                refine lv_iload cx.1 cx.2.1 dX10_ticksToMostAwake_24 (lv_at hl 0 rfl) ?_
                refine q_ild_n cx dX10_ticksToMostAwake_26 rfl (lv_at hl 2 rfl) ?_
                refine q_icle (tgt := 35) cx ⟨by decide, by decide⟩ ⟨by decide, by decide⟩ dX10_ticksToMostAwake_27 (by decide) (fun c146 => ?_) (fun c146 => ?_)
                · refine q_iinc (lv' := [(3, .int (q_i ((((1 + 1) + 1) + 1) + 1))), (4, .int (q_i 0)), (2, .int (q_i 0)), (1, .int (q_i 1)), (0, .ref v)]) cx dX10_ticksToMostAwake_35 hl (k := 1) rfl (by decide) rfl (fun ls hl => ?_)
                  refine lv_goto (tgt := 6) cx.1 cx.2.1 dX10_ticksToMostAwake_38 (by decide) ?_
                  refine q_ild_n cx dX10_ticksToMostAwake_6 rfl (lv_at hl 0 rfl) ?_
                  refine q_ald_n cx dX10_ticksToMostAwake_7 rfl (lv_at hl 4 rfl) ?_
                  refine q_gX10_45 cx hB hv kv hf1 dX10_ticksToMostAwake_8 (fun lb147 ub147 => ?_)
                  refine q_icgt (tgt := 41) cx ⟨by decide, by decide⟩ ⟨by decide, by decide⟩ dX10_ticksToMostAwake_11 (by decide) (fun c148 => ?_) (fun c148 => ?_)
                  · exact absurd c148 (by omega)
                  · refine q_ald_n cx dX10_ticksToMostAwake_14 rfl (lv_at hl 4 rfl) ?_
                    refine q_ild_n cx dX10_ticksToMostAwake_15 rfl (lv_at hl 0 rfl) ?_
                    refine q_cVi (As := [.int (q_i ((((1 + 1) + 1) + 1) + 1))]) (rest := []) cx hB (fun _ h => h) hN hv kv (by decide) rfl (m_awakeAfter0 l g hN hB.2.1 v hv kv ((((1 + 1) + 1) + 1) + 1) (by decide) (by decide) hf0) q_cX10_225 q_dX10_awakeAfter (by decide) rfl rfl hl.1 rfl (Nat.le_of_ble_eq_true rfl) dX10_ticksToMostAwake_16 (fun y150 H locs f149 ry150 h151 hF hB => ?_)
                    obtain ⟨rfl, qy150⟩ := h151
                    subst qy150
                    refine q_cSi (As := [.int (q_i 0)]) (rest := []) cx hB (fun _ h => h) hN (m_bitCount0 l g hN hB.2.1 0 (by decide) (by decide)) q_cX10_198 q_dJ6_bitCount_0f7a4 (by decide) rfl rfl hl.1 rfl (Nat.le_of_ble_eq_true rfl) dX10_ticksToMostAwake_19 (fun y153 H locs f152 ry153 h154 hF hB => ?_)
                    obtain ⟨rfl, qy153⟩ := h154
                    subst qy153
                    refine lv_istore (lv' := [(4, .int (q_i 0)), (3, .int (q_i ((((1 + 1) + 1) + 1) + 1))), (2, .int (q_i 0)), (1, .int (q_i 1)), (0, .ref v)]) cx.1 cx.2.1 dX10_ticksToMostAwake_22 hl (by decide) rfl (fun ls hl => ?_)
                    refine lv_iload cx.1 cx.2.1 dX10_ticksToMostAwake_24 (lv_at hl 0 rfl) ?_
                    refine q_ild_n cx dX10_ticksToMostAwake_26 rfl (lv_at hl 2 rfl) ?_
                    refine q_icle (tgt := 35) cx ⟨by decide, by decide⟩ ⟨by decide, by decide⟩ dX10_ticksToMostAwake_27 (by decide) (fun c155 => ?_) (fun c155 => ?_)
                    · refine q_iinc (lv' := [(3, .int (q_i (((((1 + 1) + 1) + 1) + 1) + 1))), (4, .int (q_i 0)), (2, .int (q_i 0)), (1, .int (q_i 1)), (0, .ref v)]) cx dX10_ticksToMostAwake_35 hl (k := 1) rfl (by decide) rfl (fun ls hl => ?_)
                      refine lv_goto (tgt := 6) cx.1 cx.2.1 dX10_ticksToMostAwake_38 (by decide) ?_
                      refine q_ild_n cx dX10_ticksToMostAwake_6 rfl (lv_at hl 0 rfl) ?_
                      refine q_ald_n cx dX10_ticksToMostAwake_7 rfl (lv_at hl 4 rfl) ?_
                      refine q_gX10_45 cx hB hv kv hf1 dX10_ticksToMostAwake_8 (fun lb156 ub156 => ?_)
                      refine q_icgt (tgt := 41) cx ⟨by decide, by decide⟩ ⟨by decide, by decide⟩ dX10_ticksToMostAwake_11 (by decide) (fun c157 => ?_) (fun c157 => ?_)
                      · exact absurd c157 (by omega)
                      · refine q_ald_n cx dX10_ticksToMostAwake_14 rfl (lv_at hl 4 rfl) ?_
                        refine q_ild_n cx dX10_ticksToMostAwake_15 rfl (lv_at hl 0 rfl) ?_
                        refine q_cVi (As := [.int (q_i (((((1 + 1) + 1) + 1) + 1) + 1))]) (rest := []) cx hB (fun _ h => h) hN hv kv (by decide) rfl (m_awakeAfter0 l g hN hB.2.1 v hv kv (((((1 + 1) + 1) + 1) + 1) + 1) (by decide) (by decide) hf0) q_cX10_225 q_dX10_awakeAfter (by decide) rfl rfl hl.1 rfl (Nat.le_of_ble_eq_true rfl) dX10_ticksToMostAwake_16 (fun y159 H locs f158 ry159 h160 hF hB => ?_)
                        obtain ⟨rfl, qy159⟩ := h160
                        subst qy159
                        refine q_cSi (As := [.int (q_i 0)]) (rest := []) cx hB (fun _ h => h) hN (m_bitCount0 l g hN hB.2.1 0 (by decide) (by decide)) q_cX10_198 q_dJ6_bitCount_0f7a4 (by decide) rfl rfl hl.1 rfl (Nat.le_of_ble_eq_true rfl) dX10_ticksToMostAwake_19 (fun y162 H locs f161 ry162 h163 hF hB => ?_)
                        obtain ⟨rfl, qy162⟩ := h163
                        subst qy162
                        refine lv_istore (lv' := [(4, .int (q_i 0)), (3, .int (q_i (((((1 + 1) + 1) + 1) + 1) + 1))), (2, .int (q_i 0)), (1, .int (q_i 1)), (0, .ref v)]) cx.1 cx.2.1 dX10_ticksToMostAwake_22 hl (by decide) rfl (fun ls hl => ?_)
                        refine lv_iload cx.1 cx.2.1 dX10_ticksToMostAwake_24 (lv_at hl 0 rfl) ?_
                        refine q_ild_n cx dX10_ticksToMostAwake_26 rfl (lv_at hl 2 rfl) ?_
                        refine q_icle (tgt := 35) cx ⟨by decide, by decide⟩ ⟨by decide, by decide⟩ dX10_ticksToMostAwake_27 (by decide) (fun c164 => ?_) (fun c164 => ?_)
                        · refine q_iinc (lv' := [(3, .int (q_i ((((((1 + 1) + 1) + 1) + 1) + 1) + 1))), (4, .int (q_i 0)), (2, .int (q_i 0)), (1, .int (q_i 1)), (0, .ref v)]) cx dX10_ticksToMostAwake_35 hl (k := 1) rfl (by decide) rfl (fun ls hl => ?_)
                          refine lv_goto (tgt := 6) cx.1 cx.2.1 dX10_ticksToMostAwake_38 (by decide) ?_
                          refine q_ild_n cx dX10_ticksToMostAwake_6 rfl (lv_at hl 0 rfl) ?_
                          refine q_ald_n cx dX10_ticksToMostAwake_7 rfl (lv_at hl 4 rfl) ?_
                          refine q_gX10_45 cx hB hv kv hf1 dX10_ticksToMostAwake_8 (fun lb165 ub165 => ?_)
                          refine q_icgt (tgt := 41) cx ⟨by decide, by decide⟩ ⟨by decide, by decide⟩ dX10_ticksToMostAwake_11 (by decide) (fun c166 => ?_) (fun c166 => ?_)
                          · exact absurd c166 (by omega)
                          · refine q_ald_n cx dX10_ticksToMostAwake_14 rfl (lv_at hl 4 rfl) ?_
                            refine q_ild_n cx dX10_ticksToMostAwake_15 rfl (lv_at hl 0 rfl) ?_
                            refine q_cVi (As := [.int (q_i ((((((1 + 1) + 1) + 1) + 1) + 1) + 1))]) (rest := []) cx hB (fun _ h => h) hN hv kv (by decide) rfl (m_awakeAfter0 l g hN hB.2.1 v hv kv ((((((1 + 1) + 1) + 1) + 1) + 1) + 1) (by decide) (by decide) hf0) q_cX10_225 q_dX10_awakeAfter (by decide) rfl rfl hl.1 rfl (Nat.le_of_ble_eq_true rfl) dX10_ticksToMostAwake_16 (fun y168 H locs f167 ry168 h169 hF hB => ?_)
                            obtain ⟨rfl, qy168⟩ := h169
                            subst qy168
                            refine q_cSi (As := [.int (q_i 0)]) (rest := []) cx hB (fun _ h => h) hN (m_bitCount0 l g hN hB.2.1 0 (by decide) (by decide)) q_cX10_198 q_dJ6_bitCount_0f7a4 (by decide) rfl rfl hl.1 rfl (Nat.le_of_ble_eq_true rfl) dX10_ticksToMostAwake_19 (fun y171 H locs f170 ry171 h172 hF hB => ?_)
                            obtain ⟨rfl, qy171⟩ := h172
                            subst qy171
                            refine lv_istore (lv' := [(4, .int (q_i 0)), (3, .int (q_i ((((((1 + 1) + 1) + 1) + 1) + 1) + 1))), (2, .int (q_i 0)), (1, .int (q_i 1)), (0, .ref v)]) cx.1 cx.2.1 dX10_ticksToMostAwake_22 hl (by decide) rfl (fun ls hl => ?_)
                            refine lv_iload cx.1 cx.2.1 dX10_ticksToMostAwake_24 (lv_at hl 0 rfl) ?_
                            refine q_ild_n cx dX10_ticksToMostAwake_26 rfl (lv_at hl 2 rfl) ?_
                            refine q_icle (tgt := 35) cx ⟨by decide, by decide⟩ ⟨by decide, by decide⟩ dX10_ticksToMostAwake_27 (by decide) (fun c173 => ?_) (fun c173 => ?_)
                            · refine q_iinc (lv' := [(3, .int (q_i (((((((1 + 1) + 1) + 1) + 1) + 1) + 1) + 1))), (4, .int (q_i 0)), (2, .int (q_i 0)), (1, .int (q_i 1)), (0, .ref v)]) cx dX10_ticksToMostAwake_35 hl (k := 1) rfl (by decide) rfl (fun ls hl => ?_)
                              refine lv_goto (tgt := 6) cx.1 cx.2.1 dX10_ticksToMostAwake_38 (by decide) ?_
                              refine q_ild_n cx dX10_ticksToMostAwake_6 rfl (lv_at hl 0 rfl) ?_
                              refine q_ald_n cx dX10_ticksToMostAwake_7 rfl (lv_at hl 4 rfl) ?_
                              refine q_gX10_45 cx hB hv kv hf1 dX10_ticksToMostAwake_8 (fun lb174 ub174 => ?_)
                              refine q_icgt (tgt := 41) cx ⟨by decide, by decide⟩ ⟨by decide, by decide⟩ dX10_ticksToMostAwake_11 (by decide) (fun c175 => ?_) (fun c175 => ?_)
                              · exact absurd c175 (by omega)
                              · refine q_ald_n cx dX10_ticksToMostAwake_14 rfl (lv_at hl 4 rfl) ?_
                                refine q_ild_n cx dX10_ticksToMostAwake_15 rfl (lv_at hl 0 rfl) ?_
                                refine q_cVi (As := [.int (q_i (((((((1 + 1) + 1) + 1) + 1) + 1) + 1) + 1))]) (rest := []) cx hB (fun _ h => h) hN hv kv (by decide) rfl (m_awakeAfter0 l g hN hB.2.1 v hv kv (((((((1 + 1) + 1) + 1) + 1) + 1) + 1) + 1) (by decide) (by decide) hf0) q_cX10_225 q_dX10_awakeAfter (by decide) rfl rfl hl.1 rfl (Nat.le_of_ble_eq_true rfl) dX10_ticksToMostAwake_16 (fun y177 H locs f176 ry177 h178 hF hB => ?_)
                                obtain ⟨rfl, qy177⟩ := h178
                                subst qy177
                                refine q_cSi (As := [.int (q_i 0)]) (rest := []) cx hB (fun _ h => h) hN (m_bitCount0 l g hN hB.2.1 0 (by decide) (by decide)) q_cX10_198 q_dJ6_bitCount_0f7a4 (by decide) rfl rfl hl.1 rfl (Nat.le_of_ble_eq_true rfl) dX10_ticksToMostAwake_19 (fun y180 H locs f179 ry180 h181 hF hB => ?_)
                                obtain ⟨rfl, qy180⟩ := h181
                                subst qy180
                                refine lv_istore (lv' := [(4, .int (q_i 0)), (3, .int (q_i (((((((1 + 1) + 1) + 1) + 1) + 1) + 1) + 1))), (2, .int (q_i 0)), (1, .int (q_i 1)), (0, .ref v)]) cx.1 cx.2.1 dX10_ticksToMostAwake_22 hl (by decide) rfl (fun ls hl => ?_)
                                refine lv_iload cx.1 cx.2.1 dX10_ticksToMostAwake_24 (lv_at hl 0 rfl) ?_
                                refine q_ild_n cx dX10_ticksToMostAwake_26 rfl (lv_at hl 2 rfl) ?_
                                refine q_icle (tgt := 35) cx ⟨by decide, by decide⟩ ⟨by decide, by decide⟩ dX10_ticksToMostAwake_27 (by decide) (fun c182 => ?_) (fun c182 => ?_)
                                · refine q_iinc (lv' := [(3, .int (q_i ((((((((1 + 1) + 1) + 1) + 1) + 1) + 1) + 1) + 1))), (4, .int (q_i 0)), (2, .int (q_i 0)), (1, .int (q_i 1)), (0, .ref v)]) cx dX10_ticksToMostAwake_35 hl (k := 1) rfl (by decide) rfl (fun ls hl => ?_)
                                  refine lv_goto (tgt := 6) cx.1 cx.2.1 dX10_ticksToMostAwake_38 (by decide) ?_
                                  refine q_ild_n cx dX10_ticksToMostAwake_6 rfl (lv_at hl 0 rfl) ?_
                                  refine q_ald_n cx dX10_ticksToMostAwake_7 rfl (lv_at hl 4 rfl) ?_
                                  refine q_gX10_45 cx hB hv kv hf1 dX10_ticksToMostAwake_8 (fun lb183 ub183 => ?_)
                                  refine q_icgt (tgt := 41) cx ⟨by decide, by decide⟩ ⟨by decide, by decide⟩ dX10_ticksToMostAwake_11 (by decide) (fun c184 => ?_) (fun c184 => ?_)
                                  · exact absurd c184 (by omega)
                                  · refine q_ald_n cx dX10_ticksToMostAwake_14 rfl (lv_at hl 4 rfl) ?_
                                    refine q_ild_n cx dX10_ticksToMostAwake_15 rfl (lv_at hl 0 rfl) ?_
                                    refine q_cVi (As := [.int (q_i ((((((((1 + 1) + 1) + 1) + 1) + 1) + 1) + 1) + 1))]) (rest := []) cx hB (fun _ h => h) hN hv kv (by decide) rfl (m_awakeAfter0 l g hN hB.2.1 v hv kv ((((((((1 + 1) + 1) + 1) + 1) + 1) + 1) + 1) + 1) (by decide) (by decide) hf0) q_cX10_225 q_dX10_awakeAfter (by decide) rfl rfl hl.1 rfl (Nat.le_of_ble_eq_true rfl) dX10_ticksToMostAwake_16 (fun y186 H locs f185 ry186 h187 hF hB => ?_)
                                    obtain ⟨rfl, qy186⟩ := h187
                                    subst qy186
                                    refine q_cSi (As := [.int (q_i 0)]) (rest := []) cx hB (fun _ h => h) hN (m_bitCount0 l g hN hB.2.1 0 (by decide) (by decide)) q_cX10_198 q_dJ6_bitCount_0f7a4 (by decide) rfl rfl hl.1 rfl (Nat.le_of_ble_eq_true rfl) dX10_ticksToMostAwake_19 (fun y189 H locs f188 ry189 h190 hF hB => ?_)
                                    obtain ⟨rfl, qy189⟩ := h190
                                    subst qy189
                                    refine lv_istore (lv' := [(4, .int (q_i 0)), (3, .int (q_i ((((((((1 + 1) + 1) + 1) + 1) + 1) + 1) + 1) + 1))), (2, .int (q_i 0)), (1, .int (q_i 1)), (0, .ref v)]) cx.1 cx.2.1 dX10_ticksToMostAwake_22 hl (by decide) rfl (fun ls hl => ?_)
                                    refine lv_iload cx.1 cx.2.1 dX10_ticksToMostAwake_24 (lv_at hl 0 rfl) ?_
                                    refine q_ild_n cx dX10_ticksToMostAwake_26 rfl (lv_at hl 2 rfl) ?_
                                    refine q_icle (tgt := 35) cx ⟨by decide, by decide⟩ ⟨by decide, by decide⟩ dX10_ticksToMostAwake_27 (by decide) (fun c191 => ?_) (fun c191 => ?_)
                                    · refine q_iinc (lv' := [(3, .int (q_i (((((((((1 + 1) + 1) + 1) + 1) + 1) + 1) + 1) + 1) + 1))), (4, .int (q_i 0)), (2, .int (q_i 0)), (1, .int (q_i 1)), (0, .ref v)]) cx dX10_ticksToMostAwake_35 hl (k := 1) rfl (by decide) rfl (fun ls hl => ?_)
                                      refine lv_goto (tgt := 6) cx.1 cx.2.1 dX10_ticksToMostAwake_38 (by decide) ?_
                                      refine q_ild_n cx dX10_ticksToMostAwake_6 rfl (lv_at hl 0 rfl) ?_
                                      refine q_ald_n cx dX10_ticksToMostAwake_7 rfl (lv_at hl 4 rfl) ?_
                                      refine q_gX10_45 cx hB hv kv hf1 dX10_ticksToMostAwake_8 (fun lb192 ub192 => ?_)
                                      refine q_icgt (tgt := 41) cx ⟨by decide, by decide⟩ ⟨by decide, by decide⟩ dX10_ticksToMostAwake_11 (by decide) (fun c193 => ?_) (fun c193 => ?_)
                                      · exact absurd c193 (by omega)
                                      · refine q_ald_n cx dX10_ticksToMostAwake_14 rfl (lv_at hl 4 rfl) ?_
                                        refine q_ild_n cx dX10_ticksToMostAwake_15 rfl (lv_at hl 0 rfl) ?_
                                        refine q_cVi (As := [.int (q_i (((((((((1 + 1) + 1) + 1) + 1) + 1) + 1) + 1) + 1) + 1))]) (rest := []) cx hB (fun _ h => h) hN hv kv (by decide) rfl (m_awakeAfter0 l g hN hB.2.1 v hv kv (((((((((1 + 1) + 1) + 1) + 1) + 1) + 1) + 1) + 1) + 1) (by decide) (by decide) hf0) q_cX10_225 q_dX10_awakeAfter (by decide) rfl rfl hl.1 rfl (Nat.le_of_ble_eq_true rfl) dX10_ticksToMostAwake_16 (fun y195 H locs f194 ry195 h196 hF hB => ?_)
                                        obtain ⟨rfl, qy195⟩ := h196
                                        subst qy195
                                        refine q_cSi (As := [.int (q_i 0)]) (rest := []) cx hB (fun _ h => h) hN (m_bitCount0 l g hN hB.2.1 0 (by decide) (by decide)) q_cX10_198 q_dJ6_bitCount_0f7a4 (by decide) rfl rfl hl.1 rfl (Nat.le_of_ble_eq_true rfl) dX10_ticksToMostAwake_19 (fun y198 H locs f197 ry198 h199 hF hB => ?_)
                                        obtain ⟨rfl, qy198⟩ := h199
                                        subst qy198
                                        refine lv_istore (lv' := [(4, .int (q_i 0)), (3, .int (q_i (((((((((1 + 1) + 1) + 1) + 1) + 1) + 1) + 1) + 1) + 1))), (2, .int (q_i 0)), (1, .int (q_i 1)), (0, .ref v)]) cx.1 cx.2.1 dX10_ticksToMostAwake_22 hl (by decide) rfl (fun ls hl => ?_)
                                        refine lv_iload cx.1 cx.2.1 dX10_ticksToMostAwake_24 (lv_at hl 0 rfl) ?_
                                        refine q_ild_n cx dX10_ticksToMostAwake_26 rfl (lv_at hl 2 rfl) ?_
                                        refine q_icle (tgt := 35) cx ⟨by decide, by decide⟩ ⟨by decide, by decide⟩ dX10_ticksToMostAwake_27 (by decide) (fun c200 => ?_) (fun c200 => ?_)
                                        · refine q_iinc (lv' := [(3, .int (q_i ((((((((((1 + 1) + 1) + 1) + 1) + 1) + 1) + 1) + 1) + 1) + 1))), (4, .int (q_i 0)), (2, .int (q_i 0)), (1, .int (q_i 1)), (0, .ref v)]) cx dX10_ticksToMostAwake_35 hl (k := 1) rfl (by decide) rfl (fun ls hl => ?_)
                                          refine lv_goto (tgt := 6) cx.1 cx.2.1 dX10_ticksToMostAwake_38 (by decide) ?_
                                          refine q_ild_n cx dX10_ticksToMostAwake_6 rfl (lv_at hl 0 rfl) ?_
                                          refine q_ald_n cx dX10_ticksToMostAwake_7 rfl (lv_at hl 4 rfl) ?_
                                          refine q_gX10_45 cx hB hv kv hf1 dX10_ticksToMostAwake_8 (fun lb201 ub201 => ?_)
                                          refine q_icgt (tgt := 41) cx ⟨by decide, by decide⟩ ⟨by decide, by decide⟩ dX10_ticksToMostAwake_11 (by decide) (fun c202 => ?_) (fun c202 => ?_)
                                          · exact absurd c202 (by omega)
                                          · refine q_ald_n cx dX10_ticksToMostAwake_14 rfl (lv_at hl 4 rfl) ?_
                                            refine q_ild_n cx dX10_ticksToMostAwake_15 rfl (lv_at hl 0 rfl) ?_
                                            refine q_cVi (As := [.int (q_i ((((((((((1 + 1) + 1) + 1) + 1) + 1) + 1) + 1) + 1) + 1) + 1))]) (rest := []) cx hB (fun _ h => h) hN hv kv (by decide) rfl (m_awakeAfter0 l g hN hB.2.1 v hv kv ((((((((((1 + 1) + 1) + 1) + 1) + 1) + 1) + 1) + 1) + 1) + 1) (by decide) (by decide) hf0) q_cX10_225 q_dX10_awakeAfter (by decide) rfl rfl hl.1 rfl (Nat.le_of_ble_eq_true rfl) dX10_ticksToMostAwake_16 (fun y204 H locs f203 ry204 h205 hF hB => ?_)
                                            obtain ⟨rfl, qy204⟩ := h205
                                            subst qy204
                                            refine q_cSi (As := [.int (q_i 0)]) (rest := []) cx hB (fun _ h => h) hN (m_bitCount0 l g hN hB.2.1 0 (by decide) (by decide)) q_cX10_198 q_dJ6_bitCount_0f7a4 (by decide) rfl rfl hl.1 rfl (Nat.le_of_ble_eq_true rfl) dX10_ticksToMostAwake_19 (fun y207 H locs f206 ry207 h208 hF hB => ?_)
                                            obtain ⟨rfl, qy207⟩ := h208
                                            subst qy207
                                            refine lv_istore (lv' := [(4, .int (q_i 0)), (3, .int (q_i ((((((((((1 + 1) + 1) + 1) + 1) + 1) + 1) + 1) + 1) + 1) + 1))), (2, .int (q_i 0)), (1, .int (q_i 1)), (0, .ref v)]) cx.1 cx.2.1 dX10_ticksToMostAwake_22 hl (by decide) rfl (fun ls hl => ?_)
                                            refine lv_iload cx.1 cx.2.1 dX10_ticksToMostAwake_24 (lv_at hl 0 rfl) ?_
                                            refine q_ild_n cx dX10_ticksToMostAwake_26 rfl (lv_at hl 2 rfl) ?_
                                            refine q_icle (tgt := 35) cx ⟨by decide, by decide⟩ ⟨by decide, by decide⟩ dX10_ticksToMostAwake_27 (by decide) (fun c209 => ?_) (fun c209 => ?_)
                                            · refine q_iinc (lv' := [(3, .int (q_i (((((((((((1 + 1) + 1) + 1) + 1) + 1) + 1) + 1) + 1) + 1) + 1) + 1))), (4, .int (q_i 0)), (2, .int (q_i 0)), (1, .int (q_i 1)), (0, .ref v)]) cx dX10_ticksToMostAwake_35 hl (k := 1) rfl (by decide) rfl (fun ls hl => ?_)
                                              refine lv_goto (tgt := 6) cx.1 cx.2.1 dX10_ticksToMostAwake_38 (by decide) ?_
                                              refine q_ild_n cx dX10_ticksToMostAwake_6 rfl (lv_at hl 0 rfl) ?_
                                              refine q_ald_n cx dX10_ticksToMostAwake_7 rfl (lv_at hl 4 rfl) ?_
                                              refine q_gX10_45 cx hB hv kv hf1 dX10_ticksToMostAwake_8 (fun lb210 ub210 => ?_)
                                              refine q_icgt (tgt := 41) cx ⟨by decide, by decide⟩ ⟨by decide, by decide⟩ dX10_ticksToMostAwake_11 (by decide) (fun c211 => ?_) (fun c211 => ?_)
                                              · exact absurd c211 (by omega)
                                              · refine q_ald_n cx dX10_ticksToMostAwake_14 rfl (lv_at hl 4 rfl) ?_
                                                refine q_ild_n cx dX10_ticksToMostAwake_15 rfl (lv_at hl 0 rfl) ?_
                                                refine q_cVi (As := [.int (q_i (((((((((((1 + 1) + 1) + 1) + 1) + 1) + 1) + 1) + 1) + 1) + 1) + 1))]) (rest := []) cx hB (fun _ h => h) hN hv kv (by decide) rfl (m_awakeAfter0 l g hN hB.2.1 v hv kv (((((((((((1 + 1) + 1) + 1) + 1) + 1) + 1) + 1) + 1) + 1) + 1) + 1) (by decide) (by decide) hf0) q_cX10_225 q_dX10_awakeAfter (by decide) rfl rfl hl.1 rfl (Nat.le_of_ble_eq_true rfl) dX10_ticksToMostAwake_16 (fun y213 H locs f212 ry213 h214 hF hB => ?_)
                                                obtain ⟨rfl, qy213⟩ := h214
                                                subst qy213
                                                refine q_cSi (As := [.int (q_i 0)]) (rest := []) cx hB (fun _ h => h) hN (m_bitCount0 l g hN hB.2.1 0 (by decide) (by decide)) q_cX10_198 q_dJ6_bitCount_0f7a4 (by decide) rfl rfl hl.1 rfl (Nat.le_of_ble_eq_true rfl) dX10_ticksToMostAwake_19 (fun y216 H locs f215 ry216 h217 hF hB => ?_)
                                                obtain ⟨rfl, qy216⟩ := h217
                                                subst qy216
                                                refine lv_istore (lv' := [(4, .int (q_i 0)), (3, .int (q_i (((((((((((1 + 1) + 1) + 1) + 1) + 1) + 1) + 1) + 1) + 1) + 1) + 1))), (2, .int (q_i 0)), (1, .int (q_i 1)), (0, .ref v)]) cx.1 cx.2.1 dX10_ticksToMostAwake_22 hl (by decide) rfl (fun ls hl => ?_)
                                                refine lv_iload cx.1 cx.2.1 dX10_ticksToMostAwake_24 (lv_at hl 0 rfl) ?_
                                                refine q_ild_n cx dX10_ticksToMostAwake_26 rfl (lv_at hl 2 rfl) ?_
                                                refine q_icle (tgt := 35) cx ⟨by decide, by decide⟩ ⟨by decide, by decide⟩ dX10_ticksToMostAwake_27 (by decide) (fun c218 => ?_) (fun c218 => ?_)
                                                · refine q_iinc (lv' := [(3, .int (q_i ((((((((((((1 + 1) + 1) + 1) + 1) + 1) + 1) + 1) + 1) + 1) + 1) + 1) + 1))), (4, .int (q_i 0)), (2, .int (q_i 0)), (1, .int (q_i 1)), (0, .ref v)]) cx dX10_ticksToMostAwake_35 hl (k := 1) rfl (by decide) rfl (fun ls hl => ?_)
                                                  refine lv_goto (tgt := 6) cx.1 cx.2.1 dX10_ticksToMostAwake_38 (by decide) ?_
                                                  refine q_ild_n cx dX10_ticksToMostAwake_6 rfl (lv_at hl 0 rfl) ?_
                                                  refine q_ald_n cx dX10_ticksToMostAwake_7 rfl (lv_at hl 4 rfl) ?_
                                                  refine q_gX10_45 cx hB hv kv hf1 dX10_ticksToMostAwake_8 (fun lb219 ub219 => ?_)
                                                  refine q_icgt (tgt := 41) cx ⟨by decide, by decide⟩ ⟨by decide, by decide⟩ dX10_ticksToMostAwake_11 (by decide) (fun c220 => ?_) (fun c220 => ?_)
                                                  · refine q_ild_n cx dX10_ticksToMostAwake_41 rfl (lv_at hl 3 rfl) ?_
                                                    refine q_iret cx hr hlk hB dX10_ticksToMostAwake_42 ⟨by decide, by decide⟩ ?_
                                                    exact ⟨rfl, rfl⟩
                                                  · exact absurd c220 (by omega)
                                                · exact absurd c218 (by omega)
                                            · exact absurd c209 (by omega)
                                        · exact absurd c200 (by omega)
                                    · exact absurd c191 (by omega)
                                · exact absurd c182 (by omega)
                            · exact absurd c173 (by omega)
                        · exact absurd c164 (by omega)
                    · exact absurd c155 (by omega)
                · exact absurd c146 (by omega)
            · exact absurd c137 (by omega)
        · exact absurd c128 (by omega)
    · exact absurd c119 (by omega)
set_option maxHeartbeats 4000000 in
set_option maxRecDepth 100000 in
theorem m_widest0 (l : Launch) (g : q_G) {K : Nat → Nat} {L : List Nat} (hN : L.Nodup) {f : Nat → va_E} (hT : q_Ty g K L f) (v : Nat) (hv : v ∈ L) (kv : K v = 10) (hf0 : q_z f v 3 = 0) : q_Ct l g K L yX10_greatestHops cX10_greatestHops 4 (some .int) 0 0 [.ref v] f [] (q_Pi (fun (z : Int) (f1 : Nat → va_E) => f = f1 ∧ z = 0)) := by
  refine q_ofb (by decide +kernel) hN hT (Nat.le_of_ble_eq_true rfl) ?_
  intro p e s m below meth c ls cx hr hlk hB hl
  have hl : lv_has ls 4 [(0, .ref v)] := hl
  obtain ⟨H, hH⟩ : ∃ H : Heap, H = s.heap := ⟨_, rfl⟩
  obtain ⟨locs, hlocs⟩ : ∃ z : List Loc, z = [] := ⟨_, rfl⟩
  rw [← hH, ← hlocs] at hB
  rw [← hH, ← hlocs]
  refine q_iconst cx dX10_greatestHops_0 ?_
  refine lv_istore_n (lv' := [(1, .int (q_i 0)), (0, .ref v)]) cx.1 cx.2.1 dX10_greatestHops_1 rfl hl (by decide) rfl (fun ls hl => ?_)
  refine q_iconst cx dX10_greatestHops_2 ?_
  refine lv_istore_n (lv' := [(2, .int (q_i 0)), (1, .int (q_i 0)), (0, .ref v)]) cx.1 cx.2.1 dX10_greatestHops_3 rfl hl (by decide) rfl (fun ls hl => ?_)
  refine q_ild_n cx dX10_greatestHops_4 rfl (lv_at hl 0 rfl) ?_
  refine q_ald_n cx dX10_greatestHops_5 rfl (lv_at hl 2 rfl) ?_
  refine q_gX10_35 cx hB hv kv hf0 dX10_greatestHops_6 (fun lb3 ub3 => ?_)
  refine q_icge (tgt := 42) cx ⟨by decide, by decide⟩ ⟨by decide, by decide⟩ dX10_greatestHops_9 (by decide) (fun c4 => ?_) (fun c4 => ?_)
  · refine q_ild_n cx dX10_greatestHops_42 rfl (lv_at hl 1 rfl) ?_
    refine q_iret cx hr hlk hB dX10_greatestHops_43 ⟨by decide, by decide⟩ ?_
    exact ⟨rfl, rfl⟩
  · exact absurd c4 (by omega)
set_option maxHeartbeats 4000000 in
set_option maxRecDepth 100000 in
theorem m_isTickCounta (l : Launch) (g : q_G) {K : Nat → Nat} {L : List Nat} (hN : L.Nodup) {f : Nat → va_E} (hT : q_Ty g K L f) (x : Int) (lx : (-2147483648) ≤ x) (ux : x ≤ 0) : q_Ct l g K L yX10_isTickCount cX10_isTickCount 1 (some .boolean) 0 0 [.int (q_i x)] f [] (q_Pi (fun (z : Int) (f1 : Nat → va_E) => f = f1 ∧ z = 0)) := by
  refine q_ofb (by decide +kernel) hN hT (Nat.le_of_ble_eq_true rfl) ?_
  intro p e s m below meth c ls cx hr hlk hB hl
  have hl : lv_has ls 1 [(0, .int (q_i x))] := hl
  obtain ⟨H, hH⟩ : ∃ H : Heap, H = s.heap := ⟨_, rfl⟩
  obtain ⟨locs, hlocs⟩ : ∃ z : List Loc, z = [] := ⟨_, rfl⟩
  rw [← hH, ← hlocs] at hB
  rw [← hH, ← hlocs]
  refine q_ild_n cx dX10_isTickCount_0 rfl (lv_at hl 0 rfl) ?_
  refine q_iconst cx dX10_isTickCount_1 ?_
  refine q_iclt (tgt := 15) cx ⟨by omega, by omega⟩ ⟨by decide, by decide⟩ dX10_isTickCount_2 (by decide) (fun c2 => ?_) (fun c2 => ?_)
  · refine q_iconst cx dX10_isTickCount_15 ?_
    refine q_zret cx hr hlk hB dX10_isTickCount_16 (by decide) (by decide) ?_
    exact ⟨rfl, rfl⟩
  · exact absurd c2 (by omega)
set_option maxHeartbeats 4000000 in
set_option maxRecDepth 100000 in
theorem m_isTickCountb (l : Launch) (g : q_G) {K : Nat → Nat} {L : List Nat} (hN : L.Nodup) {f : Nat → va_E} (hT : q_Ty g K L f) (x : Int) (lx : 1 ≤ x) (ux : x ≤ 99) : q_Ct l g K L yX10_isTickCount cX10_isTickCount 1 (some .boolean) 0 0 [.int (q_i x)] f [] (q_Pi (fun (z : Int) (f1 : Nat → va_E) => f = f1 ∧ z = 1)) := by
  refine q_ofb (by decide +kernel) hN hT (Nat.le_of_ble_eq_true rfl) ?_
  intro p e s m below meth c ls cx hr hlk hB hl
  have hl : lv_has ls 1 [(0, .int (q_i x))] := hl
  obtain ⟨H, hH⟩ : ∃ H : Heap, H = s.heap := ⟨_, rfl⟩
  obtain ⟨locs, hlocs⟩ : ∃ z : List Loc, z = [] := ⟨_, rfl⟩
  rw [← hH, ← hlocs] at hB
  rw [← hH, ← hlocs]
  refine q_ild_n cx dX10_isTickCount_0 rfl (lv_at hl 0 rfl) ?_
  refine q_iconst cx dX10_isTickCount_1 ?_
  refine q_iclt (tgt := 15) cx ⟨by omega, by omega⟩ ⟨by decide, by decide⟩ dX10_isTickCount_2 (by decide) (fun c3 => ?_) (fun c3 => ?_)
  · exact absurd c3 (by omega)
  · refine q_ild_n cx dX10_isTickCount_5 rfl (lv_at hl 0 rfl) ?_
    refine q_bipush cx dX10_isTickCount_6 rfl ?_
    refine q_icgt (tgt := 15) cx ⟨by omega, by omega⟩ ⟨by decide, by decide⟩ dX10_isTickCount_8 (by decide) (fun c4 => ?_) (fun c4 => ?_)
    · exact absurd c4 (by omega)
    · refine q_iconst cx dX10_isTickCount_11 ?_
      refine lv_goto (tgt := 16) cx.1 cx.2.1 dX10_isTickCount_12 (by decide) ?_
      refine q_zret cx hr hlk hB dX10_isTickCount_16 (by decide) (by decide) ?_
      exact ⟨rfl, rfl⟩
set_option maxHeartbeats 4000000 in
set_option maxRecDepth 100000 in
theorem m_isTickCountc (l : Launch) (g : q_G) {K : Nat → Nat} {L : List Nat} (hN : L.Nodup) {f : Nat → va_E} (hT : q_Ty g K L f) (x : Int) (lx : 100 ≤ x) (ux : x ≤ 2147483647) : q_Ct l g K L yX10_isTickCount cX10_isTickCount 1 (some .boolean) 0 0 [.int (q_i x)] f [] (q_Pi (fun (z : Int) (f1 : Nat → va_E) => f = f1 ∧ z = 0)) := by
  refine q_ofb (by decide +kernel) hN hT (Nat.le_of_ble_eq_true rfl) ?_
  intro p e s m below meth c ls cx hr hlk hB hl
  have hl : lv_has ls 1 [(0, .int (q_i x))] := hl
  obtain ⟨H, hH⟩ : ∃ H : Heap, H = s.heap := ⟨_, rfl⟩
  obtain ⟨locs, hlocs⟩ : ∃ z : List Loc, z = [] := ⟨_, rfl⟩
  rw [← hH, ← hlocs] at hB
  rw [← hH, ← hlocs]
  refine q_ild_n cx dX10_isTickCount_0 rfl (lv_at hl 0 rfl) ?_
  refine q_iconst cx dX10_isTickCount_1 ?_
  refine q_iclt (tgt := 15) cx ⟨by omega, by omega⟩ ⟨by decide, by decide⟩ dX10_isTickCount_2 (by decide) (fun c3 => ?_) (fun c3 => ?_)
  · exact absurd c3 (by omega)
  · refine q_ild_n cx dX10_isTickCount_5 rfl (lv_at hl 0 rfl) ?_
    refine q_bipush cx dX10_isTickCount_6 rfl ?_
    refine q_icgt (tgt := 15) cx ⟨by omega, by omega⟩ ⟨by decide, by decide⟩ dX10_isTickCount_8 (by decide) (fun c4 => ?_) (fun c4 => ?_)
    · refine q_iconst cx dX10_isTickCount_15 ?_
      refine q_zret cx hr hlk hB dX10_isTickCount_16 (by decide) (by decide) ?_
      exact ⟨rfl, rfl⟩
    · exact absurd c4 (by omega)
set_option maxHeartbeats 4000000 in
set_option maxRecDepth 100000 in
theorem m_hasTimeFor0 (l : Launch) (g : q_G) {K : Nat → Nat} {L : List Nat} (hN : L.Nodup) {f : Nat → va_E} (hT : q_Ty g K L f) (v : Nat) (hv : v ∈ L) (kv : K v = 10) (x : Int) (lx : 1 ≤ x) (ux : x ≤ 99) (hf0 : q_z f v 11 = 0) : q_Ct l g K L yX10_hasTimeFor cX10_hasTimeFor 2 (some .boolean) 0 0 [.ref v, .int (q_i x)] f [] (q_Pi (fun (z : Int) (f1 : Nat → va_E) => f = f1 ∧ z = 1)) := by
  refine q_ofb (by decide +kernel) hN hT (Nat.le_of_ble_eq_true rfl) ?_
  intro p e s m below meth c ls cx hr hlk hB hl
  have hl : lv_has ls 2 [(0, .ref v), (1, .int (q_i x))] := hl
  obtain ⟨H, hH⟩ : ∃ H : Heap, H = s.heap := ⟨_, rfl⟩
  obtain ⟨locs, hlocs⟩ : ∃ z : List Loc, z = [] := ⟨_, rfl⟩
  rw [← hH, ← hlocs] at hB
  rw [← hH, ← hlocs]
  refine q_ald_n cx dX10_hasTimeFor_0 rfl (lv_at hl 0 rfl) ?_
  refine q_gX10_60 cx hB hv kv hf0 dX10_hasTimeFor_1 (fun lb3 ub3 => ?_)
  refine q_ild_n cx dX10_hasTimeFor_4 rfl (lv_at hl 1 rfl) ?_
  refine q_iadd cx dX10_hasTimeFor_5 ?_
  refine q_sipush cx dX10_hasTimeFor_6 rfl ?_
  refine q_icgt (tgt := 16) cx ⟨by omega, by omega⟩ ⟨by decide, by decide⟩ dX10_hasTimeFor_9 (by decide) (fun c4 => ?_) (fun c4 => ?_)
  · exact absurd c4 (by omega)
  · refine q_iconst cx dX10_hasTimeFor_12 ?_
    refine lv_goto (tgt := 17) cx.1 cx.2.1 dX10_hasTimeFor_13 (by decide) ?_
    refine q_zret cx hr hlk hB dX10_hasTimeFor_17 (by decide) (by decide) ?_
    exact ⟨rfl, rfl⟩
set_option maxHeartbeats 4000000 in
set_option maxRecDepth 100000 in
theorem m_wakeNodes0 (l : Launch) (g : q_G) {K : Nat → Nat} {L : List Nat} (hN : L.Nodup) {f : Nat → va_E} (hT : q_Ty g K L f) (v : Nat) (hv : v ∈ L) (kv : K v = 10) (hf0 : q_z f v 3 = 0) : q_Ct l g K L yX10_wakeNodes cX10_wakeNodes 3 none 0 0 [.ref v] f [(10, 13, 13)] (q_Pv (fun (f1 : Nat → va_E) => True)) := by
  refine q_ofb (by decide +kernel) hN hT (Nat.le_of_ble_eq_true rfl) ?_
  intro p e s m below meth c ls cx hr hlk hB hl
  have hl : lv_has ls 3 [(0, .ref v)] := hl
  obtain ⟨H, hH⟩ : ∃ H : Heap, H = s.heap := ⟨_, rfl⟩
  obtain ⟨locs, hlocs⟩ : ∃ z : List Loc, z = [] := ⟨_, rfl⟩
  rw [← hH, ← hlocs] at hB
  rw [← hH, ← hlocs]
  refine q_ald_n cx dX10_wakeNodes_0 rfl (lv_at hl 0 rfl) ?_
  refine q_iconst cx dX10_wakeNodes_1 ?_
  refine q_pX10_262 cx hB hv kv ⟨by decide, by decide⟩ (by decide) (by decide) rfl dX10_wakeNodes_2 (fun H locs f6 ef6 z7 hB => ?_)
  have z8 : q_z f6 v 3 = 0 := by rw [ef6, q_setz (Or.inr (by decide))]; exact hf0
  refine q_iconst cx dX10_wakeNodes_5 ?_
  refine lv_istore_n (lv' := [(1, .int (q_i 0)), (0, .ref v)]) cx.1 cx.2.1 dX10_wakeNodes_6 rfl hl (by decide) rfl (fun ls hl => ?_)
  refine q_ild_n cx dX10_wakeNodes_7 rfl (lv_at hl 0 rfl) ?_
  refine q_ald_n cx dX10_wakeNodes_8 rfl (lv_at hl 1 rfl) ?_
  refine q_gX10_35 cx hB hv kv z8 dX10_wakeNodes_9 (fun lb9 ub9 => ?_)
  refine q_icge (tgt := 90) cx ⟨by decide, by decide⟩ ⟨by decide, by decide⟩ dX10_wakeNodes_12 (by decide) (fun c10 => ?_) (fun c10 => ?_)
  · refine q_vret cx hr hlk hB dX10_wakeNodes_90 ?_
    trivial
  · exact absurd c10 (by omega)
set_option maxHeartbeats 4000000 in
set_option maxRecDepth 100000 in
theorem m_passMessages0 (l : Launch) (g : q_G) {K : Nat → Nat} {L : List Nat} (hN : L.Nodup) {f : Nat → va_E} (hT : q_Ty g K L f) (v : Nat) (hv : v ∈ L) (kv : K v = 10) (x : Int) (lx : 0 ≤ x) (ux : x ≤ 1) (hf0 : q_z f v 5 = 0) : q_Ct l g K L yX10_passMessages cX10_passMessages 5 (some .int) 0 0 [.ref v, .int (q_i x)] f [] (q_Pi (fun (z : Int) (f1 : Nat → va_E) => f = f1 ∧ z = 0)) := by
  refine q_ofb (by decide +kernel) hN hT (Nat.le_of_ble_eq_true rfl) ?_
  intro p e s m below meth c ls cx hr hlk hB hl
  have hl : lv_has ls 5 [(0, .ref v), (1, .int (q_i x))] := hl
  obtain ⟨H, hH⟩ : ∃ H : Heap, H = s.heap := ⟨_, rfl⟩
  obtain ⟨locs, hlocs⟩ : ∃ z : List Loc, z = [] := ⟨_, rfl⟩
  rw [← hH, ← hlocs] at hB
  rw [← hH, ← hlocs]
  refine q_iconst cx dX10_passMessages_0 ?_
  refine lv_istore_n (lv' := [(2, .int (q_i 0)), (0, .ref v), (1, .int (q_i x))]) cx.1 cx.2.1 dX10_passMessages_1 rfl hl (by decide) rfl (fun ls hl => ?_)
  refine q_iconst cx dX10_passMessages_2 ?_
  refine lv_istore_n (lv' := [(3, .int (q_i 0)), (2, .int (q_i 0)), (0, .ref v), (1, .int (q_i x))]) cx.1 cx.2.1 dX10_passMessages_3 rfl hl (by decide) rfl (fun ls hl => ?_)
  refine q_ild_n cx dX10_passMessages_4 rfl (lv_at hl 0 rfl) ?_
  refine q_ald_n cx dX10_passMessages_5 rfl (lv_at hl 2 rfl) ?_
  refine q_gX10_42 cx hB hv kv hf0 dX10_passMessages_6 (fun lb3 ub3 => ?_)
  refine q_icge (tgt := 65) cx ⟨by decide, by decide⟩ ⟨by decide, by decide⟩ dX10_passMessages_9 (by decide) (fun c4 => ?_) (fun c4 => ?_)
  · refine q_ild_n cx dX10_passMessages_65 rfl (lv_at hl 1 rfl) ?_
    refine q_iret cx hr hlk hB dX10_passMessages_66 ⟨by decide, by decide⟩ ?_
    exact ⟨rfl, rfl⟩
  · exact absurd c4 (by omega)
set_option maxHeartbeats 4000000 in
set_option maxRecDepth 100000 in
theorem m_loseMessages0 (l : Launch) (g : q_G) {K : Nat → Nat} {L : List Nat} (hN : L.Nodup) {f : Nat → va_E} (hT : q_Ty g K L f) (v : Nat) (hv : v ∈ L) (kv : K v = 10) (hf0 : q_z f v 5 = 0) : q_Ct l g K L yX10_loseMessages cX10_loseMessages 3 none 0 0 [.ref v] f [] (q_Pv (fun (f1 : Nat → va_E) => f = f1)) := by
  refine q_ofb (by decide +kernel) hN hT (Nat.le_of_ble_eq_true rfl) ?_
  intro p e s m below meth c ls cx hr hlk hB hl
  have hl : lv_has ls 3 [(0, .ref v)] := hl
  obtain ⟨H, hH⟩ : ∃ H : Heap, H = s.heap := ⟨_, rfl⟩
  obtain ⟨locs, hlocs⟩ : ∃ z : List Loc, z = [] := ⟨_, rfl⟩
  rw [← hH, ← hlocs] at hB
  rw [← hH, ← hlocs]
  refine q_iconst cx dX10_loseMessages_0 ?_
  refine lv_istore_n (lv' := [(1, .int (q_i 0)), (0, .ref v)]) cx.1 cx.2.1 dX10_loseMessages_1 rfl hl (by decide) rfl (fun ls hl => ?_)
  refine q_ild_n cx dX10_loseMessages_2 rfl (lv_at hl 0 rfl) ?_
  refine q_ald_n cx dX10_loseMessages_3 rfl (lv_at hl 1 rfl) ?_
  refine q_gX10_42 cx hB hv kv hf0 dX10_loseMessages_4 (fun lb3 ub3 => ?_)
  refine q_icge (tgt := 45) cx ⟨by decide, by decide⟩ ⟨by decide, by decide⟩ dX10_loseMessages_7 (by decide) (fun c4 => ?_) (fun c4 => ?_)
  · refine q_vret cx hr hlk hB dX10_loseMessages_45 ?_
    exact rfl
  · exact absurd c4 (by omega)
set_option maxHeartbeats 4000000 in
set_option maxRecDepth 100000 in
theorem m_passTicks0 (l : Launch) (g : q_G) {K : Nat → Nat} {L : List Nat} (hN : L.Nodup) {f : Nat → va_E} (hT : q_Ty g K L f) (v : Nat) (hv : v ∈ L) (kv : K v = 10) (x : Int) (lx : (-2147483648) ≤ x) (ux : x ≤ 2147483647) (hf0 : q_z f v 3 = 0) (hf1 : q_z f v 4 = 0) (hf2 : q_z f v 5 = 0) : q_Ct l g K L yX10_passTicks cX10_passTicks 5 (some .int) 1 24 [.ref v, .int (q_i x)] f [(10, 11, 11), (10, 13, 15)] (q_Pi (fun (z : Int) (f1 : Nat → va_E) => z = 0)) := by
  refine q_ofb (by decide +kernel) hN hT (Nat.le_of_ble_eq_true rfl) ?_
  intro p e s m below meth c ls cx hr hlk hB hl
  have hl : lv_has ls 5 [(0, .ref v), (1, .int (q_i x))] := hl
  have J4 : ∀ (n : Nat) (f4 : Nat → va_E) (v4_1 : Int) (lv4_1 : (-2147483648) ≤ v4_1) (uv4_1 : v4_1 ≤ 2147483647) (v4_2 : Int) (lv4_2 : 0 ≤ v4_2) (uv4_2 : v4_2 ≤ 0) (v4_3 : Int) (lv4_3 : 0 ≤ v4_3) (uv4_3 : v4_3 ≤ 2147483647) (w4_v_3 : Int) (lw4_v_3 : 0 ≤ w4_v_3) (uw4_v_3 : w4_v_3 ≤ 0) (w4_v_4 : Int) (lw4_v_4 : 0 ≤ w4_v_4) (uw4_v_4 : w4_v_4 ≤ 0) (w4_v_5 : Int) (lw4_v_5 : 0 ≤ w4_v_5) (uw4_v_5 : w4_v_5 ≤ 0) (hj_v_3 : q_z f4 v 3 = w4_v_3) (hj_v_4 : q_z f4 v 4 = w4_v_4) (hj_v_5 : q_z f4 v 5 = w4_v_5) (hmu : (Int.toNat (2147483647 - v4_3)) < n) (H : Heap) (locs : List Loc) (hB : q_B g K L (fun q => q ∈ L) [(10, 11, 11), (10, 13, 15)] f f4 s H locs) (ls : Array Slot) (hl : lv_has ls 5 [(0, .ref v), (1, .int (q_i v4_1)), (2, .int (q_i v4_2)), (3, .int (q_i v4_3))]), W p l e { frames := 1, cells := 0, slots := 0, locals := 24 } s m ([.ref v, .int (q_i x)] : List Value).toArray below meth c H locs 0 0 (MQ below (q_Q g K L [(10, 11, 11), (10, 13, 15)] f (q_Pi (fun (z : Int) (f1 : Nat → va_E) => z = 0))) ([.ref v, .int (q_i x)] : List Value).toArray s 0 0 (fun q => q ∈ L)) (F0 m 4 ls []) := by
    intro n
    induction n with
    | zero =>
      intro f4 v4_1 lv4_1 uv4_1 v4_2 lv4_2 uv4_2 v4_3 lv4_3 uv4_3 w4_v_3 lw4_v_3 uw4_v_3 w4_v_4 lw4_v_4 uw4_v_4 w4_v_5 lw4_v_5 uw4_v_5 hj_v_3 hj_v_4 hj_v_5 hmu
      exact absurd hmu (Nat.not_lt_zero _)
    | succ n ih4 =>
      intro f4 v4_1 lv4_1 uv4_1 v4_2 lv4_2 uv4_2 v4_3 lv4_3 uv4_3 w4_v_3 lw4_v_3 uw4_v_3 w4_v_4 lw4_v_4 uw4_v_4 w4_v_5 lw4_v_5 uw4_v_5 hj_v_3 hj_v_4 hj_v_5 hmu H locs hB ls hl
      refine q_ild_n cx dX10_passTicks_4 rfl (lv_at hl 3 rfl) ?_
      refine q_ild_n cx dX10_passTicks_5 rfl (lv_at hl 1 rfl) ?_
      refine q_icge (tgt := 85) cx ⟨by omega, by omega⟩ ⟨by omega, by omega⟩ dX10_passTicks_6 (by decide) (fun c1261 => ?_) (fun c1261 => ?_)
      · refine q_ild_n cx dX10_passTicks_85 rfl (lv_at hl 2 rfl) ?_
        refine q_iret cx hr hlk hB dX10_passTicks_86 ⟨by omega, by omega⟩ ?_
        exact (by omega)
      · refine q_ald_n cx dX10_passTicks_9 rfl (lv_at hl 0 rfl) ?_
        refine lv_dup cx.1 cx.2.1 dX10_passTicks_10 rfl ?_
        obtain ⟨x1262, ex1262⟩ : ∃ zz, q_z f4 v 11 = zz := ⟨_, rfl⟩
        refine q_gX10_60 cx hB hv kv ex1262 dX10_passTicks_11 (fun lb1263 ub1263 => ?_)
        refine q_iconst cx dX10_passTicks_14 ?_
        refine q_iadd cx dX10_passTicks_15 ?_
        refine q_any (fun y1264 ry1264 ey1264 => ?_)
        refine q_pX10_60 cx hB hv kv ⟨by omega, by omega⟩ (by omega) (by omega) rfl dX10_passTicks_16 (fun H locs f1265 ef1265 z1266 hB => ?_)
        have z1267 : q_z f1265 v 3 = w4_v_3 := by rw [ef1265, q_setz (Or.inr (by decide))]; exact hj_v_3
        have z1268 : q_z f1265 v 4 = w4_v_4 := by rw [ef1265, q_setz (Or.inr (by decide))]; exact hj_v_4
        have z1269 : q_z f1265 v 5 = w4_v_5 := by rw [ef1265, q_setz (Or.inr (by decide))]; exact hj_v_5
        refine q_ald_n cx dX10_passTicks_19 rfl (lv_at hl 0 rfl) ?_
        refine q_cVv (As := []) (rest := []) cx hB (fun _ h => h) hN hv kv (by decide) rfl (m_wakeNodes0 l g hN hB.2.1 v hv kv (by omega)) q_cX10_243 q_dX10_wakeNodes (by decide) rfl rfl hl.1 rfl (Nat.le_of_ble_eq_true rfl) dX10_passTicks_20 (fun H locs f1270 h1272 hF hB => ?_)
        have z1273 : q_z f1270 v 3 = w4_v_3 := (hF.z hv (by rw [kv]; rfl)).trans z1267
        have z1274 : q_z f1270 v 4 = w4_v_4 := (hF.z hv (by rw [kv]; rfl)).trans z1268
        have z1275 : q_z f1270 v 5 = w4_v_5 := (hF.z hv (by rw [kv]; rfl)).trans z1269
        refine q_iconst cx dX10_passTicks_23 ?_
        refine lv_istore (lv' := [(4, .int (q_i 0)), (0, .ref v), (1, .int (q_i v4_1)), (2, .int (q_i v4_2)), (3, .int (q_i v4_3))]) cx.1 cx.2.1 dX10_passTicks_24 hl (by decide) rfl (fun ls hl => ?_)
        refine lv_iload cx.1 cx.2.1 dX10_passTicks_26 (lv_at hl 0 rfl) ?_
        refine q_ald_n cx dX10_passTicks_28 rfl (lv_at hl 1 rfl) ?_
        refine q_gX10_39 cx hB hv kv z1274 dX10_passTicks_29 (fun lb1276 ub1276 => ?_)
        refine q_icge (tgt := 51) cx ⟨by decide, by decide⟩ ⟨by omega, by omega⟩ dX10_passTicks_32 (by decide) (fun c1277 => ?_) (fun c1277 => ?_)
        · refine q_ald_n cx dX10_passTicks_51 rfl (lv_at hl 1 rfl) ?_
          refine q_iconst cx dX10_passTicks_52 ?_
          refine q_pX10_249 cx hB hv kv ⟨by decide, by decide⟩ (by decide) (by decide) rfl dX10_passTicks_53 (fun H locs f1278 ef1278 z1279 hB => ?_)
          have z1280 : q_z f1278 v 3 = w4_v_3 := by rw [ef1278, q_setz (Or.inr (by decide))]; exact z1273
          have z1281 : q_z f1278 v 4 = w4_v_4 := by rw [ef1278, q_setz (Or.inr (by decide))]; exact z1274
          have z1282 : q_z f1278 v 5 = w4_v_5 := by rw [ef1278, q_setz (Or.inr (by decide))]; exact z1275
          refine q_ald_n cx dX10_passTicks_56 rfl (lv_at hl 1 rfl) ?_
          refine q_iconst cx dX10_passTicks_57 ?_
          refine q_pX10_252 cx hB hv kv ⟨by decide, by decide⟩ (by decide) (by decide) rfl dX10_passTicks_58 (fun H locs f1283 ef1283 z1284 hB => ?_)
          have z1285 : q_z f1283 v 3 = w4_v_3 := by rw [ef1283, q_setz (Or.inr (by decide))]; exact z1280
          have z1286 : q_z f1283 v 4 = w4_v_4 := by rw [ef1283, q_setz (Or.inr (by decide))]; exact z1281
          have z1287 : q_z f1283 v 5 = w4_v_5 := by rw [ef1283, q_setz (Or.inr (by decide))]; exact z1282
          refine q_ild_n cx dX10_passTicks_61 rfl (lv_at hl 3 rfl) ?_
          refine q_ald_n cx dX10_passTicks_62 rfl (lv_at hl 1 rfl) ?_
          refine q_iconst cx dX10_passTicks_63 ?_
          refine q_cVi (As := [.int (q_i 1)]) (rest := [.int (q_i v4_2)]) cx hB (fun _ h => h) hN hv kv (by decide) rfl (m_passMessages0 l g hN hB.2.1 v hv kv 1 (by decide) (by decide) (by omega)) q_cX10_255 q_dX10_passMessages (by decide) rfl rfl hl.1 rfl (Nat.le_of_ble_eq_true rfl) dX10_passTicks_64 (fun y1289 H locs f1288 ry1289 h1290 hF hB => ?_)
          obtain ⟨rfl, qy1289⟩ := h1290
          subst qy1289
          refine q_ald_n cx dX10_passTicks_67 rfl (lv_at hl 1 rfl) ?_
          refine q_iconst cx dX10_passTicks_68 ?_
          refine q_cVi (As := [.int (q_i 0)]) (rest := [.int (q_i 0), .int (q_i v4_2)]) cx hB (fun _ h => h) hN hv kv (by decide) rfl (m_passMessages0 l g hN hB.2.1 v hv kv 0 (by decide) (by decide) (by omega)) q_cX10_255 q_dX10_passMessages (by decide) rfl rfl hl.1 rfl (Nat.le_of_ble_eq_true rfl) dX10_passTicks_69 (fun y1292 H locs f1291 ry1292 h1293 hF hB => ?_)
          obtain ⟨rfl, qy1292⟩ := h1293
          subst qy1292
          refine q_iadd cx dX10_passTicks_72 ?_
          refine q_iadd cx dX10_passTicks_73 ?_
          refine lv_istore_n (lv' := [(2, .int (q_i (v4_2 + (0 + 0)))), (4, .int (q_i 0)), (0, .ref v), (1, .int (q_i v4_1)), (3, .int (q_i v4_3))]) cx.1 cx.2.1 dX10_passTicks_74 rfl hl (by decide) rfl (fun ls hl => ?_)
          refine q_ald_n cx dX10_passTicks_75 rfl (lv_at hl 2 rfl) ?_
          refine q_cVv (As := []) (rest := []) cx hB (fun _ h => h) hN hv kv (by decide) rfl (m_loseMessages0 l g hN hB.2.1 v hv kv (by omega)) q_cX10_259 q_dX10_loseMessages (by decide) rfl rfl hl.1 rfl (Nat.le_of_ble_eq_true rfl) dX10_passTicks_76 (fun H locs f1294 h1296 hF hB => ?_)
          obtain rfl := h1296
          refine q_iinc (lv' := [(3, .int (q_i (v4_3 + 1))), (2, .int (q_i (v4_2 + (0 + 0)))), (4, .int (q_i 0)), (0, .ref v), (1, .int (q_i v4_1))]) cx dX10_passTicks_79 hl (k := 4) rfl (by decide) rfl (fun ls hl => ?_)
          refine lv_goto (tgt := 4) cx.1 cx.2.1 dX10_passTicks_82 (by decide) ?_
          exact ih4 f1283 v4_1 (by omega) (by omega) (v4_2 + (0 + 0)) (by omega) (by omega) (v4_3 + 1) (by omega) (by omega) w4_v_3 (by omega) (by omega) w4_v_4 (by omega) (by omega) w4_v_5 (by omega) (by omega) z1285 z1286 z1287 (by omega) H locs hB ls (lv_sub hl [3, 4, 1, 0] rfl)
        · exact absurd c1277 (by omega)
  obtain ⟨H, hH⟩ : ∃ H : Heap, H = s.heap := ⟨_, rfl⟩
  obtain ⟨locs, hlocs⟩ : ∃ z : List Loc, z = [] := ⟨_, rfl⟩
  rw [← hH, ← hlocs] at hB
  rw [← hH, ← hlocs]
  refine q_iconst cx dX10_passTicks_0 ?_
  refine lv_istore_n (lv' := [(2, .int (q_i 0)), (0, .ref v), (1, .int (q_i x))]) cx.1 cx.2.1 dX10_passTicks_1 rfl hl (by decide) rfl (fun ls hl => ?_)
  refine q_iconst cx dX10_passTicks_2 ?_
  refine lv_istore_n (lv' := [(3, .int (q_i 0)), (2, .int (q_i 0)), (0, .ref v), (1, .int (q_i x))]) cx.1 cx.2.1 dX10_passTicks_3 rfl hl (by decide) rfl (fun ls hl => ?_)
  exact J4 ((Int.toNat (2147483647 - 0)) + 1) f x (by omega) (by omega) 0 (by decide) (by decide) 0 (by decide) (by decide) 0 (by decide) (by decide) 0 (by decide) (by decide) 0 (by decide) (by decide) hf0 hf1 hf2 (Nat.lt_succ_self _) H locs hB ls (lv_sub hl [2, 3, 1, 0] rfl)
set_option maxHeartbeats 4000000 in
set_option maxRecDepth 100000 in
theorem m_wakeNodes0_3 (l : Launch) (g : q_G) {K : Nat → Nat} {L : List Nat} (hN : L.Nodup) {f : Nat → va_E} (hT : q_Ty g K L f) (v : Nat) (hv : v ∈ L) (kv : K v = 15) (hf0 : q_z f v 3 = 0) : q_Ct l g K L yX10_wakeNodes cX10_wakeNodes 3 none 0 0 [.ref v] f [(15, 13, 13)] (q_Pv (fun (f1 : Nat → va_E) => True)) := by
  refine q_ofb (by decide +kernel) hN hT (Nat.le_of_ble_eq_true rfl) ?_
  intro p e s m below meth c ls cx hr hlk hB hl
  have hl : lv_has ls 3 [(0, .ref v)] := hl
  obtain ⟨H, hH⟩ : ∃ H : Heap, H = s.heap := ⟨_, rfl⟩
  obtain ⟨locs, hlocs⟩ : ∃ z : List Loc, z = [] := ⟨_, rfl⟩
  rw [← hH, ← hlocs] at hB
  rw [← hH, ← hlocs]
  refine q_ald_n cx dX10_wakeNodes_0 rfl (lv_at hl 0 rfl) ?_
  refine q_iconst cx dX10_wakeNodes_1 ?_
  refine q_pX10_262_15 cx hB hv kv ⟨by decide, by decide⟩ (by decide) (by decide) rfl dX10_wakeNodes_2 (fun H locs f6 ef6 z7 hB => ?_)
  have z8 : q_z f6 v 3 = 0 := by rw [ef6, q_setz (Or.inr (by decide))]; exact hf0
  refine q_iconst cx dX10_wakeNodes_5 ?_
  refine lv_istore_n (lv' := [(1, .int (q_i 0)), (0, .ref v)]) cx.1 cx.2.1 dX10_wakeNodes_6 rfl hl (by decide) rfl (fun ls hl => ?_)
  refine q_ild_n cx dX10_wakeNodes_7 rfl (lv_at hl 0 rfl) ?_
  refine q_ald_n cx dX10_wakeNodes_8 rfl (lv_at hl 1 rfl) ?_
  refine q_gX10_35_15 cx hB hv kv z8 dX10_wakeNodes_9 (fun lb9 ub9 => ?_)
  refine q_icge (tgt := 90) cx ⟨by decide, by decide⟩ ⟨by decide, by decide⟩ dX10_wakeNodes_12 (by decide) (fun c10 => ?_) (fun c10 => ?_)
  · refine q_vret cx hr hlk hB dX10_wakeNodes_90 ?_
    trivial
  · exact absurd c10 (by omega)
set_option maxHeartbeats 4000000 in
set_option maxRecDepth 100000 in
theorem m_passMessages0_3 (l : Launch) (g : q_G) {K : Nat → Nat} {L : List Nat} (hN : L.Nodup) {f : Nat → va_E} (hT : q_Ty g K L f) (v : Nat) (hv : v ∈ L) (kv : K v = 15) (x : Int) (lx : 0 ≤ x) (ux : x ≤ 1) (hf0 : q_z f v 5 = 0) : q_Ct l g K L yX10_passMessages cX10_passMessages 5 (some .int) 0 0 [.ref v, .int (q_i x)] f [] (q_Pi (fun (z : Int) (f1 : Nat → va_E) => f = f1 ∧ z = 0)) := by
  refine q_ofb (by decide +kernel) hN hT (Nat.le_of_ble_eq_true rfl) ?_
  intro p e s m below meth c ls cx hr hlk hB hl
  have hl : lv_has ls 5 [(0, .ref v), (1, .int (q_i x))] := hl
  obtain ⟨H, hH⟩ : ∃ H : Heap, H = s.heap := ⟨_, rfl⟩
  obtain ⟨locs, hlocs⟩ : ∃ z : List Loc, z = [] := ⟨_, rfl⟩
  rw [← hH, ← hlocs] at hB
  rw [← hH, ← hlocs]
  refine q_iconst cx dX10_passMessages_0 ?_
  refine lv_istore_n (lv' := [(2, .int (q_i 0)), (0, .ref v), (1, .int (q_i x))]) cx.1 cx.2.1 dX10_passMessages_1 rfl hl (by decide) rfl (fun ls hl => ?_)
  refine q_iconst cx dX10_passMessages_2 ?_
  refine lv_istore_n (lv' := [(3, .int (q_i 0)), (2, .int (q_i 0)), (0, .ref v), (1, .int (q_i x))]) cx.1 cx.2.1 dX10_passMessages_3 rfl hl (by decide) rfl (fun ls hl => ?_)
  refine q_ild_n cx dX10_passMessages_4 rfl (lv_at hl 0 rfl) ?_
  refine q_ald_n cx dX10_passMessages_5 rfl (lv_at hl 2 rfl) ?_
  refine q_gX10_42_15 cx hB hv kv hf0 dX10_passMessages_6 (fun lb3 ub3 => ?_)
  refine q_icge (tgt := 65) cx ⟨by decide, by decide⟩ ⟨by decide, by decide⟩ dX10_passMessages_9 (by decide) (fun c4 => ?_) (fun c4 => ?_)
  · refine q_ild_n cx dX10_passMessages_65 rfl (lv_at hl 1 rfl) ?_
    refine q_iret cx hr hlk hB dX10_passMessages_66 ⟨by decide, by decide⟩ ?_
    exact ⟨rfl, rfl⟩
  · exact absurd c4 (by omega)
set_option maxHeartbeats 4000000 in
set_option maxRecDepth 100000 in
theorem m_loseMessages0_3 (l : Launch) (g : q_G) {K : Nat → Nat} {L : List Nat} (hN : L.Nodup) {f : Nat → va_E} (hT : q_Ty g K L f) (v : Nat) (hv : v ∈ L) (kv : K v = 15) (hf0 : q_z f v 5 = 0) : q_Ct l g K L yX10_loseMessages cX10_loseMessages 3 none 0 0 [.ref v] f [] (q_Pv (fun (f1 : Nat → va_E) => f = f1)) := by
  refine q_ofb (by decide +kernel) hN hT (Nat.le_of_ble_eq_true rfl) ?_
  intro p e s m below meth c ls cx hr hlk hB hl
  have hl : lv_has ls 3 [(0, .ref v)] := hl
  obtain ⟨H, hH⟩ : ∃ H : Heap, H = s.heap := ⟨_, rfl⟩
  obtain ⟨locs, hlocs⟩ : ∃ z : List Loc, z = [] := ⟨_, rfl⟩
  rw [← hH, ← hlocs] at hB
  rw [← hH, ← hlocs]
  refine q_iconst cx dX10_loseMessages_0 ?_
  refine lv_istore_n (lv' := [(1, .int (q_i 0)), (0, .ref v)]) cx.1 cx.2.1 dX10_loseMessages_1 rfl hl (by decide) rfl (fun ls hl => ?_)
  refine q_ild_n cx dX10_loseMessages_2 rfl (lv_at hl 0 rfl) ?_
  refine q_ald_n cx dX10_loseMessages_3 rfl (lv_at hl 1 rfl) ?_
  refine q_gX10_42_15 cx hB hv kv hf0 dX10_loseMessages_4 (fun lb3 ub3 => ?_)
  refine q_icge (tgt := 45) cx ⟨by decide, by decide⟩ ⟨by decide, by decide⟩ dX10_loseMessages_7 (by decide) (fun c4 => ?_) (fun c4 => ?_)
  · refine q_vret cx hr hlk hB dX10_loseMessages_45 ?_
    exact rfl
  · exact absurd c4 (by omega)
set_option maxHeartbeats 4000000 in
set_option maxRecDepth 100000 in
theorem m_passTicks0_3 (l : Launch) (g : q_G) {K : Nat → Nat} {L : List Nat} (hN : L.Nodup) {f : Nat → va_E} (hT : q_Ty g K L f) (v : Nat) (hv : v ∈ L) (kv : K v = 15) (x : Int) (lx : (-2147483648) ≤ x) (ux : x ≤ 2147483647) (hf0 : q_z f v 3 = 0) (hf1 : q_z f v 4 = 0) (hf2 : q_z f v 5 = 0) : q_Ct l g K L yX10_passTicks cX10_passTicks 5 (some .int) 1 24 [.ref v, .int (q_i x)] f [(15, 11, 11), (15, 13, 15)] (q_Pi (fun (z : Int) (f1 : Nat → va_E) => z = 0)) := by
  refine q_ofb (by decide +kernel) hN hT (Nat.le_of_ble_eq_true rfl) ?_
  intro p e s m below meth c ls cx hr hlk hB hl
  have hl : lv_has ls 5 [(0, .ref v), (1, .int (q_i x))] := hl
  have J4 : ∀ (n : Nat) (f4 : Nat → va_E) (v4_1 : Int) (lv4_1 : (-2147483648) ≤ v4_1) (uv4_1 : v4_1 ≤ 2147483647) (v4_2 : Int) (lv4_2 : 0 ≤ v4_2) (uv4_2 : v4_2 ≤ 0) (v4_3 : Int) (lv4_3 : 0 ≤ v4_3) (uv4_3 : v4_3 ≤ 2147483647) (w4_v_3 : Int) (lw4_v_3 : 0 ≤ w4_v_3) (uw4_v_3 : w4_v_3 ≤ 0) (w4_v_4 : Int) (lw4_v_4 : 0 ≤ w4_v_4) (uw4_v_4 : w4_v_4 ≤ 0) (w4_v_5 : Int) (lw4_v_5 : 0 ≤ w4_v_5) (uw4_v_5 : w4_v_5 ≤ 0) (hj_v_3 : q_z f4 v 3 = w4_v_3) (hj_v_4 : q_z f4 v 4 = w4_v_4) (hj_v_5 : q_z f4 v 5 = w4_v_5) (hmu : (Int.toNat (2147483647 - v4_3)) < n) (H : Heap) (locs : List Loc) (hB : q_B g K L (fun q => q ∈ L) [(15, 11, 11), (15, 13, 15)] f f4 s H locs) (ls : Array Slot) (hl : lv_has ls 5 [(0, .ref v), (1, .int (q_i v4_1)), (2, .int (q_i v4_2)), (3, .int (q_i v4_3))]), W p l e { frames := 1, cells := 0, slots := 0, locals := 24 } s m ([.ref v, .int (q_i x)] : List Value).toArray below meth c H locs 0 0 (MQ below (q_Q g K L [(15, 11, 11), (15, 13, 15)] f (q_Pi (fun (z : Int) (f1 : Nat → va_E) => z = 0))) ([.ref v, .int (q_i x)] : List Value).toArray s 0 0 (fun q => q ∈ L)) (F0 m 4 ls []) := by
    intro n
    induction n with
    | zero =>
      intro f4 v4_1 lv4_1 uv4_1 v4_2 lv4_2 uv4_2 v4_3 lv4_3 uv4_3 w4_v_3 lw4_v_3 uw4_v_3 w4_v_4 lw4_v_4 uw4_v_4 w4_v_5 lw4_v_5 uw4_v_5 hj_v_3 hj_v_4 hj_v_5 hmu
      exact absurd hmu (Nat.not_lt_zero _)
    | succ n ih4 =>
      intro f4 v4_1 lv4_1 uv4_1 v4_2 lv4_2 uv4_2 v4_3 lv4_3 uv4_3 w4_v_3 lw4_v_3 uw4_v_3 w4_v_4 lw4_v_4 uw4_v_4 w4_v_5 lw4_v_5 uw4_v_5 hj_v_3 hj_v_4 hj_v_5 hmu H locs hB ls hl
      refine q_ild_n cx dX10_passTicks_4 rfl (lv_at hl 3 rfl) ?_
      refine q_ild_n cx dX10_passTicks_5 rfl (lv_at hl 1 rfl) ?_
      refine q_icge (tgt := 85) cx ⟨by omega, by omega⟩ ⟨by omega, by omega⟩ dX10_passTicks_6 (by decide) (fun c1261 => ?_) (fun c1261 => ?_)
      · refine q_ild_n cx dX10_passTicks_85 rfl (lv_at hl 2 rfl) ?_
        refine q_iret cx hr hlk hB dX10_passTicks_86 ⟨by omega, by omega⟩ ?_
        exact (by omega)
      · refine q_ald_n cx dX10_passTicks_9 rfl (lv_at hl 0 rfl) ?_
        refine lv_dup cx.1 cx.2.1 dX10_passTicks_10 rfl ?_
        obtain ⟨x1262, ex1262⟩ : ∃ zz, q_z f4 v 11 = zz := ⟨_, rfl⟩
        refine q_gX10_60_15 cx hB hv kv ex1262 dX10_passTicks_11 (fun lb1263 ub1263 => ?_)
        refine q_iconst cx dX10_passTicks_14 ?_
        refine q_iadd cx dX10_passTicks_15 ?_
        refine q_any (fun y1264 ry1264 ey1264 => ?_)
        refine q_pX10_60_15 cx hB hv kv ⟨by omega, by omega⟩ (by omega) (by omega) rfl dX10_passTicks_16 (fun H locs f1265 ef1265 z1266 hB => ?_)
        have z1267 : q_z f1265 v 3 = w4_v_3 := by rw [ef1265, q_setz (Or.inr (by decide))]; exact hj_v_3
        have z1268 : q_z f1265 v 4 = w4_v_4 := by rw [ef1265, q_setz (Or.inr (by decide))]; exact hj_v_4
        have z1269 : q_z f1265 v 5 = w4_v_5 := by rw [ef1265, q_setz (Or.inr (by decide))]; exact hj_v_5
        refine q_ald_n cx dX10_passTicks_19 rfl (lv_at hl 0 rfl) ?_
        refine q_cVv (As := []) (rest := []) cx hB (fun _ h => h) hN hv kv (by decide) rfl (m_wakeNodes0_3 l g hN hB.2.1 v hv kv (by omega)) q_cX10_243 q_dX10_wakeNodes (by decide) rfl rfl hl.1 rfl (Nat.le_of_ble_eq_true rfl) dX10_passTicks_20 (fun H locs f1270 h1272 hF hB => ?_)
        have z1273 : q_z f1270 v 3 = w4_v_3 := (hF.z hv (by rw [kv]; rfl)).trans z1267
        have z1274 : q_z f1270 v 4 = w4_v_4 := (hF.z hv (by rw [kv]; rfl)).trans z1268
        have z1275 : q_z f1270 v 5 = w4_v_5 := (hF.z hv (by rw [kv]; rfl)).trans z1269
        refine q_iconst cx dX10_passTicks_23 ?_
        refine lv_istore (lv' := [(4, .int (q_i 0)), (0, .ref v), (1, .int (q_i v4_1)), (2, .int (q_i v4_2)), (3, .int (q_i v4_3))]) cx.1 cx.2.1 dX10_passTicks_24 hl (by decide) rfl (fun ls hl => ?_)
        refine lv_iload cx.1 cx.2.1 dX10_passTicks_26 (lv_at hl 0 rfl) ?_
        refine q_ald_n cx dX10_passTicks_28 rfl (lv_at hl 1 rfl) ?_
        refine q_gX10_39_15 cx hB hv kv z1274 dX10_passTicks_29 (fun lb1276 ub1276 => ?_)
        refine q_icge (tgt := 51) cx ⟨by decide, by decide⟩ ⟨by omega, by omega⟩ dX10_passTicks_32 (by decide) (fun c1277 => ?_) (fun c1277 => ?_)
        · refine q_ald_n cx dX10_passTicks_51 rfl (lv_at hl 1 rfl) ?_
          refine q_iconst cx dX10_passTicks_52 ?_
          refine q_pX10_249_15 cx hB hv kv ⟨by decide, by decide⟩ (by decide) (by decide) rfl dX10_passTicks_53 (fun H locs f1278 ef1278 z1279 hB => ?_)
          have z1280 : q_z f1278 v 3 = w4_v_3 := by rw [ef1278, q_setz (Or.inr (by decide))]; exact z1273
          have z1281 : q_z f1278 v 4 = w4_v_4 := by rw [ef1278, q_setz (Or.inr (by decide))]; exact z1274
          have z1282 : q_z f1278 v 5 = w4_v_5 := by rw [ef1278, q_setz (Or.inr (by decide))]; exact z1275
          refine q_ald_n cx dX10_passTicks_56 rfl (lv_at hl 1 rfl) ?_
          refine q_iconst cx dX10_passTicks_57 ?_
          refine q_pX10_252_15 cx hB hv kv ⟨by decide, by decide⟩ (by decide) (by decide) rfl dX10_passTicks_58 (fun H locs f1283 ef1283 z1284 hB => ?_)
          have z1285 : q_z f1283 v 3 = w4_v_3 := by rw [ef1283, q_setz (Or.inr (by decide))]; exact z1280
          have z1286 : q_z f1283 v 4 = w4_v_4 := by rw [ef1283, q_setz (Or.inr (by decide))]; exact z1281
          have z1287 : q_z f1283 v 5 = w4_v_5 := by rw [ef1283, q_setz (Or.inr (by decide))]; exact z1282
          refine q_ild_n cx dX10_passTicks_61 rfl (lv_at hl 3 rfl) ?_
          refine q_ald_n cx dX10_passTicks_62 rfl (lv_at hl 1 rfl) ?_
          refine q_iconst cx dX10_passTicks_63 ?_
          refine q_cVi (As := [.int (q_i 1)]) (rest := [.int (q_i v4_2)]) cx hB (fun _ h => h) hN hv kv (by decide) rfl (m_passMessages0_3 l g hN hB.2.1 v hv kv 1 (by decide) (by decide) (by omega)) q_cX10_255 q_dX10_passMessages (by decide) rfl rfl hl.1 rfl (Nat.le_of_ble_eq_true rfl) dX10_passTicks_64 (fun y1289 H locs f1288 ry1289 h1290 hF hB => ?_)
          obtain ⟨rfl, qy1289⟩ := h1290
          subst qy1289
          refine q_ald_n cx dX10_passTicks_67 rfl (lv_at hl 1 rfl) ?_
          refine q_iconst cx dX10_passTicks_68 ?_
          refine q_cVi (As := [.int (q_i 0)]) (rest := [.int (q_i 0), .int (q_i v4_2)]) cx hB (fun _ h => h) hN hv kv (by decide) rfl (m_passMessages0_3 l g hN hB.2.1 v hv kv 0 (by decide) (by decide) (by omega)) q_cX10_255 q_dX10_passMessages (by decide) rfl rfl hl.1 rfl (Nat.le_of_ble_eq_true rfl) dX10_passTicks_69 (fun y1292 H locs f1291 ry1292 h1293 hF hB => ?_)
          obtain ⟨rfl, qy1292⟩ := h1293
          subst qy1292
          refine q_iadd cx dX10_passTicks_72 ?_
          refine q_iadd cx dX10_passTicks_73 ?_
          refine lv_istore_n (lv' := [(2, .int (q_i (v4_2 + (0 + 0)))), (4, .int (q_i 0)), (0, .ref v), (1, .int (q_i v4_1)), (3, .int (q_i v4_3))]) cx.1 cx.2.1 dX10_passTicks_74 rfl hl (by decide) rfl (fun ls hl => ?_)
          refine q_ald_n cx dX10_passTicks_75 rfl (lv_at hl 2 rfl) ?_
          refine q_cVv (As := []) (rest := []) cx hB (fun _ h => h) hN hv kv (by decide) rfl (m_loseMessages0_3 l g hN hB.2.1 v hv kv (by omega)) q_cX10_259 q_dX10_loseMessages (by decide) rfl rfl hl.1 rfl (Nat.le_of_ble_eq_true rfl) dX10_passTicks_76 (fun H locs f1294 h1296 hF hB => ?_)
          obtain rfl := h1296
          refine q_iinc (lv' := [(3, .int (q_i (v4_3 + 1))), (2, .int (q_i (v4_2 + (0 + 0)))), (4, .int (q_i 0)), (0, .ref v), (1, .int (q_i v4_1))]) cx dX10_passTicks_79 hl (k := 4) rfl (by decide) rfl (fun ls hl => ?_)
          refine lv_goto (tgt := 4) cx.1 cx.2.1 dX10_passTicks_82 (by decide) ?_
          exact ih4 f1283 v4_1 (by omega) (by omega) (v4_2 + (0 + 0)) (by omega) (by omega) (v4_3 + 1) (by omega) (by omega) w4_v_3 (by omega) (by omega) w4_v_4 (by omega) (by omega) w4_v_5 (by omega) (by omega) z1285 z1286 z1287 (by omega) H locs hB ls (lv_sub hl [3, 4, 1, 0] rfl)
        · exact absurd c1277 (by omega)
  obtain ⟨H, hH⟩ : ∃ H : Heap, H = s.heap := ⟨_, rfl⟩
  obtain ⟨locs, hlocs⟩ : ∃ z : List Loc, z = [] := ⟨_, rfl⟩
  rw [← hH, ← hlocs] at hB
  rw [← hH, ← hlocs]
  refine q_iconst cx dX10_passTicks_0 ?_
  refine lv_istore_n (lv' := [(2, .int (q_i 0)), (0, .ref v), (1, .int (q_i x))]) cx.1 cx.2.1 dX10_passTicks_1 rfl hl (by decide) rfl (fun ls hl => ?_)
  refine q_iconst cx dX10_passTicks_2 ?_
  refine lv_istore_n (lv' := [(3, .int (q_i 0)), (2, .int (q_i 0)), (0, .ref v), (1, .int (q_i x))]) cx.1 cx.2.1 dX10_passTicks_3 rfl hl (by decide) rfl (fun ls hl => ?_)
  exact J4 ((Int.toNat (2147483647 - 0)) + 1) f x (by omega) (by omega) 0 (by decide) (by decide) 0 (by decide) (by decide) 0 (by decide) (by decide) 0 (by decide) (by decide) 0 (by decide) (by decide) hf0 hf1 hf2 (Nat.lt_succ_self _) H locs hB ls (lv_sub hl [2, 3, 1, 0] rfl)
set_option maxHeartbeats 4000000 in
set_option maxRecDepth 100000 in
theorem m_writeOf0 (l : Launch) (g : q_G) {K : Nat → Nat} {L : List Nat} (hN : L.Nodup) {f : Nat → va_E} (hT : q_Ty g K L f) (v : Nat) (hv : v ∈ L) (kv : K v = 6) (o : Nat) (ho : o ∈ L) (ko : K o = 10) (hf0 : q_z f o 3 = 0) : q_Ct l g K L yX6_writeOf cX6_writeOf 3 (some .int) 0 0 [.ref v, .ref o] f [(6, 1, 1)] (q_Pi (fun (z : Int) (f1 : Nat → va_E) => z = 0)) := by
  refine q_ofb (by decide +kernel) hN hT (Nat.le_of_ble_eq_true rfl) ?_
  intro p e s m below meth c ls cx hr hlk hB hl
  have hl : lv_has ls 3 [(0, .ref v), (1, .ref o)] := hl
  obtain ⟨H, hH⟩ : ∃ H : Heap, H = s.heap := ⟨_, rfl⟩
  obtain ⟨locs, hlocs⟩ : ∃ z : List Loc, z = [] := ⟨_, rfl⟩
  rw [← hH, ← hlocs] at hB
  rw [← hH, ← hlocs]
  refine q_ald_n cx dX6_writeOf_0 rfl (lv_at hl 0 rfl) ?_
  refine q_iconst cx dX6_writeOf_1 ?_
  refine q_pX6_13 cx hB hv kv ⟨by decide, by decide⟩ (by decide) (by decide) rfl dX6_writeOf_2 (fun H locs f7 ef7 z8 hB => ?_)
  have z9 : q_z f7 o 3 = 0 := by rw [ef7, q_setz (Or.inr (by decide))]; exact hf0
  refine q_iconst cx dX6_writeOf_5 ?_
  refine lv_istore_n (lv' := [(2, .int (q_i 0)), (0, .ref v), (1, .ref o)]) cx.1 cx.2.1 dX6_writeOf_6 rfl hl (by decide) rfl (fun ls hl => ?_)
  refine q_ild_n cx dX6_writeOf_7 rfl (lv_at hl 0 rfl) ?_
  refine q_ald_n cx dX6_writeOf_8 rfl (lv_at hl 2 rfl) ?_
  refine q_gX6_17 cx hB ho ko z9 dX6_writeOf_9 (fun lb10 ub10 => ?_)
  refine q_icge (tgt := 27) cx ⟨by decide, by decide⟩ ⟨by decide, by decide⟩ dX6_writeOf_12 (by decide) (fun c11 => ?_) (fun c11 => ?_)
  · refine q_ald_n cx dX6_writeOf_27 rfl (lv_at hl 1 rfl) ?_
    refine q_gX6_13 cx hB hv kv z8 dX6_writeOf_28 (fun lb12 ub12 => ?_)
    refine q_iret cx hr hlk hB dX6_writeOf_31 ⟨by decide, by decide⟩ ?_
    exact rfl
  · exact absurd c11 (by omega)
set_option maxHeartbeats 4000000 in
set_option maxRecDepth 100000 in
theorem m_takesIn0 (l : Launch) (g : q_G) {K : Nat → Nat} {L : List Nat} (hN : L.Nodup) {f : Nat → va_E} (hT : q_Ty g K L f) (v : Nat) (hv : v ∈ L) (kv : K v = 1) (o : Nat) (ho : o ∈ L) (ko : K o = 10) (tr : Nat) (htr : tr ∈ L) (ktr : K tr = 15) (hf0 : q_z f o 3 = 0) (hf1 : q_z f o 4 = 0) (hf2 : q_z f o 5 = 0) (hf3 : q_z f o 6 = 12) (hf4 : q_z f o 10 = 3) (hf5 : q_z f o 11 = 0) (hf6 : q_z f o 12 = 0) (hr0 : q_r f v 0 = tr) : q_Ct l g K L yX1_ticksToShiftTaken cX1_ticksToShiftTaken 3 (some .int) 2 48 [.ref v, .ref o] f [(15, 3, 15)] (q_Pi (fun (z : Int) (f1 : Nat → va_E) => z = (-1))) := by
  refine q_ofb (by decide +kernel) hN hT (Nat.le_of_ble_eq_true rfl) ?_
  intro p e s m below meth c ls cx hr hlk hB hl
  have hl : lv_has ls 3 [(0, .ref v), (1, .ref o)] := hl
  have J10 : ∀ (n : Nat) (f10 : Nat → va_E) (v10_2 : Int) (lv10_2 : 1 ≤ v10_2) (uv10_2 : v10_2 ≤ 255) (w10_o_3 : Int) (lw10_o_3 : 0 ≤ w10_o_3) (uw10_o_3 : w10_o_3 ≤ 0) (w10_o_4 : Int) (lw10_o_4 : 0 ≤ w10_o_4) (uw10_o_4 : w10_o_4 ≤ 0) (w10_o_5 : Int) (lw10_o_5 : 0 ≤ w10_o_5) (uw10_o_5 : w10_o_5 ≤ 0) (w10_o_6 : Int) (lw10_o_6 : 12 ≤ w10_o_6) (uw10_o_6 : w10_o_6 ≤ 12) (w10_o_10 : Int) (lw10_o_10 : 3 ≤ w10_o_10) (uw10_o_10 : w10_o_10 ≤ 3) (w10_o_11 : Int) (lw10_o_11 : 0 ≤ w10_o_11) (uw10_o_11 : w10_o_11 ≤ 0) (w10_o_12 : Int) (lw10_o_12 : 0 ≤ w10_o_12) (uw10_o_12 : w10_o_12 ≤ 0) (w10_tr_3 : Int) (lw10_tr_3 : 0 ≤ w10_tr_3) (uw10_tr_3 : w10_tr_3 ≤ 0) (w10_tr_4 : Int) (lw10_tr_4 : 0 ≤ w10_tr_4) (uw10_tr_4 : w10_tr_4 ≤ 0) (w10_tr_5 : Int) (lw10_tr_5 : 0 ≤ w10_tr_5) (uw10_tr_5 : w10_tr_5 ≤ 0) (w10_tr_12 : Int) (lw10_tr_12 : 0 ≤ w10_tr_12) (uw10_tr_12 : w10_tr_12 ≤ 0) (hj_o_3 : q_z f10 o 3 = w10_o_3) (hj_o_4 : q_z f10 o 4 = w10_o_4) (hj_o_5 : q_z f10 o 5 = w10_o_5) (hj_o_6 : q_z f10 o 6 = w10_o_6) (hj_o_10 : q_z f10 o 10 = w10_o_10) (hj_o_11 : q_z f10 o 11 = w10_o_11) (hj_o_12 : q_z f10 o 12 = w10_o_12) (hj_tr_3 : q_z f10 tr 3 = w10_tr_3) (hj_tr_4 : q_z f10 tr 4 = w10_tr_4) (hj_tr_5 : q_z f10 tr 5 = w10_tr_5) (hj_tr_12 : q_z f10 tr 12 = w10_tr_12) (hq_v_0 : q_r f10 v 0 = tr) (hmu : (Int.toNat (2147483647 - v10_2)) < n) (H : Heap) (locs : List Loc) (hB : q_B g K L (fun q => q ∈ L) [(15, 3, 15)] f f10 s H locs) (ls : Array Slot) (hl : lv_has ls 3 [(0, .ref v), (1, .ref o), (2, .int (q_i v10_2))]), W p l e { frames := 2, cells := 0, slots := 0, locals := 48 } s m ([.ref v, .ref o] : List Value).toArray below meth c H locs 0 0 (MQ below (q_Q g K L [(15, 3, 15)] f (q_Pi (fun (z : Int) (f1 : Nat → va_E) => z = (-1)))) ([.ref v, .ref o] : List Value).toArray s 0 0 (fun q => q ∈ L)) (F0 m 10 ls []) := by
    intro n
    induction n with
    | zero =>
      intro f10 v10_2 lv10_2 uv10_2 w10_o_3 lw10_o_3 uw10_o_3 w10_o_4 lw10_o_4 uw10_o_4 w10_o_5 lw10_o_5 uw10_o_5 w10_o_6 lw10_o_6 uw10_o_6 w10_o_10 lw10_o_10 uw10_o_10 w10_o_11 lw10_o_11 uw10_o_11 w10_o_12 lw10_o_12 uw10_o_12 w10_tr_3 lw10_tr_3 uw10_tr_3 w10_tr_4 lw10_tr_4 uw10_tr_4 w10_tr_5 lw10_tr_5 uw10_tr_5 w10_tr_12 lw10_tr_12 uw10_tr_12 hj_o_3 hj_o_4 hj_o_5 hj_o_6 hj_o_10 hj_o_11 hj_o_12 hj_tr_3 hj_tr_4 hj_tr_5 hj_tr_12 hq_v_0 hmu
      exact absurd hmu (Nat.not_lt_zero _)
    | succ n ih10 =>
      intro f10 v10_2 lv10_2 uv10_2 w10_o_3 lw10_o_3 uw10_o_3 w10_o_4 lw10_o_4 uw10_o_4 w10_o_5 lw10_o_5 uw10_o_5 w10_o_6 lw10_o_6 uw10_o_6 w10_o_10 lw10_o_10 uw10_o_10 w10_o_11 lw10_o_11 uw10_o_11 w10_o_12 lw10_o_12 uw10_o_12 w10_tr_3 lw10_tr_3 uw10_tr_3 w10_tr_4 lw10_tr_4 uw10_tr_4 w10_tr_5 lw10_tr_5 uw10_tr_5 w10_tr_12 lw10_tr_12 uw10_tr_12 hj_o_3 hj_o_4 hj_o_5 hj_o_6 hj_o_10 hj_o_11 hj_o_12 hj_tr_3 hj_tr_4 hj_tr_5 hj_tr_12 hq_v_0 hmu H locs hB ls hl
      refine q_ild_n cx dX1_ticksToShiftTaken_10 rfl (lv_at hl 2 rfl) ?_
      refine q_sipush cx dX1_ticksToShiftTaken_11 rfl ?_
      refine q_icgt (tgt := 48) cx ⟨by omega, by omega⟩ ⟨by decide, by decide⟩ dX1_ticksToShiftTaken_14 (by decide) (fun c524 => ?_) (fun c524 => ?_)
      · refine q_iconst cx dX1_ticksToShiftTaken_48 ?_
        refine q_iret cx hr hlk hB dX1_ticksToShiftTaken_49 ⟨by decide, by decide⟩ ?_
        exact rfl
      · refine q_ald_n cx dX1_ticksToShiftTaken_17 rfl (lv_at hl 0 rfl) ?_
        refine q_gX1_12 cx hB hv kv hq_v_0 dX1_ticksToShiftTaken_18 (fun hb525 kb525 => ?_)
        refine q_iconst cx dX1_ticksToShiftTaken_21 ?_
        refine q_cVi (As := [.int (q_i 1)]) (rest := []) cx hB (fun _ h => h) hN htr ktr (by decide) rfl (m_passTicks0_3 l g hN hB.2.1 tr htr ktr 1 (by decide) (by decide) (by omega) (by omega) (by omega)) q_cX1_48 q_dX10_passTicks (by decide) rfl rfl hl.1 rfl (Nat.le_of_ble_eq_true rfl) dX1_ticksToShiftTaken_22 (fun y527 H locs f526 ry527 h528 hF hB => ?_)
        have qy527 := h528
        have z529 : q_z f526 o 3 = w10_o_3 := (hF.z ho (by rw [ko]; rfl)).trans hj_o_3
        have z530 : q_z f526 o 4 = w10_o_4 := (hF.z ho (by rw [ko]; rfl)).trans hj_o_4
        have z531 : q_z f526 o 5 = w10_o_5 := (hF.z ho (by rw [ko]; rfl)).trans hj_o_5
        have z532 : q_z f526 o 6 = w10_o_6 := (hF.z ho (by rw [ko]; rfl)).trans hj_o_6
        have z533 : q_z f526 o 10 = w10_o_10 := (hF.z ho (by rw [ko]; rfl)).trans hj_o_10
        have z534 : q_z f526 o 11 = w10_o_11 := (hF.z ho (by rw [ko]; rfl)).trans hj_o_11
        have z535 : q_z f526 o 12 = w10_o_12 := (hF.z ho (by rw [ko]; rfl)).trans hj_o_12
        have z536 : q_z f526 tr 3 = w10_tr_3 := (hF.z htr (by rw [ktr]; rfl)).trans hj_tr_3
        have z537 : q_z f526 tr 4 = w10_tr_4 := (hF.z htr (by rw [ktr]; rfl)).trans hj_tr_4
        have z538 : q_z f526 tr 5 = w10_tr_5 := (hF.z htr (by rw [ktr]; rfl)).trans hj_tr_5
        have z539 : q_z f526 tr 12 = w10_tr_12 := (hF.z htr (by rw [ktr]; rfl)).trans hj_tr_12
        have z540 : q_r f526 v 0 = tr := (hF.r hv (by rw [kv]; rfl)).trans hq_v_0
        subst qy527
        refine lv_pop cx.1 cx.2.1 dX1_ticksToShiftTaken_25 rfl ?_
        refine q_ald_n cx dX1_ticksToShiftTaken_26 rfl (lv_at hl 0 rfl) ?_
        refine q_gX1_12 cx hB hv kv z540 dX1_ticksToShiftTaken_27 (fun hb541 kb541 => ?_)
        refine q_gX1_61_15 cx hB htr ktr z539 dX1_ticksToShiftTaken_30 (fun lb542 ub542 => ?_)
        refine q_ald_n cx dX1_ticksToShiftTaken_33 rfl (lv_at hl 1 rfl) ?_
        refine q_gX1_61 cx hB ho ko z535 dX1_ticksToShiftTaken_34 (fun lb543 ub543 => ?_)
        refine q_iceq (tgt := 42) cx ⟨by omega, by omega⟩ ⟨by omega, by omega⟩ dX1_ticksToShiftTaken_37 (by decide) (fun c544 => ?_) (fun c544 => ?_)
        · refine q_iinc (lv' := [(2, .int (q_i (v10_2 + 1))), (0, .ref v), (1, .ref o)]) cx dX1_ticksToShiftTaken_42 hl (k := 2) rfl (by decide) rfl (fun ls hl => ?_)
          refine lv_goto (tgt := 10) cx.1 cx.2.1 dX1_ticksToShiftTaken_45 (by decide) ?_
          exact ih10 f526 (v10_2 + 1) (by omega) (by omega) w10_o_3 (by omega) (by omega) w10_o_4 (by omega) (by omega) w10_o_5 (by omega) (by omega) w10_o_6 (by omega) (by omega) w10_o_10 (by omega) (by omega) w10_o_11 (by omega) (by omega) w10_o_12 (by omega) (by omega) w10_tr_3 (by omega) (by omega) w10_tr_4 (by omega) (by omega) w10_tr_5 (by omega) (by omega) w10_tr_12 (by omega) (by omega) z529 z530 z531 z532 z533 z534 z535 z536 z537 z538 z539 z540 (by omega) H locs hB ls (lv_sub hl [1, 2, 0] rfl)
        · exact absurd c544 (by omega)
  obtain ⟨H, hH⟩ : ∃ H : Heap, H = s.heap := ⟨_, rfl⟩
  obtain ⟨locs, hlocs⟩ : ∃ z : List Loc, z = [] := ⟨_, rfl⟩
  rw [← hH, ← hlocs] at hB
  rw [← hH, ← hlocs]
  refine q_ald_n cx dX1_ticksToShiftTaken_0 rfl (lv_at hl 0 rfl) ?_
  refine q_gX1_12 cx hB hv kv hr0 dX1_ticksToShiftTaken_1 (fun hb545 kb545 => ?_)
  refine q_ald_n cx dX1_ticksToShiftTaken_4 rfl (lv_at hl 1 rfl) ?_
  refine q_cVv (As := [.ref o]) (rest := []) cx hB (fun _ h => h) hN htr ktr (by decide) rfl (m_copy0_30 l g hN hB.2.1 tr htr ktr o ho ko hf0 hf1 hf2 hf3 hf4 hf5 hf6) q_cX1_18 q_dX10_copyFrom (by decide) rfl rfl hl.1 rfl (Nat.le_of_ble_eq_true rfl) dX1_ticksToShiftTaken_5 (fun H locs f546 h548 hF hB => ?_)
  obtain ⟨z549, z550, z551, z552, z553, z554, z555⟩ := h548
  have z556 : q_z f546 o 3 = 0 := (hF.z ho (by rw [ko]; rfl)).trans hf0
  have z557 : q_z f546 o 4 = 0 := (hF.z ho (by rw [ko]; rfl)).trans hf1
  have z558 : q_z f546 o 5 = 0 := (hF.z ho (by rw [ko]; rfl)).trans hf2
  have z559 : q_z f546 o 6 = 12 := (hF.z ho (by rw [ko]; rfl)).trans hf3
  have z560 : q_z f546 o 10 = 3 := (hF.z ho (by rw [ko]; rfl)).trans hf4
  have z561 : q_z f546 o 11 = 0 := (hF.z ho (by rw [ko]; rfl)).trans hf5
  have z562 : q_z f546 o 12 = 0 := (hF.z ho (by rw [ko]; rfl)).trans hf6
  have z563 : q_r f546 v 0 = tr := (hF.r hv (by rw [kv]; rfl)).trans hr0
  refine q_iconst cx dX1_ticksToShiftTaken_8 ?_
  refine lv_istore_n (lv' := [(2, .int (q_i 1)), (0, .ref v), (1, .ref o)]) cx.1 cx.2.1 dX1_ticksToShiftTaken_9 rfl hl (by decide) rfl (fun ls hl => ?_)
  exact J10 ((Int.toNat (2147483647 - 1)) + 1) f546 1 (by decide) (by decide) 0 (by decide) (by decide) 0 (by decide) (by decide) 0 (by decide) (by decide) 12 (by decide) (by decide) 3 (by decide) (by decide) 0 (by decide) (by decide) 0 (by decide) (by decide) 0 (by decide) (by decide) 0 (by decide) (by decide) 0 (by decide) (by decide) 0 (by decide) (by decide) z556 z557 z558 z559 z560 z561 z562 z549 z550 z551 z555 z563 (Nat.lt_succ_self _) H locs hB ls (lv_sub hl [1, 2, 0] rfl)
set_option maxHeartbeats 4000000 in
set_option maxRecDepth 100000 in
theorem x_requireNode (l : Launch) (g : q_G) {K : Nat → Nat} {L : List Nat} (hN : L.Nodup) {f : Nat → va_E} (hT : q_Ty g K L f) (hfl : l.stackTraces = false) (x : Nat) (hx : x ∈ L) (kx : K x = 11) (a0 : Int) (la0 : (-2147483648) ≤ a0) (ua0 : a0 ≤ 2147483647) (src : Nat) (hsrc : src ∈ L) (ksrc : K src = 8) (rdr : Nat) (hrdr : rdr ∈ L) (krdr : K rdr = 9) (scr : Nat) (hscr : scr ∈ L) (kscr : K scr = 7) (fc : Nat) (hfc : fc ∈ L) (kfc : K fc = 1) (hist : Nat) (hhist : hist ∈ L) (khist : K hist = 2) (rep : Nat) (hrep : rep ∈ L) (krep : K rep = 6) (now : Nat) (hnow : now ∈ L) (know : K now = 10) (dr : Nat) (hdr : dr ∈ L) (kdr : K dr = 13) (sv : Nat) (hsv : sv ∈ L) (ksv : K sv = 14) (tr : Nat) (htr : tr ∈ L) (ktr : K tr = 15) (hf0 : q_z f x 9 = 0) (hf1 : q_z f src 1 = 0) (hf2 : q_z f src 2 = 0) (hf3 : q_z f src 3 = (-1)) (hf4 : q_z f hist 1 = 0) (hf5 : q_z f hist 2 = 0) (hf6 : q_z f rep 1 = 0) (hf7 : q_z f now 3 = 0) (hf8 : q_z f now 4 = 0) (hf9 : q_z f now 5 = 0) (hf10 : q_z f now 6 = 12) (hf11 : q_z f now 10 = 3) (hf12 : q_z f now 11 = 0) (hf13 : q_z f now 12 = 0) (hr0 : q_r f x 0 = src) (hr1 : q_r f x 1 = rdr) (hr2 : q_r f x 2 = scr) (hr3 : q_r f x 3 = fc) (hr4 : q_r f x 4 = hist) (hr5 : q_r f x 5 = rep) (hr6 : q_r f x 6 = now) (hr7 : q_r f x 7 = dr) (hr8 : q_r f x 8 = sv) (hr9 : q_r f fc 0 = tr) : q_Xt l g K L yX11_requireNode cX11_requireNode 2 none 6 82 1 6 [.ref x, .int (q_i a0)] f [] (q_Pv (fun (f1 : Nat → va_E) => False)) (fun (E : String) (f1 : Nat → va_E) => E = "java/lang/IndexOutOfBoundsException" ∧ f = f1) := by
  refine q_xofb (by decide +kernel) hN hT (Nat.le_of_ble_eq_true rfl) ?_
  intro p e s m below meth c ls cx hr hlk htab hX hB hl
  have hl : lv_has ls 2 [(0, .ref x), (1, .int (q_i a0))] := hl
  obtain ⟨H, hH⟩ : ∃ H : Heap, H = s.heap := ⟨_, rfl⟩
  obtain ⟨locs, hlocs⟩ : ∃ z : List Loc, z = [] := ⟨_, rfl⟩
  rw [← hH, ← hlocs] at hB
  rw [← hH, ← hlocs]
  refine q_ild_n cx dX11_requireNode_0 rfl (lv_at hl 1 rfl) ?_
  refine q_iflt (tgt := 15) cx ⟨by omega, by omega⟩ dX11_requireNode_1 (by decide) (fun c5 => ?_) (fun c5 => ?_)
  · exact q_throw (text := "no such node") hfl cx hlk htab hX hB hl.1 (by decide +kernel) q_h1234 q_h159 (by decide +kernel) q_xl145a q_xl145b q_xl145c dX11_requireNode_15 dX11_requireNode_18 (Or.inr ⟨dX11_requireNode_19, dX11_requireNode_22, dX11_requireNode_25⟩) (by decide) (by decide) ⟨rfl, rfl⟩
  · refine q_ild_n cx dX11_requireNode_4 rfl (lv_at hl 1 rfl) ?_
    refine q_ald_n cx dX11_requireNode_5 rfl (lv_at hl 0 rfl) ?_
    refine q_gX11_54 cx hB hx kx hr6 dX11_requireNode_6 (fun hb6 kb6 => ?_)
    refine q_gX11_101 cx hB hnow know hf7 dX11_requireNode_9 (fun lb7 ub7 => ?_)
    refine q_iclt (tgt := 26) cx ⟨by omega, by omega⟩ ⟨by decide, by decide⟩ dX11_requireNode_12 (by decide) (fun c8 => ?_) (fun c8 => ?_)
    · exact absurd c8 (by omega)
    · exact q_throw (text := "no such node") hfl cx hlk htab hX hB hl.1 (by decide +kernel) q_h1234 q_h159 (by decide +kernel) q_xl145a q_xl145b q_xl145c dX11_requireNode_15 dX11_requireNode_18 (Or.inr ⟨dX11_requireNode_19, dX11_requireNode_22, dX11_requireNode_25⟩) (by decide) (by decide) ⟨rfl, rfl⟩
set_option maxHeartbeats 4000000 in
set_option maxRecDepth 100000 in
theorem x_requireMessage (l : Launch) (g : q_G) {K : Nat → Nat} {L : List Nat} (hN : L.Nodup) {f : Nat → va_E} (hT : q_Ty g K L f) (hfl : l.stackTraces = false) (x : Nat) (hx : x ∈ L) (kx : K x = 11) (a0 : Int) (la0 : (-2147483648) ≤ a0) (ua0 : a0 ≤ 2147483647) (src : Nat) (hsrc : src ∈ L) (ksrc : K src = 8) (rdr : Nat) (hrdr : rdr ∈ L) (krdr : K rdr = 9) (scr : Nat) (hscr : scr ∈ L) (kscr : K scr = 7) (fc : Nat) (hfc : fc ∈ L) (kfc : K fc = 1) (hist : Nat) (hhist : hist ∈ L) (khist : K hist = 2) (rep : Nat) (hrep : rep ∈ L) (krep : K rep = 6) (now : Nat) (hnow : now ∈ L) (know : K now = 10) (dr : Nat) (hdr : dr ∈ L) (kdr : K dr = 13) (sv : Nat) (hsv : sv ∈ L) (ksv : K sv = 14) (tr : Nat) (htr : tr ∈ L) (ktr : K tr = 15) (hf0 : q_z f x 9 = 0) (hf1 : q_z f src 1 = 0) (hf2 : q_z f src 2 = 0) (hf3 : q_z f src 3 = (-1)) (hf4 : q_z f hist 1 = 0) (hf5 : q_z f hist 2 = 0) (hf6 : q_z f rep 1 = 0) (hf7 : q_z f now 3 = 0) (hf8 : q_z f now 4 = 0) (hf9 : q_z f now 5 = 0) (hf10 : q_z f now 6 = 12) (hf11 : q_z f now 10 = 3) (hf12 : q_z f now 11 = 0) (hf13 : q_z f now 12 = 0) (hr0 : q_r f x 0 = src) (hr1 : q_r f x 1 = rdr) (hr2 : q_r f x 2 = scr) (hr3 : q_r f x 3 = fc) (hr4 : q_r f x 4 = hist) (hr5 : q_r f x 5 = rep) (hr6 : q_r f x 6 = now) (hr7 : q_r f x 7 = dr) (hr8 : q_r f x 8 = sv) (hr9 : q_r f fc 0 = tr) : q_Xt l g K L yX11_requireMessage cX11_requireMessage 2 none 6 82 1 6 [.ref x, .int (q_i a0)] f [] (q_Pv (fun (f1 : Nat → va_E) => False)) (fun (E : String) (f1 : Nat → va_E) => E = "java/lang/IndexOutOfBoundsException" ∧ f = f1) := by
  refine q_xofb (by decide +kernel) hN hT (Nat.le_of_ble_eq_true rfl) ?_
  intro p e s m below meth c ls cx hr hlk htab hX hB hl
  have hl : lv_has ls 2 [(0, .ref x), (1, .int (q_i a0))] := hl
  obtain ⟨H, hH⟩ : ∃ H : Heap, H = s.heap := ⟨_, rfl⟩
  obtain ⟨locs, hlocs⟩ : ∃ z : List Loc, z = [] := ⟨_, rfl⟩
  rw [← hH, ← hlocs] at hB
  rw [← hH, ← hlocs]
  refine q_ild_n cx dX11_requireMessage_0 rfl (lv_at hl 1 rfl) ?_
  refine q_iflt (tgt := 15) cx ⟨by omega, by omega⟩ dX11_requireMessage_1 (by decide) (fun c5 => ?_) (fun c5 => ?_)
  · exact q_throw (text := "no such message") hfl cx hlk htab hX hB hl.1 (by decide +kernel) q_h1234 q_h159 (by decide +kernel) q_xl145a q_xl145b q_xl145c dX11_requireMessage_15 dX11_requireMessage_18 (Or.inr ⟨dX11_requireMessage_19, dX11_requireMessage_22, dX11_requireMessage_25⟩) (by decide) (by decide) ⟨rfl, rfl⟩
  · refine q_ild_n cx dX11_requireMessage_4 rfl (lv_at hl 1 rfl) ?_
    refine q_ald_n cx dX11_requireMessage_5 rfl (lv_at hl 0 rfl) ?_
    refine q_gX11_54 cx hB hx kx hr6 dX11_requireMessage_6 (fun hb6 kb6 => ?_)
    refine q_gX11_340 cx hB hnow know hf9 dX11_requireMessage_9 (fun lb7 ub7 => ?_)
    refine q_iclt (tgt := 26) cx ⟨by omega, by omega⟩ ⟨by decide, by decide⟩ dX11_requireMessage_12 (by decide) (fun c8 => ?_) (fun c8 => ?_)
    · exact absurd c8 (by omega)
    · exact q_throw (text := "no such message") hfl cx hlk htab hX hB hl.1 (by decide +kernel) q_h1234 q_h159 (by decide +kernel) q_xl145a q_xl145b q_xl145c dX11_requireMessage_15 dX11_requireMessage_18 (Or.inr ⟨dX11_requireMessage_19, dX11_requireMessage_22, dX11_requireMessage_25⟩) (by decide) (by decide) ⟨rfl, rfl⟩
set_option maxHeartbeats 4000000 in
set_option maxRecDepth 100000 in
theorem x_feed (l : Launch) (g : q_G) {K : Nat → Nat} {L : List Nat} (hN : L.Nodup) {f : Nat → va_E} (hT : q_Ty g K L f) (x : Nat) (hx : x ∈ L) (kx : K x = 11) (a0 : Int) (la0 : (-2147483648) ≤ a0) (ua0 : a0 ≤ 2147483647) (b0 : Int) (lb0 : (-2147483648) ≤ b0) (ub0 : b0 ≤ 2147483647) (c0 : Int) (lc0 : (-2147483648) ≤ c0) (uc0 : c0 ≤ 2147483647) (d0 : Int) (ld0 : (-2147483648) ≤ d0) (ud0 : d0 ≤ 2147483647) (e0 : Int) (le0 : (-2147483648) ≤ e0) (ue0 : e0 ≤ 2147483647) (src : Nat) (hsrc : src ∈ L) (ksrc : K src = 8) (rdr : Nat) (hrdr : rdr ∈ L) (krdr : K rdr = 9) (scr : Nat) (hscr : scr ∈ L) (kscr : K scr = 7) (fc : Nat) (hfc : fc ∈ L) (kfc : K fc = 1) (hist : Nat) (hhist : hist ∈ L) (khist : K hist = 2) (rep : Nat) (hrep : rep ∈ L) (krep : K rep = 6) (now : Nat) (hnow : now ∈ L) (know : K now = 10) (dr : Nat) (hdr : dr ∈ L) (kdr : K dr = 13) (sv : Nat) (hsv : sv ∈ L) (ksv : K sv = 14) (tr : Nat) (htr : tr ∈ L) (ktr : K tr = 15) (hf0 : q_z f x 9 = 0) (hf1 : q_z f src 1 = 0) (hf2 : q_z f src 2 = 0) (hf3 : q_z f src 3 = (-1)) (hf4 : q_z f hist 1 = 0) (hf5 : q_z f hist 2 = 0) (hf6 : q_z f rep 1 = 0) (hf7 : q_z f now 3 = 0) (hf8 : q_z f now 4 = 0) (hf9 : q_z f now 5 = 0) (hf10 : q_z f now 6 = 12) (hf11 : q_z f now 10 = 3) (hf12 : q_z f now 11 = 0) (hf13 : q_z f now 12 = 0) (hr0 : q_r f x 0 = src) (hr1 : q_r f x 1 = rdr) (hr2 : q_r f x 2 = scr) (hr3 : q_r f x 3 = fc) (hr4 : q_r f x 4 = hist) (hr5 : q_r f x 5 = rep) (hr6 : q_r f x 6 = now) (hr7 : q_r f x 7 = dr) (hr8 : q_r f x 8 = sv) (hr9 : q_r f fc 0 = tr) : q_Ct l g K L yX11_feed cX11_feed 6 (some .int) 1 22 [.ref x, .int (q_i a0), .int (q_i b0), .int (q_i c0), .int (q_i d0), .int (q_i e0)] f [(11, 9, 9), (8, 1, 9), (9, 0, 2), (7, 1, 4), (2, 1, 2), (6, 1, 1), (10, 3, 15), (13, 3, 15), (14, 3, 15), (15, 3, 15), (16, 3, 15), (142, 0, 599)] (q_Pi (fun (z : Int) (f1 : Nat → va_E) => z = 20)) := by
  refine q_ofb (by decide +kernel) hN hT (Nat.le_of_ble_eq_true rfl) ?_
  intro p e s m below meth c ls cx hr hlk hB hl
  have hl : lv_has ls 6 [(0, .ref x), (1, .int (q_i a0)), (2, .int (q_i b0)), (3, .int (q_i c0)), (4, .int (q_i d0)), (5, .int (q_i e0))] := hl
  obtain ⟨H, hH⟩ : ∃ H : Heap, H = s.heap := ⟨_, rfl⟩
  obtain ⟨locs, hlocs⟩ : ∃ z : List Loc, z = [] := ⟨_, rfl⟩
  rw [← hH, ← hlocs] at hB
  rw [← hH, ← hlocs]
  refine q_ald_n cx dX11_feed_0 rfl (lv_at hl 0 rfl) ?_
  refine q_gX11_10 cx hB hx kx hr0 dX11_feed_1 (fun hb148 kb148 => ?_)
  refine q_cVi (As := []) (rest := []) cx hB (fun _ h => h) hN hsrc ksrc (by decide) rfl (m_hasRoom l g hN hB.2.1 src hsrc ksrc 0 (by decide) (by decide) hf1) q_cX11_64 q_dX8_hasRoomForFeed (by decide) rfl rfl hl.1 rfl (Nat.le_of_ble_eq_true rfl) dX11_feed_4 (fun y150 H locs f149 ry150 h151 hF hB => ?_)
  obtain ⟨rfl, qy150⟩ := h151
  subst qy150
  refine q_ifne (tgt := 20) cx ⟨by decide, by decide⟩ dX11_feed_7 (by decide) (fun c152 => ?_) (fun c152 => ?_)
  · refine q_ald_n cx dX11_feed_20 rfl (lv_at hl 0 rfl) ?_
    refine q_gX11_10 cx hB hx kx hr0 dX11_feed_21 (fun hb153 kb153 => ?_)
    refine q_ild_n cx dX11_feed_24 rfl (lv_at hl 1 rfl) ?_
    refine q_cVv (As := [.int (q_i a0)]) (rest := []) cx hB (fun _ h => h) hN hsrc ksrc (by decide) rfl (m_append l g hN hB.2.1 src hsrc ksrc a0 (by omega) (by omega) 0 (by decide) (by decide) hf1) q_cX11_75 q_dX8_append (by decide) rfl rfl hl.1 rfl (Nat.le_of_ble_eq_true rfl) dX11_feed_25 (fun H locs f154 h156 hF hB => ?_)
    have z157 := h156
    have z158 : q_z f154 x 9 = 0 := (hF.z hx (by rw [kx]; rfl)).trans hf0
    have z159 : q_z f154 src 2 = 0 := (hF.z hsrc (by rw [ksrc]; rfl)).trans hf2
    have z160 : q_z f154 src 3 = (-1) := (hF.z hsrc (by rw [ksrc]; rfl)).trans hf3
    have z161 : q_z f154 hist 1 = 0 := (hF.z hhist (by rw [khist]; rfl)).trans hf4
    have z162 : q_z f154 hist 2 = 0 := (hF.z hhist (by rw [khist]; rfl)).trans hf5
    have z163 : q_z f154 rep 1 = 0 := (hF.z hrep (by rw [krep]; rfl)).trans hf6
    have z164 : q_z f154 now 3 = 0 := (hF.z hnow (by rw [know]; rfl)).trans hf7
    have z165 : q_z f154 now 4 = 0 := (hF.z hnow (by rw [know]; rfl)).trans hf8
    have z166 : q_z f154 now 5 = 0 := (hF.z hnow (by rw [know]; rfl)).trans hf9
    have z167 : q_z f154 now 6 = 12 := (hF.z hnow (by rw [know]; rfl)).trans hf10
    have z168 : q_z f154 now 10 = 3 := (hF.z hnow (by rw [know]; rfl)).trans hf11
    have z169 : q_z f154 now 11 = 0 := (hF.z hnow (by rw [know]; rfl)).trans hf12
    have z170 : q_z f154 now 12 = 0 := (hF.z hnow (by rw [know]; rfl)).trans hf13
    have z171 : q_r f154 x 0 = src := (hF.r hx (by rw [kx]; rfl)).trans hr0
    have z172 : q_r f154 x 1 = rdr := (hF.r hx (by rw [kx]; rfl)).trans hr1
    have z173 : q_r f154 x 2 = scr := (hF.r hx (by rw [kx]; rfl)).trans hr2
    have z174 : q_r f154 x 3 = fc := (hF.r hx (by rw [kx]; rfl)).trans hr3
    have z175 : q_r f154 x 4 = hist := (hF.r hx (by rw [kx]; rfl)).trans hr4
    have z176 : q_r f154 x 5 = rep := (hF.r hx (by rw [kx]; rfl)).trans hr5
    have z177 : q_r f154 x 6 = now := (hF.r hx (by rw [kx]; rfl)).trans hr6
    have z178 : q_r f154 x 7 = dr := (hF.r hx (by rw [kx]; rfl)).trans hr7
    have z179 : q_r f154 x 8 = sv := (hF.r hx (by rw [kx]; rfl)).trans hr8
    have z180 : q_r f154 fc 0 = tr := (hF.r hfc (by rw [kfc]; rfl)).trans hr9
    refine q_ald_n cx dX11_feed_28 rfl (lv_at hl 0 rfl) ?_
    refine q_gX11_10 cx hB hx kx z171 dX11_feed_29 (fun hb181 kb181 => ?_)
    refine q_ild_n cx dX11_feed_32 rfl (lv_at hl 2 rfl) ?_
    refine q_cVv (As := [.int (q_i b0)]) (rest := []) cx hB (fun _ h => h) hN hsrc ksrc (by decide) rfl (m_append l g hN hB.2.1 src hsrc ksrc b0 (by omega) (by omega) (0 + 4) (by decide) (by decide) z157) q_cX11_75 q_dX8_append (by decide) rfl rfl hl.1 rfl (Nat.le_of_ble_eq_true rfl) dX11_feed_33 (fun H locs f182 h184 hF hB => ?_)
    have z185 := h184
    have z186 : q_z f182 x 9 = 0 := (hF.z hx (by rw [kx]; rfl)).trans z158
    have z187 : q_z f182 src 2 = 0 := (hF.z hsrc (by rw [ksrc]; rfl)).trans z159
    have z188 : q_z f182 src 3 = (-1) := (hF.z hsrc (by rw [ksrc]; rfl)).trans z160
    have z189 : q_z f182 hist 1 = 0 := (hF.z hhist (by rw [khist]; rfl)).trans z161
    have z190 : q_z f182 hist 2 = 0 := (hF.z hhist (by rw [khist]; rfl)).trans z162
    have z191 : q_z f182 rep 1 = 0 := (hF.z hrep (by rw [krep]; rfl)).trans z163
    have z192 : q_z f182 now 3 = 0 := (hF.z hnow (by rw [know]; rfl)).trans z164
    have z193 : q_z f182 now 4 = 0 := (hF.z hnow (by rw [know]; rfl)).trans z165
    have z194 : q_z f182 now 5 = 0 := (hF.z hnow (by rw [know]; rfl)).trans z166
    have z195 : q_z f182 now 6 = 12 := (hF.z hnow (by rw [know]; rfl)).trans z167
    have z196 : q_z f182 now 10 = 3 := (hF.z hnow (by rw [know]; rfl)).trans z168
    have z197 : q_z f182 now 11 = 0 := (hF.z hnow (by rw [know]; rfl)).trans z169
    have z198 : q_z f182 now 12 = 0 := (hF.z hnow (by rw [know]; rfl)).trans z170
    have z199 : q_r f182 x 0 = src := (hF.r hx (by rw [kx]; rfl)).trans z171
    have z200 : q_r f182 x 1 = rdr := (hF.r hx (by rw [kx]; rfl)).trans z172
    have z201 : q_r f182 x 2 = scr := (hF.r hx (by rw [kx]; rfl)).trans z173
    have z202 : q_r f182 x 3 = fc := (hF.r hx (by rw [kx]; rfl)).trans z174
    have z203 : q_r f182 x 4 = hist := (hF.r hx (by rw [kx]; rfl)).trans z175
    have z204 : q_r f182 x 5 = rep := (hF.r hx (by rw [kx]; rfl)).trans z176
    have z205 : q_r f182 x 6 = now := (hF.r hx (by rw [kx]; rfl)).trans z177
    have z206 : q_r f182 x 7 = dr := (hF.r hx (by rw [kx]; rfl)).trans z178
    have z207 : q_r f182 x 8 = sv := (hF.r hx (by rw [kx]; rfl)).trans z179
    have z208 : q_r f182 fc 0 = tr := (hF.r hfc (by rw [kfc]; rfl)).trans z180
    refine q_ald_n cx dX11_feed_36 rfl (lv_at hl 0 rfl) ?_
    refine q_gX11_10 cx hB hx kx z199 dX11_feed_37 (fun hb209 kb209 => ?_)
    refine q_ild_n cx dX11_feed_40 rfl (lv_at hl 3 rfl) ?_
    refine q_cVv (As := [.int (q_i c0)]) (rest := []) cx hB (fun _ h => h) hN hsrc ksrc (by decide) rfl (m_append l g hN hB.2.1 src hsrc ksrc c0 (by omega) (by omega) ((0 + 4) + 4) (by decide) (by decide) z185) q_cX11_75 q_dX8_append (by decide) rfl rfl hl.1 rfl (Nat.le_of_ble_eq_true rfl) dX11_feed_41 (fun H locs f210 h212 hF hB => ?_)
    have z213 := h212
    have z214 : q_z f210 x 9 = 0 := (hF.z hx (by rw [kx]; rfl)).trans z186
    have z215 : q_z f210 src 2 = 0 := (hF.z hsrc (by rw [ksrc]; rfl)).trans z187
    have z216 : q_z f210 src 3 = (-1) := (hF.z hsrc (by rw [ksrc]; rfl)).trans z188
    have z217 : q_z f210 hist 1 = 0 := (hF.z hhist (by rw [khist]; rfl)).trans z189
    have z218 : q_z f210 hist 2 = 0 := (hF.z hhist (by rw [khist]; rfl)).trans z190
    have z219 : q_z f210 rep 1 = 0 := (hF.z hrep (by rw [krep]; rfl)).trans z191
    have z220 : q_z f210 now 3 = 0 := (hF.z hnow (by rw [know]; rfl)).trans z192
    have z221 : q_z f210 now 4 = 0 := (hF.z hnow (by rw [know]; rfl)).trans z193
    have z222 : q_z f210 now 5 = 0 := (hF.z hnow (by rw [know]; rfl)).trans z194
    have z223 : q_z f210 now 6 = 12 := (hF.z hnow (by rw [know]; rfl)).trans z195
    have z224 : q_z f210 now 10 = 3 := (hF.z hnow (by rw [know]; rfl)).trans z196
    have z225 : q_z f210 now 11 = 0 := (hF.z hnow (by rw [know]; rfl)).trans z197
    have z226 : q_z f210 now 12 = 0 := (hF.z hnow (by rw [know]; rfl)).trans z198
    have z227 : q_r f210 x 0 = src := (hF.r hx (by rw [kx]; rfl)).trans z199
    have z228 : q_r f210 x 1 = rdr := (hF.r hx (by rw [kx]; rfl)).trans z200
    have z229 : q_r f210 x 2 = scr := (hF.r hx (by rw [kx]; rfl)).trans z201
    have z230 : q_r f210 x 3 = fc := (hF.r hx (by rw [kx]; rfl)).trans z202
    have z231 : q_r f210 x 4 = hist := (hF.r hx (by rw [kx]; rfl)).trans z203
    have z232 : q_r f210 x 5 = rep := (hF.r hx (by rw [kx]; rfl)).trans z204
    have z233 : q_r f210 x 6 = now := (hF.r hx (by rw [kx]; rfl)).trans z205
    have z234 : q_r f210 x 7 = dr := (hF.r hx (by rw [kx]; rfl)).trans z206
    have z235 : q_r f210 x 8 = sv := (hF.r hx (by rw [kx]; rfl)).trans z207
    have z236 : q_r f210 fc 0 = tr := (hF.r hfc (by rw [kfc]; rfl)).trans z208
    refine q_ald_n cx dX11_feed_44 rfl (lv_at hl 0 rfl) ?_
    refine q_gX11_10 cx hB hx kx z227 dX11_feed_45 (fun hb237 kb237 => ?_)
    refine lv_iload cx.1 cx.2.1 dX11_feed_48 (lv_at hl 4 rfl) ?_
    refine q_cVv (As := [.int (q_i d0)]) (rest := []) cx hB (fun _ h => h) hN hsrc ksrc (by decide) rfl (m_append l g hN hB.2.1 src hsrc ksrc d0 (by omega) (by omega) (((0 + 4) + 4) + 4) (by decide) (by decide) z213) q_cX11_75 q_dX8_append (by decide) rfl rfl hl.1 rfl (Nat.le_of_ble_eq_true rfl) dX11_feed_50 (fun H locs f238 h240 hF hB => ?_)
    have z241 := h240
    have z242 : q_z f238 x 9 = 0 := (hF.z hx (by rw [kx]; rfl)).trans z214
    have z243 : q_z f238 src 2 = 0 := (hF.z hsrc (by rw [ksrc]; rfl)).trans z215
    have z244 : q_z f238 src 3 = (-1) := (hF.z hsrc (by rw [ksrc]; rfl)).trans z216
    have z245 : q_z f238 hist 1 = 0 := (hF.z hhist (by rw [khist]; rfl)).trans z217
    have z246 : q_z f238 hist 2 = 0 := (hF.z hhist (by rw [khist]; rfl)).trans z218
    have z247 : q_z f238 rep 1 = 0 := (hF.z hrep (by rw [krep]; rfl)).trans z219
    have z248 : q_z f238 now 3 = 0 := (hF.z hnow (by rw [know]; rfl)).trans z220
    have z249 : q_z f238 now 4 = 0 := (hF.z hnow (by rw [know]; rfl)).trans z221
    have z250 : q_z f238 now 5 = 0 := (hF.z hnow (by rw [know]; rfl)).trans z222
    have z251 : q_z f238 now 6 = 12 := (hF.z hnow (by rw [know]; rfl)).trans z223
    have z252 : q_z f238 now 10 = 3 := (hF.z hnow (by rw [know]; rfl)).trans z224
    have z253 : q_z f238 now 11 = 0 := (hF.z hnow (by rw [know]; rfl)).trans z225
    have z254 : q_z f238 now 12 = 0 := (hF.z hnow (by rw [know]; rfl)).trans z226
    have z255 : q_r f238 x 0 = src := (hF.r hx (by rw [kx]; rfl)).trans z227
    have z256 : q_r f238 x 1 = rdr := (hF.r hx (by rw [kx]; rfl)).trans z228
    have z257 : q_r f238 x 2 = scr := (hF.r hx (by rw [kx]; rfl)).trans z229
    have z258 : q_r f238 x 3 = fc := (hF.r hx (by rw [kx]; rfl)).trans z230
    have z259 : q_r f238 x 4 = hist := (hF.r hx (by rw [kx]; rfl)).trans z231
    have z260 : q_r f238 x 5 = rep := (hF.r hx (by rw [kx]; rfl)).trans z232
    have z261 : q_r f238 x 6 = now := (hF.r hx (by rw [kx]; rfl)).trans z233
    have z262 : q_r f238 x 7 = dr := (hF.r hx (by rw [kx]; rfl)).trans z234
    have z263 : q_r f238 x 8 = sv := (hF.r hx (by rw [kx]; rfl)).trans z235
    have z264 : q_r f238 fc 0 = tr := (hF.r hfc (by rw [kfc]; rfl)).trans z236
    refine q_ald_n cx dX11_feed_53 rfl (lv_at hl 0 rfl) ?_
    refine q_gX11_10 cx hB hx kx z255 dX11_feed_54 (fun hb265 kb265 => ?_)
    refine lv_iload cx.1 cx.2.1 dX11_feed_57 (lv_at hl 5 rfl) ?_
    refine q_cVv (As := [.int (q_i e0)]) (rest := []) cx hB (fun _ h => h) hN hsrc ksrc (by decide) rfl (m_append l g hN hB.2.1 src hsrc ksrc e0 (by omega) (by omega) ((((0 + 4) + 4) + 4) + 4) (by decide) (by decide) z241) q_cX11_75 q_dX8_append (by decide) rfl rfl hl.1 rfl (Nat.le_of_ble_eq_true rfl) dX11_feed_59 (fun H locs f266 h268 hF hB => ?_)
    have z269 := h268
    have z270 : q_z f266 x 9 = 0 := (hF.z hx (by rw [kx]; rfl)).trans z242
    have z271 : q_z f266 src 2 = 0 := (hF.z hsrc (by rw [ksrc]; rfl)).trans z243
    have z272 : q_z f266 src 3 = (-1) := (hF.z hsrc (by rw [ksrc]; rfl)).trans z244
    have z273 : q_z f266 hist 1 = 0 := (hF.z hhist (by rw [khist]; rfl)).trans z245
    have z274 : q_z f266 hist 2 = 0 := (hF.z hhist (by rw [khist]; rfl)).trans z246
    have z275 : q_z f266 rep 1 = 0 := (hF.z hrep (by rw [krep]; rfl)).trans z247
    have z276 : q_z f266 now 3 = 0 := (hF.z hnow (by rw [know]; rfl)).trans z248
    have z277 : q_z f266 now 4 = 0 := (hF.z hnow (by rw [know]; rfl)).trans z249
    have z278 : q_z f266 now 5 = 0 := (hF.z hnow (by rw [know]; rfl)).trans z250
    have z279 : q_z f266 now 6 = 12 := (hF.z hnow (by rw [know]; rfl)).trans z251
    have z280 : q_z f266 now 10 = 3 := (hF.z hnow (by rw [know]; rfl)).trans z252
    have z281 : q_z f266 now 11 = 0 := (hF.z hnow (by rw [know]; rfl)).trans z253
    have z282 : q_z f266 now 12 = 0 := (hF.z hnow (by rw [know]; rfl)).trans z254
    have z283 : q_r f266 x 0 = src := (hF.r hx (by rw [kx]; rfl)).trans z255
    have z284 : q_r f266 x 1 = rdr := (hF.r hx (by rw [kx]; rfl)).trans z256
    have z285 : q_r f266 x 2 = scr := (hF.r hx (by rw [kx]; rfl)).trans z257
    have z286 : q_r f266 x 3 = fc := (hF.r hx (by rw [kx]; rfl)).trans z258
    have z287 : q_r f266 x 4 = hist := (hF.r hx (by rw [kx]; rfl)).trans z259
    have z288 : q_r f266 x 5 = rep := (hF.r hx (by rw [kx]; rfl)).trans z260
    have z289 : q_r f266 x 6 = now := (hF.r hx (by rw [kx]; rfl)).trans z261
    have z290 : q_r f266 x 7 = dr := (hF.r hx (by rw [kx]; rfl)).trans z262
    have z291 : q_r f266 x 8 = sv := (hF.r hx (by rw [kx]; rfl)).trans z263
    have z292 : q_r f266 fc 0 = tr := (hF.r hfc (by rw [kfc]; rfl)).trans z264
    refine q_ald_n cx dX11_feed_62 rfl (lv_at hl 0 rfl) ?_
    refine q_gX11_10 cx hB hx kx z283 dX11_feed_63 (fun hb293 kb293 => ?_)
    refine q_gX11_79 cx hB hsrc ksrc z269 dX11_feed_66 (fun lb294 ub294 => ?_)
    refine q_iret cx hr hlk hB dX11_feed_69 ⟨by decide, by decide⟩ ?_
    exact (by omega)
  · exact absurd c152 (by omega)
set_option maxHeartbeats 4000000 in
set_option maxRecDepth 100000 in
theorem x_truncatea (l : Launch) (g : q_G) {K : Nat → Nat} {L : List Nat} (hN : L.Nodup) {f : Nat → va_E} (hT : q_Ty g K L f) (hfl : l.stackTraces = false) (x : Nat) (hx : x ∈ L) (kx : K x = 11) (a0 : Int) (la0 : (-2147483648) ≤ a0) (ua0 : a0 ≤ (-1)) (src : Nat) (hsrc : src ∈ L) (ksrc : K src = 8) (rdr : Nat) (hrdr : rdr ∈ L) (krdr : K rdr = 9) (scr : Nat) (hscr : scr ∈ L) (kscr : K scr = 7) (fc : Nat) (hfc : fc ∈ L) (kfc : K fc = 1) (hist : Nat) (hhist : hist ∈ L) (khist : K hist = 2) (rep : Nat) (hrep : rep ∈ L) (krep : K rep = 6) (now : Nat) (hnow : now ∈ L) (know : K now = 10) (dr : Nat) (hdr : dr ∈ L) (kdr : K dr = 13) (sv : Nat) (hsv : sv ∈ L) (ksv : K sv = 14) (tr : Nat) (htr : tr ∈ L) (ktr : K tr = 15) (hf0 : q_z f x 9 = 0) (hf1 : q_z f src 1 = 0) (hf2 : q_z f src 2 = 0) (hf3 : q_z f src 3 = (-1)) (hf4 : q_z f hist 1 = 0) (hf5 : q_z f hist 2 = 0) (hf6 : q_z f rep 1 = 0) (hf7 : q_z f now 3 = 0) (hf8 : q_z f now 4 = 0) (hf9 : q_z f now 5 = 0) (hf10 : q_z f now 6 = 12) (hf11 : q_z f now 10 = 3) (hf12 : q_z f now 11 = 0) (hf13 : q_z f now 12 = 0) (hr0 : q_r f x 0 = src) (hr1 : q_r f x 1 = rdr) (hr2 : q_r f x 2 = scr) (hr3 : q_r f x 3 = fc) (hr4 : q_r f x 4 = hist) (hr5 : q_r f x 5 = rep) (hr6 : q_r f x 6 = now) (hr7 : q_r f x 7 = dr) (hr8 : q_r f x 8 = sv) (hr9 : q_r f fc 0 = tr) : q_Xt l g K L yX11_truncate cX11_truncate 2 (some .int) 6 82 1 6 [.ref x, .int (q_i a0)] f [] (q_Pi (fun (z : Int) (f1 : Nat → va_E) => False)) (fun (E : String) (f1 : Nat → va_E) => E = "java/lang/IllegalArgumentException" ∧ f = f1) := by
  refine q_xofb (by decide +kernel) hN hT (Nat.le_of_ble_eq_true rfl) ?_
  intro p e s m below meth c ls cx hr hlk htab hX hB hl
  have hl : lv_has ls 2 [(0, .ref x), (1, .int (q_i a0))] := hl
  obtain ⟨H, hH⟩ : ∃ H : Heap, H = s.heap := ⟨_, rfl⟩
  obtain ⟨locs, hlocs⟩ : ∃ z : List Loc, z = [] := ⟨_, rfl⟩
  rw [← hH, ← hlocs] at hB
  rw [← hH, ← hlocs]
  refine q_ild_n cx dX11_truncate_0 rfl (lv_at hl 1 rfl) ?_
  refine q_iflt (tgt := 15) cx ⟨by omega, by omega⟩ dX11_truncate_1 (by decide) (fun c2 => ?_) (fun c2 => ?_)
  · exact q_throw (text := "no such length") hfl cx hlk htab hX hB hl.1 (by decide +kernel) q_h880 q_h152 (by decide +kernel) q_xl87a q_xl87b q_xl87c dX11_truncate_15 dX11_truncate_18 (Or.inl ⟨dX11_truncate_19, dX11_truncate_21, dX11_truncate_24⟩) (by decide) (by decide) ⟨rfl, rfl⟩
  · exact absurd c2 (by omega)
set_option maxHeartbeats 4000000 in
set_option maxRecDepth 100000 in
theorem x_truncateb (l : Launch) (g : q_G) {K : Nat → Nat} {L : List Nat} (hN : L.Nodup) {f : Nat → va_E} (hT : q_Ty g K L f) (x : Nat) (hx : x ∈ L) (kx : K x = 11) (a0 : Int) (la0 : 0 ≤ a0) (ua0 : a0 ≤ 0) (src : Nat) (hsrc : src ∈ L) (ksrc : K src = 8) (rdr : Nat) (hrdr : rdr ∈ L) (krdr : K rdr = 9) (scr : Nat) (hscr : scr ∈ L) (kscr : K scr = 7) (fc : Nat) (hfc : fc ∈ L) (kfc : K fc = 1) (hist : Nat) (hhist : hist ∈ L) (khist : K hist = 2) (rep : Nat) (hrep : rep ∈ L) (krep : K rep = 6) (now : Nat) (hnow : now ∈ L) (know : K now = 10) (dr : Nat) (hdr : dr ∈ L) (kdr : K dr = 13) (sv : Nat) (hsv : sv ∈ L) (ksv : K sv = 14) (tr : Nat) (htr : tr ∈ L) (ktr : K tr = 15) (hf0 : q_z f x 9 = 0) (hf1 : q_z f src 1 = 0) (hf2 : q_z f src 2 = 0) (hf3 : q_z f src 3 = (-1)) (hf4 : q_z f hist 1 = 0) (hf5 : q_z f hist 2 = 0) (hf6 : q_z f rep 1 = 0) (hf7 : q_z f now 3 = 0) (hf8 : q_z f now 4 = 0) (hf9 : q_z f now 5 = 0) (hf10 : q_z f now 6 = 12) (hf11 : q_z f now 10 = 3) (hf12 : q_z f now 11 = 0) (hf13 : q_z f now 12 = 0) (hr0 : q_r f x 0 = src) (hr1 : q_r f x 1 = rdr) (hr2 : q_r f x 2 = scr) (hr3 : q_r f x 3 = fc) (hr4 : q_r f x 4 = hist) (hr5 : q_r f x 5 = rep) (hr6 : q_r f x 6 = now) (hr7 : q_r f x 7 = dr) (hr8 : q_r f x 8 = sv) (hr9 : q_r f fc 0 = tr) : q_Ct l g K L yX11_truncate cX11_truncate 2 (some .int) 0 0 [.ref x, .int (q_i a0)] f [(11, 9, 9), (8, 1, 9), (9, 0, 2), (7, 1, 4), (2, 1, 2), (6, 1, 1), (10, 3, 15), (13, 3, 15), (14, 3, 15), (15, 3, 15), (16, 3, 15), (142, 0, 599)] (q_Pi (fun (z : Int) (f1 : Nat → va_E) => z = 0)) := by
  obtain rfl : a0 = 0 := by omega
  refine q_ofb (by decide +kernel) hN hT (Nat.le_of_ble_eq_true rfl) ?_
  intro p e s m below meth c ls cx hr hlk hB hl
  have hl : lv_has ls 2 [(0, .ref x), (1, .int (q_i 0))] := hl
  obtain ⟨H, hH⟩ : ∃ H : Heap, H = s.heap := ⟨_, rfl⟩
  obtain ⟨locs, hlocs⟩ : ∃ z : List Loc, z = [] := ⟨_, rfl⟩
  rw [← hH, ← hlocs] at hB
  rw [← hH, ← hlocs]
  refine q_ild_n cx dX11_truncate_0 rfl (lv_at hl 1 rfl) ?_
  refine q_iflt (tgt := 15) cx ⟨by decide, by decide⟩ dX11_truncate_1 (by decide) (fun c31 => ?_) (fun c31 => ?_)
  · exact absurd c31 (by omega)
  · refine q_ild_n cx dX11_truncate_4 rfl (lv_at hl 1 rfl) ?_
    refine q_ald_n cx dX11_truncate_5 rfl (lv_at hl 0 rfl) ?_
    refine q_gX11_10 cx hB hx kx hr0 dX11_truncate_6 (fun hb32 kb32 => ?_)
    refine q_gX11_79 cx hB hsrc ksrc hf1 dX11_truncate_9 (fun lb33 ub33 => ?_)
    refine q_icle (tgt := 25) cx ⟨by decide, by decide⟩ ⟨by decide, by decide⟩ dX11_truncate_12 (by decide) (fun c34 => ?_) (fun c34 => ?_)
    · refine q_ald_n cx dX11_truncate_25 rfl (lv_at hl 0 rfl) ?_
      refine q_gX11_10 cx hB hx kx hr0 dX11_truncate_26 (fun hb35 kb35 => ?_)
      refine q_ild_n cx dX11_truncate_29 rfl (lv_at hl 1 rfl) ?_
      refine q_pX11_79 cx hB hsrc ksrc ⟨by decide, by decide⟩ (by decide) (by decide) rfl dX11_truncate_30 (fun H locs f36 ef36 z37 hB => ?_)
      have z38 : q_z f36 x 9 = 0 := by rw [ef36, q_setz (Or.inr (by decide))]; exact hf0
      have z39 : q_z f36 src 2 = 0 := by rw [ef36, q_setz (Or.inr (by decide))]; exact hf2
      have z40 : q_z f36 src 3 = (-1) := by rw [ef36, q_setz (Or.inr (by decide))]; exact hf3
      have z41 : q_z f36 hist 1 = 0 := by rw [ef36, q_setz (Or.inl (fun q => by rw [q, ksrc] at khist; exact absurd khist (by decide)))]; exact hf4
      have z42 : q_z f36 hist 2 = 0 := by rw [ef36, q_setz (Or.inr (by decide))]; exact hf5
      have z43 : q_z f36 rep 1 = 0 := by rw [ef36, q_setz (Or.inl (fun q => by rw [q, ksrc] at krep; exact absurd krep (by decide)))]; exact hf6
      have z44 : q_z f36 now 3 = 0 := by rw [ef36, q_setz (Or.inr (by decide))]; exact hf7
      have z45 : q_z f36 now 4 = 0 := by rw [ef36, q_setz (Or.inr (by decide))]; exact hf8
      have z46 : q_z f36 now 5 = 0 := by rw [ef36, q_setz (Or.inr (by decide))]; exact hf9
      have z47 : q_z f36 now 6 = 12 := by rw [ef36, q_setz (Or.inr (by decide))]; exact hf10
      have z48 : q_z f36 now 10 = 3 := by rw [ef36, q_setz (Or.inr (by decide))]; exact hf11
      have z49 : q_z f36 now 11 = 0 := by rw [ef36, q_setz (Or.inr (by decide))]; exact hf12
      have z50 : q_z f36 now 12 = 0 := by rw [ef36, q_setz (Or.inr (by decide))]; exact hf13
      have z51 : q_r f36 x 0 = src := by rw [ef36, q_setr (Or.inr (by decide))]; exact hr0
      have z52 : q_r f36 x 1 = rdr := by rw [ef36, q_setr (Or.inl (fun q => by rw [q, ksrc] at kx; exact absurd kx (by decide)))]; exact hr1
      have z53 : q_r f36 x 2 = scr := by rw [ef36, q_setr (Or.inr (by decide))]; exact hr2
      have z54 : q_r f36 x 3 = fc := by rw [ef36, q_setr (Or.inr (by decide))]; exact hr3
      have z55 : q_r f36 x 4 = hist := by rw [ef36, q_setr (Or.inr (by decide))]; exact hr4
      have z56 : q_r f36 x 5 = rep := by rw [ef36, q_setr (Or.inr (by decide))]; exact hr5
      have z57 : q_r f36 x 6 = now := by rw [ef36, q_setr (Or.inr (by decide))]; exact hr6
      have z58 : q_r f36 x 7 = dr := by rw [ef36, q_setr (Or.inr (by decide))]; exact hr7
      have z59 : q_r f36 x 8 = sv := by rw [ef36, q_setr (Or.inr (by decide))]; exact hr8
      have z60 : q_r f36 fc 0 = tr := by rw [ef36, q_setr (Or.inr (by decide))]; exact hr9
      refine q_ild_n cx dX11_truncate_33 rfl (lv_at hl 1 rfl) ?_
      refine q_iret cx hr hlk hB dX11_truncate_34 ⟨by decide, by decide⟩ ?_
      exact rfl
    · exact absurd c34 (by omega)
set_option maxHeartbeats 4000000 in
set_option maxRecDepth 100000 in
theorem x_truncatec (l : Launch) (g : q_G) {K : Nat → Nat} {L : List Nat} (hN : L.Nodup) {f : Nat → va_E} (hT : q_Ty g K L f) (hfl : l.stackTraces = false) (x : Nat) (hx : x ∈ L) (kx : K x = 11) (a0 : Int) (la0 : 1 ≤ a0) (ua0 : a0 ≤ 2147483647) (src : Nat) (hsrc : src ∈ L) (ksrc : K src = 8) (rdr : Nat) (hrdr : rdr ∈ L) (krdr : K rdr = 9) (scr : Nat) (hscr : scr ∈ L) (kscr : K scr = 7) (fc : Nat) (hfc : fc ∈ L) (kfc : K fc = 1) (hist : Nat) (hhist : hist ∈ L) (khist : K hist = 2) (rep : Nat) (hrep : rep ∈ L) (krep : K rep = 6) (now : Nat) (hnow : now ∈ L) (know : K now = 10) (dr : Nat) (hdr : dr ∈ L) (kdr : K dr = 13) (sv : Nat) (hsv : sv ∈ L) (ksv : K sv = 14) (tr : Nat) (htr : tr ∈ L) (ktr : K tr = 15) (hf0 : q_z f x 9 = 0) (hf1 : q_z f src 1 = 0) (hf2 : q_z f src 2 = 0) (hf3 : q_z f src 3 = (-1)) (hf4 : q_z f hist 1 = 0) (hf5 : q_z f hist 2 = 0) (hf6 : q_z f rep 1 = 0) (hf7 : q_z f now 3 = 0) (hf8 : q_z f now 4 = 0) (hf9 : q_z f now 5 = 0) (hf10 : q_z f now 6 = 12) (hf11 : q_z f now 10 = 3) (hf12 : q_z f now 11 = 0) (hf13 : q_z f now 12 = 0) (hr0 : q_r f x 0 = src) (hr1 : q_r f x 1 = rdr) (hr2 : q_r f x 2 = scr) (hr3 : q_r f x 3 = fc) (hr4 : q_r f x 4 = hist) (hr5 : q_r f x 5 = rep) (hr6 : q_r f x 6 = now) (hr7 : q_r f x 7 = dr) (hr8 : q_r f x 8 = sv) (hr9 : q_r f fc 0 = tr) : q_Xt l g K L yX11_truncate cX11_truncate 2 (some .int) 6 82 1 6 [.ref x, .int (q_i a0)] f [] (q_Pi (fun (z : Int) (f1 : Nat → va_E) => False)) (fun (E : String) (f1 : Nat → va_E) => E = "java/lang/IllegalArgumentException" ∧ f = f1) := by
  refine q_xofb (by decide +kernel) hN hT (Nat.le_of_ble_eq_true rfl) ?_
  intro p e s m below meth c ls cx hr hlk htab hX hB hl
  have hl : lv_has ls 2 [(0, .ref x), (1, .int (q_i a0))] := hl
  obtain ⟨H, hH⟩ : ∃ H : Heap, H = s.heap := ⟨_, rfl⟩
  obtain ⟨locs, hlocs⟩ : ∃ z : List Loc, z = [] := ⟨_, rfl⟩
  rw [← hH, ← hlocs] at hB
  rw [← hH, ← hlocs]
  refine q_ild_n cx dX11_truncate_0 rfl (lv_at hl 1 rfl) ?_
  refine q_iflt (tgt := 15) cx ⟨by omega, by omega⟩ dX11_truncate_1 (by decide) (fun c5 => ?_) (fun c5 => ?_)
  · exact absurd c5 (by omega)
  · refine q_ild_n cx dX11_truncate_4 rfl (lv_at hl 1 rfl) ?_
    refine q_ald_n cx dX11_truncate_5 rfl (lv_at hl 0 rfl) ?_
    refine q_gX11_10 cx hB hx kx hr0 dX11_truncate_6 (fun hb6 kb6 => ?_)
    refine q_gX11_79 cx hB hsrc ksrc hf1 dX11_truncate_9 (fun lb7 ub7 => ?_)
    refine q_icle (tgt := 25) cx ⟨by omega, by omega⟩ ⟨by decide, by decide⟩ dX11_truncate_12 (by decide) (fun c8 => ?_) (fun c8 => ?_)
    · exact absurd c8 (by omega)
    · exact q_throw (text := "no such length") hfl cx hlk htab hX hB hl.1 (by decide +kernel) q_h880 q_h152 (by decide +kernel) q_xl87a q_xl87b q_xl87c dX11_truncate_15 dX11_truncate_18 (Or.inl ⟨dX11_truncate_19, dX11_truncate_21, dX11_truncate_24⟩) (by decide) (by decide) ⟨rfl, rfl⟩
set_option maxHeartbeats 4000000 in
set_option maxRecDepth 100000 in
theorem x_readText (l : Launch) (g : q_G) {K : Nat → Nat} {L : List Nat} (hN : L.Nodup) {f : Nat → va_E} (hT : q_Ty g K L f) (x : Nat) (hx : x ∈ L) (kx : K x = 11) (src : Nat) (hsrc : src ∈ L) (ksrc : K src = 8) (rdr : Nat) (hrdr : rdr ∈ L) (krdr : K rdr = 9) (scr : Nat) (hscr : scr ∈ L) (kscr : K scr = 7) (fc : Nat) (hfc : fc ∈ L) (kfc : K fc = 1) (hist : Nat) (hhist : hist ∈ L) (khist : K hist = 2) (rep : Nat) (hrep : rep ∈ L) (krep : K rep = 6) (now : Nat) (hnow : now ∈ L) (know : K now = 10) (dr : Nat) (hdr : dr ∈ L) (kdr : K dr = 13) (sv : Nat) (hsv : sv ∈ L) (ksv : K sv = 14) (tr : Nat) (htr : tr ∈ L) (ktr : K tr = 15) (hf0 : q_z f x 9 = 0) (hf1 : q_z f src 1 = 0) (hf2 : q_z f src 2 = 0) (hf3 : q_z f src 3 = (-1)) (hf4 : q_z f hist 1 = 0) (hf5 : q_z f hist 2 = 0) (hf6 : q_z f rep 1 = 0) (hf7 : q_z f now 3 = 0) (hf8 : q_z f now 4 = 0) (hf9 : q_z f now 5 = 0) (hf10 : q_z f now 6 = 12) (hf11 : q_z f now 10 = 3) (hf12 : q_z f now 11 = 0) (hf13 : q_z f now 12 = 0) (hr0 : q_r f x 0 = src) (hr1 : q_r f x 1 = rdr) (hr2 : q_r f x 2 = scr) (hr3 : q_r f x 3 = fc) (hr4 : q_r f x 4 = hist) (hr5 : q_r f x 5 = rep) (hr6 : q_r f x 6 = now) (hr7 : q_r f x 7 = dr) (hr8 : q_r f x 8 = sv) (hr9 : q_r f fc 0 = tr) : q_Ct l g K L yX11_readText cX11_readText 2 (some .int) 4 85 [.ref x] f [(11, 9, 9), (8, 1, 9), (9, 0, 2), (7, 1, 4), (2, 1, 2), (6, 1, 1), (10, 3, 15), (13, 3, 15), (14, 3, 15), (15, 3, 15), (16, 3, 15), (142, 0, 599)] (q_Pi (fun (z : Int) (f1 : Nat → va_E) => z = 0)) := by
  refine q_ofb (by decide +kernel) hN hT (Nat.le_of_ble_eq_true rfl) ?_
  intro p e s m below meth c ls cx hr hlk hB hl
  have hl : lv_has ls 2 [(0, .ref x)] := hl
  obtain ⟨H, hH⟩ : ∃ H : Heap, H = s.heap := ⟨_, rfl⟩
  obtain ⟨locs, hlocs⟩ : ∃ z : List Loc, z = [] := ⟨_, rfl⟩
  rw [← hH, ← hlocs] at hB
  rw [← hH, ← hlocs]
  refine q_ald_n cx dX11_readText_0 rfl (lv_at hl 0 rfl) ?_
  refine q_gX11_19 cx hB hx kx hr1 dX11_readText_1 (fun hb145 kb145 => ?_)
  refine q_ald_n cx dX11_readText_4 rfl (lv_at hl 0 rfl) ?_
  refine q_gX11_10 cx hB hx kx hr0 dX11_readText_5 (fun hb146 kb146 => ?_)
  refine q_ald_n cx dX11_readText_8 rfl (lv_at hl 0 rfl) ?_
  refine q_gX11_58 cx hB hx kx hr7 dX11_readText_9 (fun hb147 kb147 => ?_)
  refine q_cVi (As := [.ref src, .ref dr]) (rest := []) cx hB (fun _ h => h) hN hrdr krdr (by decide) rfl (m_readText0 l g hN hB.2.1 rdr hrdr krdr src hsrc ksrc dr hdr kdr hf1) q_cX11_88 q_dX9_readAll (by decide) rfl rfl hl.1 rfl (Nat.le_of_ble_eq_true rfl) dX11_readText_12 (fun y149 H locs f148 ry149 h150 hF hB => ?_)
  obtain ⟨qy149, z151, z152, z153, z154, z155, z156, z157, z158, z159⟩ := h150
  have z160 : q_z f148 x 9 = 0 := (hF.z hx (by rw [kx]; rfl)).trans hf0
  have z161 : q_z f148 src 1 = 0 := (hF.z hsrc (by rw [ksrc]; rfl)).trans hf1
  have z162 : q_z f148 hist 1 = 0 := (hF.z hhist (by rw [khist]; rfl)).trans hf4
  have z163 : q_z f148 hist 2 = 0 := (hF.z hhist (by rw [khist]; rfl)).trans hf5
  have z164 : q_z f148 rep 1 = 0 := (hF.z hrep (by rw [krep]; rfl)).trans hf6
  have z165 : q_z f148 now 3 = 0 := (hF.z hnow (by rw [know]; rfl)).trans hf7
  have z166 : q_z f148 now 4 = 0 := (hF.z hnow (by rw [know]; rfl)).trans hf8
  have z167 : q_z f148 now 5 = 0 := (hF.z hnow (by rw [know]; rfl)).trans hf9
  have z168 : q_z f148 now 6 = 12 := (hF.z hnow (by rw [know]; rfl)).trans hf10
  have z169 : q_z f148 now 10 = 3 := (hF.z hnow (by rw [know]; rfl)).trans hf11
  have z170 : q_z f148 now 11 = 0 := (hF.z hnow (by rw [know]; rfl)).trans hf12
  have z171 : q_z f148 now 12 = 0 := (hF.z hnow (by rw [know]; rfl)).trans hf13
  have z172 : q_r f148 x 0 = src := (hF.r hx (by rw [kx]; rfl)).trans hr0
  have z173 : q_r f148 x 1 = rdr := (hF.r hx (by rw [kx]; rfl)).trans hr1
  have z174 : q_r f148 x 2 = scr := (hF.r hx (by rw [kx]; rfl)).trans hr2
  have z175 : q_r f148 x 3 = fc := (hF.r hx (by rw [kx]; rfl)).trans hr3
  have z176 : q_r f148 x 4 = hist := (hF.r hx (by rw [kx]; rfl)).trans hr4
  have z177 : q_r f148 x 5 = rep := (hF.r hx (by rw [kx]; rfl)).trans hr5
  have z178 : q_r f148 x 6 = now := (hF.r hx (by rw [kx]; rfl)).trans hr6
  have z179 : q_r f148 x 7 = dr := (hF.r hx (by rw [kx]; rfl)).trans hr7
  have z180 : q_r f148 x 8 = sv := (hF.r hx (by rw [kx]; rfl)).trans hr8
  have z181 : q_r f148 fc 0 = tr := (hF.r hfc (by rw [kfc]; rfl)).trans hr9
  subst qy149
  refine lv_istore_n (lv' := [(1, .int (q_i 1)), (0, .ref x)]) cx.1 cx.2.1 dX11_readText_15 rfl hl (by decide) rfl (fun ls hl => ?_)
  refine q_ald_n cx dX11_readText_16 rfl (lv_at hl 1 rfl) ?_
  refine q_gX11_10 cx hB hx kx z172 dX11_readText_17 (fun hb182 kb182 => ?_)
  refine q_iconst cx dX11_readText_20 ?_
  refine q_pX11_79 cx hB hsrc ksrc ⟨by decide, by decide⟩ (by decide) (by decide) rfl dX11_readText_21 (fun H locs f183 ef183 z184 hB => ?_)
  have z185 : q_z f183 x 9 = 0 := by rw [ef183, q_setz (Or.inr (by decide))]; exact z160
  have z186 : q_z f183 hist 1 = 0 := by rw [ef183, q_setz (Or.inl (fun q => by rw [q, ksrc] at khist; exact absurd khist (by decide)))]; exact z162
  have z187 : q_z f183 hist 2 = 0 := by rw [ef183, q_setz (Or.inr (by decide))]; exact z163
  have z188 : q_z f183 rep 1 = 0 := by rw [ef183, q_setz (Or.inl (fun q => by rw [q, ksrc] at krep; exact absurd krep (by decide)))]; exact z164
  have z189 : q_z f183 now 3 = 0 := by rw [ef183, q_setz (Or.inr (by decide))]; exact z165
  have z190 : q_z f183 now 4 = 0 := by rw [ef183, q_setz (Or.inr (by decide))]; exact z166
  have z191 : q_z f183 now 5 = 0 := by rw [ef183, q_setz (Or.inr (by decide))]; exact z167
  have z192 : q_z f183 now 6 = 12 := by rw [ef183, q_setz (Or.inr (by decide))]; exact z168
  have z193 : q_z f183 now 10 = 3 := by rw [ef183, q_setz (Or.inr (by decide))]; exact z169
  have z194 : q_z f183 now 11 = 0 := by rw [ef183, q_setz (Or.inr (by decide))]; exact z170
  have z195 : q_z f183 now 12 = 0 := by rw [ef183, q_setz (Or.inr (by decide))]; exact z171
  have z196 : q_z f183 src 2 = 0 := by rw [ef183, q_setz (Or.inr (by decide))]; exact z151
  have z197 : q_z f183 src 3 = (-1) := by rw [ef183, q_setz (Or.inr (by decide))]; exact z152
  have z198 : q_z f183 dr 3 = 0 := by rw [ef183, q_setz (Or.inr (by decide))]; exact z153
  have z199 : q_z f183 dr 4 = 0 := by rw [ef183, q_setz (Or.inr (by decide))]; exact z154
  have z200 : q_z f183 dr 5 = 0 := by rw [ef183, q_setz (Or.inr (by decide))]; exact z155
  have z201 : q_z f183 dr 6 = 12 := by rw [ef183, q_setz (Or.inr (by decide))]; exact z156
  have z202 : q_z f183 dr 10 = 3 := by rw [ef183, q_setz (Or.inr (by decide))]; exact z157
  have z203 : q_z f183 dr 11 = 0 := by rw [ef183, q_setz (Or.inr (by decide))]; exact z158
  have z204 : q_z f183 dr 12 = 0 := by rw [ef183, q_setz (Or.inr (by decide))]; exact z159
  have z205 : q_r f183 x 0 = src := by rw [ef183, q_setr (Or.inr (by decide))]; exact z172
  have z206 : q_r f183 x 1 = rdr := by rw [ef183, q_setr (Or.inl (fun q => by rw [q, ksrc] at kx; exact absurd kx (by decide)))]; exact z173
  have z207 : q_r f183 x 2 = scr := by rw [ef183, q_setr (Or.inr (by decide))]; exact z174
  have z208 : q_r f183 x 3 = fc := by rw [ef183, q_setr (Or.inr (by decide))]; exact z175
  have z209 : q_r f183 x 4 = hist := by rw [ef183, q_setr (Or.inr (by decide))]; exact z176
  have z210 : q_r f183 x 5 = rep := by rw [ef183, q_setr (Or.inr (by decide))]; exact z177
  have z211 : q_r f183 x 6 = now := by rw [ef183, q_setr (Or.inr (by decide))]; exact z178
  have z212 : q_r f183 x 7 = dr := by rw [ef183, q_setr (Or.inr (by decide))]; exact z179
  have z213 : q_r f183 x 8 = sv := by rw [ef183, q_setr (Or.inr (by decide))]; exact z180
  have z214 : q_r f183 fc 0 = tr := by rw [ef183, q_setr (Or.inr (by decide))]; exact z181
  refine q_ild_n cx dX11_readText_24 rfl (lv_at hl 0 rfl) ?_
  refine q_ifne (tgt := 38) cx ⟨by decide, by decide⟩ dX11_readText_25 (by decide) (fun c215 => ?_) (fun c215 => ?_)
  · refine q_ald_n cx dX11_readText_38 rfl (lv_at hl 1 rfl) ?_
    refine q_gX11_54 cx hB hx kx z211 dX11_readText_39 (fun hb216 kb216 => ?_)
    refine q_ald_n cx dX11_readText_42 rfl (lv_at hl 1 rfl) ?_
    refine q_gX11_58 cx hB hx kx z212 dX11_readText_43 (fun hb217 kb217 => ?_)
    refine q_cVv (As := [.ref dr]) (rest := []) cx hB (fun _ h => h) hN hnow know (by decide) rfl (m_copy0_01 l g hN hB.2.1 now hnow know dr hdr kdr z198 z199 z200 z201 z202 z203 z204) q_cX11_94 q_dX10_copyFrom (by decide) rfl rfl hl.1 rfl (Nat.le_of_ble_eq_true rfl) dX11_readText_46 (fun H locs f218 h220 hF hB => ?_)
    obtain ⟨z221, z222, z223, z224, z225, z226, z227⟩ := h220
    have z228 : q_z f218 x 9 = 0 := (hF.z hx (by rw [kx]; rfl)).trans z185
    have z229 : q_z f218 hist 1 = 0 := (hF.z hhist (by rw [khist]; rfl)).trans z186
    have z230 : q_z f218 hist 2 = 0 := (hF.z hhist (by rw [khist]; rfl)).trans z187
    have z231 : q_z f218 rep 1 = 0 := (hF.z hrep (by rw [krep]; rfl)).trans z188
    have z232 : q_z f218 src 2 = 0 := (hF.z hsrc (by rw [ksrc]; rfl)).trans z196
    have z233 : q_z f218 src 3 = (-1) := (hF.z hsrc (by rw [ksrc]; rfl)).trans z197
    have z234 : q_z f218 dr 3 = 0 := (hF.z hdr (by rw [kdr]; rfl)).trans z198
    have z235 : q_z f218 dr 4 = 0 := (hF.z hdr (by rw [kdr]; rfl)).trans z199
    have z236 : q_z f218 dr 5 = 0 := (hF.z hdr (by rw [kdr]; rfl)).trans z200
    have z237 : q_z f218 dr 6 = 12 := (hF.z hdr (by rw [kdr]; rfl)).trans z201
    have z238 : q_z f218 dr 10 = 3 := (hF.z hdr (by rw [kdr]; rfl)).trans z202
    have z239 : q_z f218 dr 11 = 0 := (hF.z hdr (by rw [kdr]; rfl)).trans z203
    have z240 : q_z f218 dr 12 = 0 := (hF.z hdr (by rw [kdr]; rfl)).trans z204
    have z241 : q_z f218 src 1 = 0 := (hF.z hsrc (by rw [ksrc]; rfl)).trans z184
    have z242 : q_r f218 x 0 = src := (hF.r hx (by rw [kx]; rfl)).trans z205
    have z243 : q_r f218 x 1 = rdr := (hF.r hx (by rw [kx]; rfl)).trans z206
    have z244 : q_r f218 x 2 = scr := (hF.r hx (by rw [kx]; rfl)).trans z207
    have z245 : q_r f218 x 3 = fc := (hF.r hx (by rw [kx]; rfl)).trans z208
    have z246 : q_r f218 x 4 = hist := (hF.r hx (by rw [kx]; rfl)).trans z209
    have z247 : q_r f218 x 5 = rep := (hF.r hx (by rw [kx]; rfl)).trans z210
    have z248 : q_r f218 x 6 = now := (hF.r hx (by rw [kx]; rfl)).trans z211
    have z249 : q_r f218 x 7 = dr := (hF.r hx (by rw [kx]; rfl)).trans z212
    have z250 : q_r f218 x 8 = sv := (hF.r hx (by rw [kx]; rfl)).trans z213
    have z251 : q_r f218 fc 0 = tr := (hF.r hfc (by rw [kfc]; rfl)).trans z214
    refine q_ald_n cx dX11_readText_49 rfl (lv_at hl 1 rfl) ?_
    refine q_gX11_40 cx hB hx kx z246 dX11_readText_50 (fun hb252 kb252 => ?_)
    refine q_cVv (As := []) (rest := []) cx hB (fun _ h => h) hN hhist khist (by decide) rfl (m_forget l g hN hB.2.1 hist hhist khist) q_cX11_98 q_dX2_forget (by decide) rfl rfl hl.1 rfl (Nat.le_of_ble_eq_true rfl) dX11_readText_53 (fun H locs f253 h255 hF hB => ?_)
    have z256 := h255
    have z257 : q_z f253 x 9 = 0 := (hF.z hx (by rw [kx]; rfl)).trans z228
    have z258 : q_z f253 hist 1 = 0 := (hF.z hhist (by rw [khist]; rfl)).trans z229
    have z259 : q_z f253 rep 1 = 0 := (hF.z hrep (by rw [krep]; rfl)).trans z231
    have z260 : q_z f253 src 2 = 0 := (hF.z hsrc (by rw [ksrc]; rfl)).trans z232
    have z261 : q_z f253 src 3 = (-1) := (hF.z hsrc (by rw [ksrc]; rfl)).trans z233
    have z262 : q_z f253 dr 3 = 0 := (hF.z hdr (by rw [kdr]; rfl)).trans z234
    have z263 : q_z f253 dr 4 = 0 := (hF.z hdr (by rw [kdr]; rfl)).trans z235
    have z264 : q_z f253 dr 5 = 0 := (hF.z hdr (by rw [kdr]; rfl)).trans z236
    have z265 : q_z f253 dr 6 = 12 := (hF.z hdr (by rw [kdr]; rfl)).trans z237
    have z266 : q_z f253 dr 10 = 3 := (hF.z hdr (by rw [kdr]; rfl)).trans z238
    have z267 : q_z f253 dr 11 = 0 := (hF.z hdr (by rw [kdr]; rfl)).trans z239
    have z268 : q_z f253 dr 12 = 0 := (hF.z hdr (by rw [kdr]; rfl)).trans z240
    have z269 : q_z f253 src 1 = 0 := (hF.z hsrc (by rw [ksrc]; rfl)).trans z241
    have z270 : q_z f253 now 3 = 0 := (hF.z hnow (by rw [know]; rfl)).trans z221
    have z271 : q_z f253 now 4 = 0 := (hF.z hnow (by rw [know]; rfl)).trans z222
    have z272 : q_z f253 now 5 = 0 := (hF.z hnow (by rw [know]; rfl)).trans z223
    have z273 : q_z f253 now 6 = 12 := (hF.z hnow (by rw [know]; rfl)).trans z224
    have z274 : q_z f253 now 10 = 3 := (hF.z hnow (by rw [know]; rfl)).trans z225
    have z275 : q_z f253 now 11 = 0 := (hF.z hnow (by rw [know]; rfl)).trans z226
    have z276 : q_z f253 now 12 = 0 := (hF.z hnow (by rw [know]; rfl)).trans z227
    have z277 : q_r f253 x 0 = src := (hF.r hx (by rw [kx]; rfl)).trans z242
    have z278 : q_r f253 x 1 = rdr := (hF.r hx (by rw [kx]; rfl)).trans z243
    have z279 : q_r f253 x 2 = scr := (hF.r hx (by rw [kx]; rfl)).trans z244
    have z280 : q_r f253 x 3 = fc := (hF.r hx (by rw [kx]; rfl)).trans z245
    have z281 : q_r f253 x 4 = hist := (hF.r hx (by rw [kx]; rfl)).trans z246
    have z282 : q_r f253 x 5 = rep := (hF.r hx (by rw [kx]; rfl)).trans z247
    have z283 : q_r f253 x 6 = now := (hF.r hx (by rw [kx]; rfl)).trans z248
    have z284 : q_r f253 x 7 = dr := (hF.r hx (by rw [kx]; rfl)).trans z249
    have z285 : q_r f253 x 8 = sv := (hF.r hx (by rw [kx]; rfl)).trans z250
    have z286 : q_r f253 fc 0 = tr := (hF.r hfc (by rw [kfc]; rfl)).trans z251
    refine q_ald_n cx dX11_readText_56 rfl (lv_at hl 1 rfl) ?_
    refine q_gX11_54 cx hB hx kx z283 dX11_readText_57 (fun hb287 kb287 => ?_)
    refine q_gX11_101 cx hB hnow know z270 dX11_readText_60 (fun lb288 ub288 => ?_)
    refine q_iret cx hr hlk hB dX11_readText_63 ⟨by decide, by decide⟩ ?_
    exact rfl
  · exact absurd c215 (by omega)
set_option maxHeartbeats 4000000 in
set_option maxRecDepth 100000 in
theorem x_runScript (l : Launch) (g : q_G) {K : Nat → Nat} {L : List Nat} (hN : L.Nodup) {f : Nat → va_E} (hT : q_Ty g K L f) (x : Nat) (hx : x ∈ L) (kx : K x = 11) (src : Nat) (hsrc : src ∈ L) (ksrc : K src = 8) (rdr : Nat) (hrdr : rdr ∈ L) (krdr : K rdr = 9) (scr : Nat) (hscr : scr ∈ L) (kscr : K scr = 7) (fc : Nat) (hfc : fc ∈ L) (kfc : K fc = 1) (hist : Nat) (hhist : hist ∈ L) (khist : K hist = 2) (rep : Nat) (hrep : rep ∈ L) (krep : K rep = 6) (now : Nat) (hnow : now ∈ L) (know : K now = 10) (dr : Nat) (hdr : dr ∈ L) (kdr : K dr = 13) (sv : Nat) (hsv : sv ∈ L) (ksv : K sv = 14) (tr : Nat) (htr : tr ∈ L) (ktr : K tr = 15) (hf0 : q_z f x 9 = 0) (hf1 : q_z f src 1 = 0) (hf2 : q_z f src 2 = 0) (hf3 : q_z f src 3 = (-1)) (hf4 : q_z f hist 1 = 0) (hf5 : q_z f hist 2 = 0) (hf6 : q_z f rep 1 = 0) (hf7 : q_z f now 3 = 0) (hf8 : q_z f now 4 = 0) (hf9 : q_z f now 5 = 0) (hf10 : q_z f now 6 = 12) (hf11 : q_z f now 10 = 3) (hf12 : q_z f now 11 = 0) (hf13 : q_z f now 12 = 0) (hr0 : q_r f x 0 = src) (hr1 : q_r f x 1 = rdr) (hr2 : q_r f x 2 = scr) (hr3 : q_r f x 3 = fc) (hr4 : q_r f x 4 = hist) (hr5 : q_r f x 5 = rep) (hr6 : q_r f x 6 = now) (hr7 : q_r f x 7 = dr) (hr8 : q_r f x 8 = sv) (hr9 : q_r f fc 0 = tr) : q_Ct l g K L yX11_runScript cX11_runScript 2 (some .int) 4 86 [.ref x] f [(11, 9, 9), (8, 1, 9), (9, 0, 2), (7, 1, 4), (2, 1, 2), (6, 1, 1), (10, 3, 15), (13, 3, 15), (14, 3, 15), (15, 3, 15), (16, 3, 15), (142, 0, 599)] (q_Pi (fun (z : Int) (f1 : Nat → va_E) => z = 0)) := by
  refine q_ofb (by decide +kernel) hN hT (Nat.le_of_ble_eq_true rfl) ?_
  intro p e s m below meth c ls cx hr hlk hB hl
  have hl : lv_has ls 2 [(0, .ref x)] := hl
  obtain ⟨H, hH⟩ : ∃ H : Heap, H = s.heap := ⟨_, rfl⟩
  obtain ⟨locs, hlocs⟩ : ∃ z : List Loc, z = [] := ⟨_, rfl⟩
  rw [← hH, ← hlocs] at hB
  rw [← hH, ← hlocs]
  refine q_ald_n cx dX11_runScript_0 rfl (lv_at hl 0 rfl) ?_
  refine q_gX11_26 cx hB hx kx hr2 dX11_runScript_1 (fun hb120 kb120 => ?_)
  refine q_ald_n cx dX11_runScript_4 rfl (lv_at hl 0 rfl) ?_
  refine q_gX11_10 cx hB hx kx hr0 dX11_runScript_5 (fun hb121 kb121 => ?_)
  refine q_ald_n cx dX11_runScript_8 rfl (lv_at hl 0 rfl) ?_
  refine q_gX11_54 cx hB hx kx hr6 dX11_runScript_9 (fun hb122 kb122 => ?_)
  refine q_cVi (As := [.ref src, .ref now]) (rest := []) cx hB (fun _ h => h) hN hscr kscr (by decide) rfl (m_readScript0 l g hN hB.2.1 scr hscr kscr src hsrc ksrc now hnow know hf1) q_cX11_104 q_dX7_readAll (by decide) rfl rfl hl.1 rfl (Nat.le_of_ble_eq_true rfl) dX11_runScript_12 (fun y124 H locs f123 ry124 h125 hF hB => ?_)
  obtain ⟨qy124, z126, z127, z128⟩ := h125
  have z129 : q_z f123 x 9 = 0 := (hF.z hx (by rw [kx]; rfl)).trans hf0
  have z130 : q_z f123 src 1 = 0 := (hF.z hsrc (by rw [ksrc]; rfl)).trans hf1
  have z131 : q_z f123 hist 1 = 0 := (hF.z hhist (by rw [khist]; rfl)).trans hf4
  have z132 : q_z f123 hist 2 = 0 := (hF.z hhist (by rw [khist]; rfl)).trans hf5
  have z133 : q_z f123 rep 1 = 0 := (hF.z hrep (by rw [krep]; rfl)).trans hf6
  have z134 : q_z f123 now 3 = 0 := (hF.z hnow (by rw [know]; rfl)).trans hf7
  have z135 : q_z f123 now 4 = 0 := (hF.z hnow (by rw [know]; rfl)).trans hf8
  have z136 : q_z f123 now 5 = 0 := (hF.z hnow (by rw [know]; rfl)).trans hf9
  have z137 : q_z f123 now 6 = 12 := (hF.z hnow (by rw [know]; rfl)).trans hf10
  have z138 : q_z f123 now 10 = 3 := (hF.z hnow (by rw [know]; rfl)).trans hf11
  have z139 : q_z f123 now 11 = 0 := (hF.z hnow (by rw [know]; rfl)).trans hf12
  have z140 : q_z f123 now 12 = 0 := (hF.z hnow (by rw [know]; rfl)).trans hf13
  have z141 : q_r f123 x 0 = src := (hF.r hx (by rw [kx]; rfl)).trans hr0
  have z142 : q_r f123 x 1 = rdr := (hF.r hx (by rw [kx]; rfl)).trans hr1
  have z143 : q_r f123 x 2 = scr := (hF.r hx (by rw [kx]; rfl)).trans hr2
  have z144 : q_r f123 x 3 = fc := (hF.r hx (by rw [kx]; rfl)).trans hr3
  have z145 : q_r f123 x 4 = hist := (hF.r hx (by rw [kx]; rfl)).trans hr4
  have z146 : q_r f123 x 5 = rep := (hF.r hx (by rw [kx]; rfl)).trans hr5
  have z147 : q_r f123 x 6 = now := (hF.r hx (by rw [kx]; rfl)).trans hr6
  have z148 : q_r f123 x 7 = dr := (hF.r hx (by rw [kx]; rfl)).trans hr7
  have z149 : q_r f123 x 8 = sv := (hF.r hx (by rw [kx]; rfl)).trans hr8
  have z150 : q_r f123 fc 0 = tr := (hF.r hfc (by rw [kfc]; rfl)).trans hr9
  subst qy124
  refine lv_istore_n (lv' := [(1, .int (q_i 1)), (0, .ref x)]) cx.1 cx.2.1 dX11_runScript_15 rfl hl (by decide) rfl (fun ls hl => ?_)
  refine q_ald_n cx dX11_runScript_16 rfl (lv_at hl 1 rfl) ?_
  refine q_gX11_10 cx hB hx kx z141 dX11_runScript_17 (fun hb151 kb151 => ?_)
  refine q_iconst cx dX11_runScript_20 ?_
  refine q_pX11_79 cx hB hsrc ksrc ⟨by decide, by decide⟩ (by decide) (by decide) rfl dX11_runScript_21 (fun H locs f152 ef152 z153 hB => ?_)
  have z154 : q_z f152 x 9 = 0 := by rw [ef152, q_setz (Or.inr (by decide))]; exact z129
  have z155 : q_z f152 hist 1 = 0 := by rw [ef152, q_setz (Or.inl (fun q => by rw [q, ksrc] at khist; exact absurd khist (by decide)))]; exact z131
  have z156 : q_z f152 hist 2 = 0 := by rw [ef152, q_setz (Or.inr (by decide))]; exact z132
  have z157 : q_z f152 rep 1 = 0 := by rw [ef152, q_setz (Or.inl (fun q => by rw [q, ksrc] at krep; exact absurd krep (by decide)))]; exact z133
  have z158 : q_z f152 now 3 = 0 := by rw [ef152, q_setz (Or.inr (by decide))]; exact z134
  have z159 : q_z f152 now 4 = 0 := by rw [ef152, q_setz (Or.inr (by decide))]; exact z135
  have z160 : q_z f152 now 5 = 0 := by rw [ef152, q_setz (Or.inr (by decide))]; exact z136
  have z161 : q_z f152 now 6 = 12 := by rw [ef152, q_setz (Or.inr (by decide))]; exact z137
  have z162 : q_z f152 now 10 = 3 := by rw [ef152, q_setz (Or.inr (by decide))]; exact z138
  have z163 : q_z f152 now 11 = 0 := by rw [ef152, q_setz (Or.inr (by decide))]; exact z139
  have z164 : q_z f152 now 12 = 0 := by rw [ef152, q_setz (Or.inr (by decide))]; exact z140
  have z165 : q_z f152 scr 1 = 0 := by rw [ef152, q_setz (Or.inl (fun q => by rw [q, ksrc] at kscr; exact absurd kscr (by decide)))]; exact z126
  have z166 : q_z f152 src 2 = 0 := by rw [ef152, q_setz (Or.inr (by decide))]; exact z127
  have z167 : q_z f152 src 3 = (-1) := by rw [ef152, q_setz (Or.inr (by decide))]; exact z128
  have z168 : q_r f152 x 0 = src := by rw [ef152, q_setr (Or.inr (by decide))]; exact z141
  have z169 : q_r f152 x 1 = rdr := by rw [ef152, q_setr (Or.inl (fun q => by rw [q, ksrc] at kx; exact absurd kx (by decide)))]; exact z142
  have z170 : q_r f152 x 2 = scr := by rw [ef152, q_setr (Or.inr (by decide))]; exact z143
  have z171 : q_r f152 x 3 = fc := by rw [ef152, q_setr (Or.inr (by decide))]; exact z144
  have z172 : q_r f152 x 4 = hist := by rw [ef152, q_setr (Or.inr (by decide))]; exact z145
  have z173 : q_r f152 x 5 = rep := by rw [ef152, q_setr (Or.inr (by decide))]; exact z146
  have z174 : q_r f152 x 6 = now := by rw [ef152, q_setr (Or.inr (by decide))]; exact z147
  have z175 : q_r f152 x 7 = dr := by rw [ef152, q_setr (Or.inr (by decide))]; exact z148
  have z176 : q_r f152 x 8 = sv := by rw [ef152, q_setr (Or.inr (by decide))]; exact z149
  have z177 : q_r f152 fc 0 = tr := by rw [ef152, q_setr (Or.inr (by decide))]; exact z150
  refine q_ild_n cx dX11_runScript_24 rfl (lv_at hl 0 rfl) ?_
  refine q_ifne (tgt := 38) cx ⟨by decide, by decide⟩ dX11_runScript_25 (by decide) (fun c178 => ?_) (fun c178 => ?_)
  · refine q_ald_n cx dX11_runScript_38 rfl (lv_at hl 1 rfl) ?_
    refine q_gX11_40 cx hB hx kx z172 dX11_runScript_39 (fun hb179 kb179 => ?_)
    refine q_ald_n cx dX11_runScript_42 rfl (lv_at hl 1 rfl) ?_
    refine q_gX11_54 cx hB hx kx z174 dX11_runScript_43 (fun hb180 kb180 => ?_)
    refine q_cVv (As := [.ref now]) (rest := []) cx hB (fun _ h => h) hN hhist khist (by decide) rfl (m_keep0 l g hN hB.2.1 hist hhist khist now hnow know z155 z156 z158 z159 z160 z161 z162 z163 z164) q_cX11_107 q_dX2_keep (by decide) rfl rfl hl.1 rfl (Nat.le_of_ble_eq_true rfl) dX11_runScript_46 (fun H locs f181 h183 hF hB => ?_)
    obtain ⟨z184, z185⟩ := h183
    have z186 : q_z f181 x 9 = 0 := (hF.z hx (by rw [kx]; rfl)).trans z154
    have z187 : q_z f181 rep 1 = 0 := (hF.z hrep (by rw [krep]; rfl)).trans z157
    have z188 : q_z f181 now 3 = 0 := (hF.z hnow (by rw [know]; rfl)).trans z158
    have z189 : q_z f181 now 4 = 0 := (hF.z hnow (by rw [know]; rfl)).trans z159
    have z190 : q_z f181 now 5 = 0 := (hF.z hnow (by rw [know]; rfl)).trans z160
    have z191 : q_z f181 now 6 = 12 := (hF.z hnow (by rw [know]; rfl)).trans z161
    have z192 : q_z f181 now 10 = 3 := (hF.z hnow (by rw [know]; rfl)).trans z162
    have z193 : q_z f181 now 11 = 0 := (hF.z hnow (by rw [know]; rfl)).trans z163
    have z194 : q_z f181 now 12 = 0 := (hF.z hnow (by rw [know]; rfl)).trans z164
    have z195 : q_z f181 scr 1 = 0 := (hF.z hscr (by rw [kscr]; rfl)).trans z165
    have z196 : q_z f181 src 2 = 0 := (hF.z hsrc (by rw [ksrc]; rfl)).trans z166
    have z197 : q_z f181 src 3 = (-1) := (hF.z hsrc (by rw [ksrc]; rfl)).trans z167
    have z198 : q_z f181 src 1 = 0 := (hF.z hsrc (by rw [ksrc]; rfl)).trans z153
    have z199 : q_r f181 x 0 = src := (hF.r hx (by rw [kx]; rfl)).trans z168
    have z200 : q_r f181 x 1 = rdr := (hF.r hx (by rw [kx]; rfl)).trans z169
    have z201 : q_r f181 x 2 = scr := (hF.r hx (by rw [kx]; rfl)).trans z170
    have z202 : q_r f181 x 3 = fc := (hF.r hx (by rw [kx]; rfl)).trans z171
    have z203 : q_r f181 x 4 = hist := (hF.r hx (by rw [kx]; rfl)).trans z172
    have z204 : q_r f181 x 5 = rep := (hF.r hx (by rw [kx]; rfl)).trans z173
    have z205 : q_r f181 x 6 = now := (hF.r hx (by rw [kx]; rfl)).trans z174
    have z206 : q_r f181 x 7 = dr := (hF.r hx (by rw [kx]; rfl)).trans z175
    have z207 : q_r f181 x 8 = sv := (hF.r hx (by rw [kx]; rfl)).trans z176
    have z208 : q_r f181 fc 0 = tr := (hF.r hfc (by rw [kfc]; rfl)).trans z177
    refine q_ald_n cx dX11_runScript_49 rfl (lv_at hl 1 rfl) ?_
    refine q_gX11_26 cx hB hx kx z201 dX11_runScript_50 (fun hb209 kb209 => ?_)
    refine q_ald_n cx dX11_runScript_53 rfl (lv_at hl 1 rfl) ?_
    refine q_gX11_54 cx hB hx kx z205 dX11_runScript_54 (fun hb210 kb210 => ?_)
    refine q_cVi (As := [.ref now]) (rest := []) cx hB (fun _ h => h) hN hscr kscr (by decide) rfl (m_runOn0 l g hN hB.2.1 scr hscr kscr now hnow know z195) q_cX11_110 q_dX7_runOn (by decide) rfl rfl hl.1 rfl (Nat.le_of_ble_eq_true rfl) dX11_runScript_57 (fun y212 H locs f211 ry212 h213 hF hB => ?_)
    have qy212 := h213
    have z214 : q_z f211 x 9 = 0 := (hF.z hx (by rw [kx]; rfl)).trans z186
    have z215 : q_z f211 rep 1 = 0 := (hF.z hrep (by rw [krep]; rfl)).trans z187
    have z216 : q_z f211 now 3 = 0 := (hF.z hnow (by rw [know]; rfl)).trans z188
    have z217 : q_z f211 now 4 = 0 := (hF.z hnow (by rw [know]; rfl)).trans z189
    have z218 : q_z f211 now 5 = 0 := (hF.z hnow (by rw [know]; rfl)).trans z190
    have z219 : q_z f211 now 6 = 12 := (hF.z hnow (by rw [know]; rfl)).trans z191
    have z220 : q_z f211 now 10 = 3 := (hF.z hnow (by rw [know]; rfl)).trans z192
    have z221 : q_z f211 now 11 = 0 := (hF.z hnow (by rw [know]; rfl)).trans z193
    have z222 : q_z f211 now 12 = 0 := (hF.z hnow (by rw [know]; rfl)).trans z194
    have z223 : q_z f211 scr 1 = 0 := (hF.z hscr (by rw [kscr]; rfl)).trans z195
    have z224 : q_z f211 src 2 = 0 := (hF.z hsrc (by rw [ksrc]; rfl)).trans z196
    have z225 : q_z f211 src 3 = (-1) := (hF.z hsrc (by rw [ksrc]; rfl)).trans z197
    have z226 : q_z f211 src 1 = 0 := (hF.z hsrc (by rw [ksrc]; rfl)).trans z198
    have z227 : q_z f211 hist 1 = 1 := (hF.z hhist (by rw [khist]; rfl)).trans z184
    have z228 : q_z f211 hist 2 = 1 := (hF.z hhist (by rw [khist]; rfl)).trans z185
    have z229 : q_r f211 x 0 = src := (hF.r hx (by rw [kx]; rfl)).trans z199
    have z230 : q_r f211 x 1 = rdr := (hF.r hx (by rw [kx]; rfl)).trans z200
    have z231 : q_r f211 x 2 = scr := (hF.r hx (by rw [kx]; rfl)).trans z201
    have z232 : q_r f211 x 3 = fc := (hF.r hx (by rw [kx]; rfl)).trans z202
    have z233 : q_r f211 x 4 = hist := (hF.r hx (by rw [kx]; rfl)).trans z203
    have z234 : q_r f211 x 5 = rep := (hF.r hx (by rw [kx]; rfl)).trans z204
    have z235 : q_r f211 x 6 = now := (hF.r hx (by rw [kx]; rfl)).trans z205
    have z236 : q_r f211 x 7 = dr := (hF.r hx (by rw [kx]; rfl)).trans z206
    have z237 : q_r f211 x 8 = sv := (hF.r hx (by rw [kx]; rfl)).trans z207
    have z238 : q_r f211 fc 0 = tr := (hF.r hfc (by rw [kfc]; rfl)).trans z208
    subst qy212
    refine q_iret cx hr hlk hB dX11_runScript_60 ⟨by decide, by decide⟩ ?_
    exact rfl
  · exact absurd c178 (by omega)
set_option maxHeartbeats 4000000 in
set_option maxRecDepth 100000 in
theorem x_errorCode (l : Launch) (g : q_G) {K : Nat → Nat} {L : List Nat} (hN : L.Nodup) {f : Nat → va_E} (hT : q_Ty g K L f) (x : Nat) (hx : x ∈ L) (kx : K x = 11) (src : Nat) (hsrc : src ∈ L) (ksrc : K src = 8) (rdr : Nat) (hrdr : rdr ∈ L) (krdr : K rdr = 9) (scr : Nat) (hscr : scr ∈ L) (kscr : K scr = 7) (fc : Nat) (hfc : fc ∈ L) (kfc : K fc = 1) (hist : Nat) (hhist : hist ∈ L) (khist : K hist = 2) (rep : Nat) (hrep : rep ∈ L) (krep : K rep = 6) (now : Nat) (hnow : now ∈ L) (know : K now = 10) (dr : Nat) (hdr : dr ∈ L) (kdr : K dr = 13) (sv : Nat) (hsv : sv ∈ L) (ksv : K sv = 14) (tr : Nat) (htr : tr ∈ L) (ktr : K tr = 15) (hf0 : q_z f x 9 = 0) (hf1 : q_z f src 1 = 0) (hf2 : q_z f src 2 = 0) (hf3 : q_z f src 3 = (-1)) (hf4 : q_z f hist 1 = 0) (hf5 : q_z f hist 2 = 0) (hf6 : q_z f rep 1 = 0) (hf7 : q_z f now 3 = 0) (hf8 : q_z f now 4 = 0) (hf9 : q_z f now 5 = 0) (hf10 : q_z f now 6 = 12) (hf11 : q_z f now 10 = 3) (hf12 : q_z f now 11 = 0) (hf13 : q_z f now 12 = 0) (hr0 : q_r f x 0 = src) (hr1 : q_r f x 1 = rdr) (hr2 : q_r f x 2 = scr) (hr3 : q_r f x 3 = fc) (hr4 : q_r f x 4 = hist) (hr5 : q_r f x 5 = rep) (hr6 : q_r f x 6 = now) (hr7 : q_r f x 7 = dr) (hr8 : q_r f x 8 = sv) (hr9 : q_r f fc 0 = tr) : q_Ct l g K L yX11_errorCode cX11_errorCode 1 (some .int) 0 0 [.ref x] f [] (q_Pi (fun (z : Int) (f1 : Nat → va_E) => f = f1 ∧ z = 0)) := by
  refine q_ofb (by decide +kernel) hN hT (Nat.le_of_ble_eq_true rfl) ?_
  intro p e s m below meth c ls cx hr hlk hB hl
  have hl : lv_has ls 1 [(0, .ref x)] := hl
  obtain ⟨H, hH⟩ : ∃ H : Heap, H = s.heap := ⟨_, rfl⟩
  obtain ⟨locs, hlocs⟩ : ∃ z : List Loc, z = [] := ⟨_, rfl⟩
  rw [← hH, ← hlocs] at hB
  rw [← hH, ← hlocs]
  refine q_ald_n cx dX11_errorCode_0 rfl (lv_at hl 0 rfl) ?_
  refine q_gX11_10 cx hB hx kx hr0 dX11_errorCode_1 (fun hb3 kb3 => ?_)
  refine q_gX11_114 cx hB hsrc ksrc hf2 dX11_errorCode_4 (fun lb4 ub4 => ?_)
  refine q_iret cx hr hlk hB dX11_errorCode_7 ⟨by decide, by decide⟩ ?_
  exact ⟨rfl, rfl⟩
set_option maxHeartbeats 4000000 in
set_option maxRecDepth 100000 in
theorem x_errorPosition (l : Launch) (g : q_G) {K : Nat → Nat} {L : List Nat} (hN : L.Nodup) {f : Nat → va_E} (hT : q_Ty g K L f) (x : Nat) (hx : x ∈ L) (kx : K x = 11) (src : Nat) (hsrc : src ∈ L) (ksrc : K src = 8) (rdr : Nat) (hrdr : rdr ∈ L) (krdr : K rdr = 9) (scr : Nat) (hscr : scr ∈ L) (kscr : K scr = 7) (fc : Nat) (hfc : fc ∈ L) (kfc : K fc = 1) (hist : Nat) (hhist : hist ∈ L) (khist : K hist = 2) (rep : Nat) (hrep : rep ∈ L) (krep : K rep = 6) (now : Nat) (hnow : now ∈ L) (know : K now = 10) (dr : Nat) (hdr : dr ∈ L) (kdr : K dr = 13) (sv : Nat) (hsv : sv ∈ L) (ksv : K sv = 14) (tr : Nat) (htr : tr ∈ L) (ktr : K tr = 15) (hf0 : q_z f x 9 = 0) (hf1 : q_z f src 1 = 0) (hf2 : q_z f src 2 = 0) (hf3 : q_z f src 3 = (-1)) (hf4 : q_z f hist 1 = 0) (hf5 : q_z f hist 2 = 0) (hf6 : q_z f rep 1 = 0) (hf7 : q_z f now 3 = 0) (hf8 : q_z f now 4 = 0) (hf9 : q_z f now 5 = 0) (hf10 : q_z f now 6 = 12) (hf11 : q_z f now 10 = 3) (hf12 : q_z f now 11 = 0) (hf13 : q_z f now 12 = 0) (hr0 : q_r f x 0 = src) (hr1 : q_r f x 1 = rdr) (hr2 : q_r f x 2 = scr) (hr3 : q_r f x 3 = fc) (hr4 : q_r f x 4 = hist) (hr5 : q_r f x 5 = rep) (hr6 : q_r f x 6 = now) (hr7 : q_r f x 7 = dr) (hr8 : q_r f x 8 = sv) (hr9 : q_r f fc 0 = tr) : q_Ct l g K L yX11_errorPosition cX11_errorPosition 1 (some .int) 0 0 [.ref x] f [] (q_Pi (fun (z : Int) (f1 : Nat → va_E) => f = f1 ∧ z = (-1))) := by
  refine q_ofb (by decide +kernel) hN hT (Nat.le_of_ble_eq_true rfl) ?_
  intro p e s m below meth c ls cx hr hlk hB hl
  have hl : lv_has ls 1 [(0, .ref x)] := hl
  obtain ⟨H, hH⟩ : ∃ H : Heap, H = s.heap := ⟨_, rfl⟩
  obtain ⟨locs, hlocs⟩ : ∃ z : List Loc, z = [] := ⟨_, rfl⟩
  rw [← hH, ← hlocs] at hB
  rw [← hH, ← hlocs]
  refine q_ald_n cx dX11_errorPosition_0 rfl (lv_at hl 0 rfl) ?_
  refine q_gX11_10 cx hB hx kx hr0 dX11_errorPosition_1 (fun hb3 kb3 => ?_)
  refine q_gX11_117 cx hB hsrc ksrc hf3 dX11_errorPosition_4 (fun lb4 ub4 => ?_)
  refine q_iret cx hr hlk hB dX11_errorPosition_7 ⟨by decide, by decide⟩ ?_
  exact ⟨rfl, rfl⟩
set_option maxHeartbeats 4000000 in
set_option maxRecDepth 100000 in
theorem x_settinga (l : Launch) (g : q_G) {K : Nat → Nat} {L : List Nat} (hN : L.Nodup) {f : Nat → va_E} (hT : q_Ty g K L f) (hfl : l.stackTraces = false) (x : Nat) (hx : x ∈ L) (kx : K x = 11) (a0 : Int) (la0 : (-2147483648) ≤ a0) (ua0 : a0 ≤ (-1)) (src : Nat) (hsrc : src ∈ L) (ksrc : K src = 8) (rdr : Nat) (hrdr : rdr ∈ L) (krdr : K rdr = 9) (scr : Nat) (hscr : scr ∈ L) (kscr : K scr = 7) (fc : Nat) (hfc : fc ∈ L) (kfc : K fc = 1) (hist : Nat) (hhist : hist ∈ L) (khist : K hist = 2) (rep : Nat) (hrep : rep ∈ L) (krep : K rep = 6) (now : Nat) (hnow : now ∈ L) (know : K now = 10) (dr : Nat) (hdr : dr ∈ L) (kdr : K dr = 13) (sv : Nat) (hsv : sv ∈ L) (ksv : K sv = 14) (tr : Nat) (htr : tr ∈ L) (ktr : K tr = 15) (hf0 : q_z f x 9 = 0) (hf1 : q_z f src 1 = 0) (hf2 : q_z f src 2 = 0) (hf3 : q_z f src 3 = (-1)) (hf4 : q_z f hist 1 = 0) (hf5 : q_z f hist 2 = 0) (hf6 : q_z f rep 1 = 0) (hf7 : q_z f now 3 = 0) (hf8 : q_z f now 4 = 0) (hf9 : q_z f now 5 = 0) (hf10 : q_z f now 6 = 12) (hf11 : q_z f now 10 = 3) (hf12 : q_z f now 11 = 0) (hf13 : q_z f now 12 = 0) (hr0 : q_r f x 0 = src) (hr1 : q_r f x 1 = rdr) (hr2 : q_r f x 2 = scr) (hr3 : q_r f x 3 = fc) (hr4 : q_r f x 4 = hist) (hr5 : q_r f x 5 = rep) (hr6 : q_r f x 6 = now) (hr7 : q_r f x 7 = dr) (hr8 : q_r f x 8 = sv) (hr9 : q_r f fc 0 = tr) : q_Xt l g K L yX11_setting cX11_setting 2 (some .int) 6 82 1 6 [.ref x, .int (q_i a0)] f [] (q_Pi (fun (z : Int) (f1 : Nat → va_E) => False)) (fun (E : String) (f1 : Nat → va_E) => E = "java/lang/IllegalArgumentException" ∧ f = f1) := by
  refine q_xofb (by decide +kernel) hN hT (Nat.le_of_ble_eq_true rfl) ?_
  intro p e s m below meth c ls cx hr hlk htab hX hB hl
  have hl : lv_has ls 2 [(0, .ref x), (1, .int (q_i a0))] := hl
  obtain ⟨H, hH⟩ : ∃ H : Heap, H = s.heap := ⟨_, rfl⟩
  obtain ⟨locs, hlocs⟩ : ∃ z : List Loc, z = [] := ⟨_, rfl⟩
  rw [← hH, ← hlocs] at hB
  rw [← hH, ← hlocs]
  refine q_ild_n cx dX11_setting_0 rfl (lv_at hl 1 rfl) ?_
  refine q_iflt (tgt := 10) cx ⟨by omega, by omega⟩ dX11_setting_1 (by decide) (fun c2 => ?_) (fun c2 => ?_)
  · exact q_throw (text := "no such setting") hfl cx hlk htab hX hB hl.1 (by decide +kernel) q_h880 q_h152 (by decide +kernel) q_xl87a q_xl87b q_xl87c dX11_setting_10 dX11_setting_13 (Or.inl ⟨dX11_setting_14, dX11_setting_16, dX11_setting_19⟩) (by decide) (by decide) ⟨rfl, rfl⟩
  · exact absurd c2 (by omega)
set_option maxHeartbeats 4000000 in
set_option maxRecDepth 100000 in
theorem x_settingb (l : Launch) (g : q_G) {K : Nat → Nat} {L : List Nat} (hN : L.Nodup) {f : Nat → va_E} (hT : q_Ty g K L f) (x : Nat) (hx : x ∈ L) (kx : K x = 11) (a0 : Int) (la0 : 0 ≤ a0) (ua0 : a0 ≤ 1) (src : Nat) (hsrc : src ∈ L) (ksrc : K src = 8) (rdr : Nat) (hrdr : rdr ∈ L) (krdr : K rdr = 9) (scr : Nat) (hscr : scr ∈ L) (kscr : K scr = 7) (fc : Nat) (hfc : fc ∈ L) (kfc : K fc = 1) (hist : Nat) (hhist : hist ∈ L) (khist : K hist = 2) (rep : Nat) (hrep : rep ∈ L) (krep : K rep = 6) (now : Nat) (hnow : now ∈ L) (know : K now = 10) (dr : Nat) (hdr : dr ∈ L) (kdr : K dr = 13) (sv : Nat) (hsv : sv ∈ L) (ksv : K sv = 14) (tr : Nat) (htr : tr ∈ L) (ktr : K tr = 15) (hf0 : q_z f x 9 = 0) (hf1 : q_z f src 1 = 0) (hf2 : q_z f src 2 = 0) (hf3 : q_z f src 3 = (-1)) (hf4 : q_z f hist 1 = 0) (hf5 : q_z f hist 2 = 0) (hf6 : q_z f rep 1 = 0) (hf7 : q_z f now 3 = 0) (hf8 : q_z f now 4 = 0) (hf9 : q_z f now 5 = 0) (hf10 : q_z f now 6 = 12) (hf11 : q_z f now 10 = 3) (hf12 : q_z f now 11 = 0) (hf13 : q_z f now 12 = 0) (hr0 : q_r f x 0 = src) (hr1 : q_r f x 1 = rdr) (hr2 : q_r f x 2 = scr) (hr3 : q_r f x 3 = fc) (hr4 : q_r f x 4 = hist) (hr5 : q_r f x 5 = rep) (hr6 : q_r f x 6 = now) (hr7 : q_r f x 7 = dr) (hr8 : q_r f x 8 = sv) (hr9 : q_r f fc 0 = tr) : q_Ct l g K L yX11_setting cX11_setting 2 (some .int) 1 21 [.ref x, .int (q_i a0)] f [] (q_Pi (fun (z : Int) (f1 : Nat → va_E) => f = f1 ∧ z = 0)) := by
  refine q_ofb (by decide +kernel) hN hT (Nat.le_of_ble_eq_true rfl) ?_
  intro p e s m below meth c ls cx hr hlk hB hl
  have hl : lv_has ls 2 [(0, .ref x), (1, .int (q_i a0))] := hl
  obtain ⟨H, hH⟩ : ∃ H : Heap, H = s.heap := ⟨_, rfl⟩
  obtain ⟨locs, hlocs⟩ : ∃ z : List Loc, z = [] := ⟨_, rfl⟩
  rw [← hH, ← hlocs] at hB
  rw [← hH, ← hlocs]
  refine q_ild_n cx dX11_setting_0 rfl (lv_at hl 1 rfl) ?_
  refine q_iflt (tgt := 10) cx ⟨by omega, by omega⟩ dX11_setting_1 (by decide) (fun c8 => ?_) (fun c8 => ?_)
  · exact absurd c8 (by omega)
  · refine q_ild_n cx dX11_setting_4 rfl (lv_at hl 1 rfl) ?_
    refine q_bipush cx dX11_setting_5 rfl ?_
    refine q_iclt (tgt := 20) cx ⟨by omega, by omega⟩ ⟨by decide, by decide⟩ dX11_setting_7 (by decide) (fun c9 => ?_) (fun c9 => ?_)
    · refine q_ild_n cx dX11_setting_20 rfl (lv_at hl 1 rfl) ?_
      refine q_bipush cx dX11_setting_21 rfl ?_
      refine q_icne (tgt := 36) cx ⟨by omega, by omega⟩ ⟨by decide, by decide⟩ dX11_setting_23 (by decide) (fun c10 => ?_) (fun c10 => ?_)
      · refine q_ald_n cx dX11_setting_36 rfl (lv_at hl 0 rfl) ?_
        refine q_gX11_54 cx hB hx kx hr6 dX11_setting_37 (fun hb11 kb11 => ?_)
        refine q_ild_n cx dX11_setting_40 rfl (lv_at hl 1 rfl) ?_
        refine q_cVi (As := [.int (q_i a0)]) (rest := []) cx hB (fun _ h => h) hN hnow know (by decide) rfl (m_figure0a l g hN hB.2.1 now hnow know a0 (by omega) (by omega) hf7 hf8 hf9 hf10 hf11 hf12 hf13) q_cX11_125 q_dX10_figure (by decide) rfl rfl hl.1 rfl (Nat.le_of_ble_eq_true rfl) dX11_setting_41 (fun y13 H locs f12 ry13 h14 hF hB => ?_)
        obtain ⟨rfl, qy13⟩ := h14
        subst qy13
        refine q_iret cx hr hlk hB dX11_setting_44 ⟨by decide, by decide⟩ ?_
        exact ⟨rfl, rfl⟩
      · exact absurd c10 (by omega)
    · exact absurd c9 (by omega)
set_option maxHeartbeats 4000000 in
set_option maxRecDepth 100000 in
theorem x_settingc (l : Launch) (g : q_G) {K : Nat → Nat} {L : List Nat} (hN : L.Nodup) {f : Nat → va_E} (hT : q_Ty g K L f) (x : Nat) (hx : x ∈ L) (kx : K x = 11) (a0 : Int) (la0 : 2 ≤ a0) (ua0 : a0 ≤ 2) (src : Nat) (hsrc : src ∈ L) (ksrc : K src = 8) (rdr : Nat) (hrdr : rdr ∈ L) (krdr : K rdr = 9) (scr : Nat) (hscr : scr ∈ L) (kscr : K scr = 7) (fc : Nat) (hfc : fc ∈ L) (kfc : K fc = 1) (hist : Nat) (hhist : hist ∈ L) (khist : K hist = 2) (rep : Nat) (hrep : rep ∈ L) (krep : K rep = 6) (now : Nat) (hnow : now ∈ L) (know : K now = 10) (dr : Nat) (hdr : dr ∈ L) (kdr : K dr = 13) (sv : Nat) (hsv : sv ∈ L) (ksv : K sv = 14) (tr : Nat) (htr : tr ∈ L) (ktr : K tr = 15) (hf0 : q_z f x 9 = 0) (hf1 : q_z f src 1 = 0) (hf2 : q_z f src 2 = 0) (hf3 : q_z f src 3 = (-1)) (hf4 : q_z f hist 1 = 0) (hf5 : q_z f hist 2 = 0) (hf6 : q_z f rep 1 = 0) (hf7 : q_z f now 3 = 0) (hf8 : q_z f now 4 = 0) (hf9 : q_z f now 5 = 0) (hf10 : q_z f now 6 = 12) (hf11 : q_z f now 10 = 3) (hf12 : q_z f now 11 = 0) (hf13 : q_z f now 12 = 0) (hr0 : q_r f x 0 = src) (hr1 : q_r f x 1 = rdr) (hr2 : q_r f x 2 = scr) (hr3 : q_r f x 3 = fc) (hr4 : q_r f x 4 = hist) (hr5 : q_r f x 5 = rep) (hr6 : q_r f x 6 = now) (hr7 : q_r f x 7 = dr) (hr8 : q_r f x 8 = sv) (hr9 : q_r f fc 0 = tr) : q_Ct l g K L yX11_setting cX11_setting 2 (some .int) 1 21 [.ref x, .int (q_i a0)] f [] (q_Pi (fun (z : Int) (f1 : Nat → va_E) => f = f1 ∧ z = 12)) := by
  obtain rfl : a0 = 2 := by omega
  refine q_ofb (by decide +kernel) hN hT (Nat.le_of_ble_eq_true rfl) ?_
  intro p e s m below meth c ls cx hr hlk hB hl
  have hl : lv_has ls 2 [(0, .ref x), (1, .int (q_i 2))] := hl
  obtain ⟨H, hH⟩ : ∃ H : Heap, H = s.heap := ⟨_, rfl⟩
  obtain ⟨locs, hlocs⟩ : ∃ z : List Loc, z = [] := ⟨_, rfl⟩
  rw [← hH, ← hlocs] at hB
  rw [← hH, ← hlocs]
  refine q_ild_n cx dX11_setting_0 rfl (lv_at hl 1 rfl) ?_
  refine q_iflt (tgt := 10) cx ⟨by decide, by decide⟩ dX11_setting_1 (by decide) (fun c8 => ?_) (fun c8 => ?_)
  · exact absurd c8 (by omega)
  · refine q_ild_n cx dX11_setting_4 rfl (lv_at hl 1 rfl) ?_
    refine q_bipush cx dX11_setting_5 rfl ?_
    refine q_iclt (tgt := 20) cx ⟨by decide, by decide⟩ ⟨by decide, by decide⟩ dX11_setting_7 (by decide) (fun c9 => ?_) (fun c9 => ?_)
    · refine q_ild_n cx dX11_setting_20 rfl (lv_at hl 1 rfl) ?_
      refine q_bipush cx dX11_setting_21 rfl ?_
      refine q_icne (tgt := 36) cx ⟨by decide, by decide⟩ ⟨by decide, by decide⟩ dX11_setting_23 (by decide) (fun c10 => ?_) (fun c10 => ?_)
      · refine q_ald_n cx dX11_setting_36 rfl (lv_at hl 0 rfl) ?_
        refine q_gX11_54 cx hB hx kx hr6 dX11_setting_37 (fun hb11 kb11 => ?_)
        refine q_ild_n cx dX11_setting_40 rfl (lv_at hl 1 rfl) ?_
        refine q_cVi (As := [.int (q_i 2)]) (rest := []) cx hB (fun _ h => h) hN hnow know (by decide) rfl (m_figure0b l g hN hB.2.1 now hnow know 2 (by decide) (by decide) hf7 hf8 hf9 hf10 hf11 hf12 hf13) q_cX11_125 q_dX10_figure (by decide) rfl rfl hl.1 rfl (Nat.le_of_ble_eq_true rfl) dX11_setting_41 (fun y13 H locs f12 ry13 h14 hF hB => ?_)
        obtain ⟨rfl, qy13⟩ := h14
        subst qy13
        refine q_iret cx hr hlk hB dX11_setting_44 ⟨by decide, by decide⟩ ?_
        exact ⟨rfl, rfl⟩
      · exact absurd c10 (by omega)
    · exact absurd c9 (by omega)
set_option maxHeartbeats 4000000 in
set_option maxRecDepth 100000 in
theorem x_settingd (l : Launch) (g : q_G) {K : Nat → Nat} {L : List Nat} (hN : L.Nodup) {f : Nat → va_E} (hT : q_Ty g K L f) (x : Nat) (hx : x ∈ L) (kx : K x = 11) (a0 : Int) (la0 : 3 ≤ a0) (ua0 : a0 ≤ 9) (src : Nat) (hsrc : src ∈ L) (ksrc : K src = 8) (rdr : Nat) (hrdr : rdr ∈ L) (krdr : K rdr = 9) (scr : Nat) (hscr : scr ∈ L) (kscr : K scr = 7) (fc : Nat) (hfc : fc ∈ L) (kfc : K fc = 1) (hist : Nat) (hhist : hist ∈ L) (khist : K hist = 2) (rep : Nat) (hrep : rep ∈ L) (krep : K rep = 6) (now : Nat) (hnow : now ∈ L) (know : K now = 10) (dr : Nat) (hdr : dr ∈ L) (kdr : K dr = 13) (sv : Nat) (hsv : sv ∈ L) (ksv : K sv = 14) (tr : Nat) (htr : tr ∈ L) (ktr : K tr = 15) (hf0 : q_z f x 9 = 0) (hf1 : q_z f src 1 = 0) (hf2 : q_z f src 2 = 0) (hf3 : q_z f src 3 = (-1)) (hf4 : q_z f hist 1 = 0) (hf5 : q_z f hist 2 = 0) (hf6 : q_z f rep 1 = 0) (hf7 : q_z f now 3 = 0) (hf8 : q_z f now 4 = 0) (hf9 : q_z f now 5 = 0) (hf10 : q_z f now 6 = 12) (hf11 : q_z f now 10 = 3) (hf12 : q_z f now 11 = 0) (hf13 : q_z f now 12 = 0) (hr0 : q_r f x 0 = src) (hr1 : q_r f x 1 = rdr) (hr2 : q_r f x 2 = scr) (hr3 : q_r f x 3 = fc) (hr4 : q_r f x 4 = hist) (hr5 : q_r f x 5 = rep) (hr6 : q_r f x 6 = now) (hr7 : q_r f x 7 = dr) (hr8 : q_r f x 8 = sv) (hr9 : q_r f fc 0 = tr) : q_Ct l g K L yX11_setting cX11_setting 2 (some .int) 2 44 [.ref x, .int (q_i a0)] f [] (q_Pi (fun (z : Int) (f1 : Nat → va_E) => f = f1 ∧ z = 0)) := by
  refine q_ofb (by decide +kernel) hN hT (Nat.le_of_ble_eq_true rfl) ?_
  intro p e s m below meth c ls cx hr hlk hB hl
  have hl : lv_has ls 2 [(0, .ref x), (1, .int (q_i a0))] := hl
  obtain ⟨H, hH⟩ : ∃ H : Heap, H = s.heap := ⟨_, rfl⟩
  obtain ⟨locs, hlocs⟩ : ∃ z : List Loc, z = [] := ⟨_, rfl⟩
  rw [← hH, ← hlocs] at hB
  rw [← hH, ← hlocs]
  refine q_ild_n cx dX11_setting_0 rfl (lv_at hl 1 rfl) ?_
  refine q_iflt (tgt := 10) cx ⟨by omega, by omega⟩ dX11_setting_1 (by decide) (fun c8 => ?_) (fun c8 => ?_)
  · exact absurd c8 (by omega)
  · refine q_ild_n cx dX11_setting_4 rfl (lv_at hl 1 rfl) ?_
    refine q_bipush cx dX11_setting_5 rfl ?_
    refine q_iclt (tgt := 20) cx ⟨by omega, by omega⟩ ⟨by decide, by decide⟩ dX11_setting_7 (by decide) (fun c9 => ?_) (fun c9 => ?_)
    · refine q_ild_n cx dX11_setting_20 rfl (lv_at hl 1 rfl) ?_
      refine q_bipush cx dX11_setting_21 rfl ?_
      refine q_icne (tgt := 36) cx ⟨by omega, by omega⟩ ⟨by decide, by decide⟩ dX11_setting_23 (by decide) (fun c10 => ?_) (fun c10 => ?_)
      · refine q_ald_n cx dX11_setting_36 rfl (lv_at hl 0 rfl) ?_
        refine q_gX11_54 cx hB hx kx hr6 dX11_setting_37 (fun hb11 kb11 => ?_)
        refine q_ild_n cx dX11_setting_40 rfl (lv_at hl 1 rfl) ?_
        refine q_cVi (As := [.int (q_i a0)]) (rest := []) cx hB (fun _ h => h) hN hnow know (by decide) rfl (m_figure0c l g hN hB.2.1 now hnow know a0 (by omega) (by omega) hf7 hf8 hf9 hf10 hf11 hf12 hf13) q_cX11_125 q_dX10_figure (by decide) rfl rfl hl.1 rfl (Nat.le_of_ble_eq_true rfl) dX11_setting_41 (fun y13 H locs f12 ry13 h14 hF hB => ?_)
        obtain ⟨rfl, qy13⟩ := h14
        subst qy13
        refine q_iret cx hr hlk hB dX11_setting_44 ⟨by decide, by decide⟩ ?_
        exact ⟨rfl, rfl⟩
      · exact absurd c10 (by omega)
    · exact absurd c9 (by omega)
set_option maxHeartbeats 4000000 in
set_option maxRecDepth 100000 in
theorem x_settinge (l : Launch) (g : q_G) {K : Nat → Nat} {L : List Nat} (hN : L.Nodup) {f : Nat → va_E} (hT : q_Ty g K L f) (x : Nat) (hx : x ∈ L) (kx : K x = 11) (a0 : Int) (la0 : 10 ≤ a0) (ua0 : a0 ≤ 10) (src : Nat) (hsrc : src ∈ L) (ksrc : K src = 8) (rdr : Nat) (hrdr : rdr ∈ L) (krdr : K rdr = 9) (scr : Nat) (hscr : scr ∈ L) (kscr : K scr = 7) (fc : Nat) (hfc : fc ∈ L) (kfc : K fc = 1) (hist : Nat) (hhist : hist ∈ L) (khist : K hist = 2) (rep : Nat) (hrep : rep ∈ L) (krep : K rep = 6) (now : Nat) (hnow : now ∈ L) (know : K now = 10) (dr : Nat) (hdr : dr ∈ L) (kdr : K dr = 13) (sv : Nat) (hsv : sv ∈ L) (ksv : K sv = 14) (tr : Nat) (htr : tr ∈ L) (ktr : K tr = 15) (hf0 : q_z f x 9 = 0) (hf1 : q_z f src 1 = 0) (hf2 : q_z f src 2 = 0) (hf3 : q_z f src 3 = (-1)) (hf4 : q_z f hist 1 = 0) (hf5 : q_z f hist 2 = 0) (hf6 : q_z f rep 1 = 0) (hf7 : q_z f now 3 = 0) (hf8 : q_z f now 4 = 0) (hf9 : q_z f now 5 = 0) (hf10 : q_z f now 6 = 12) (hf11 : q_z f now 10 = 3) (hf12 : q_z f now 11 = 0) (hf13 : q_z f now 12 = 0) (hr0 : q_r f x 0 = src) (hr1 : q_r f x 1 = rdr) (hr2 : q_r f x 2 = scr) (hr3 : q_r f x 3 = fc) (hr4 : q_r f x 4 = hist) (hr5 : q_r f x 5 = rep) (hr6 : q_r f x 6 = now) (hr7 : q_r f x 7 = dr) (hr8 : q_r f x 8 = sv) (hr9 : q_r f fc 0 = tr) : q_Ct l g K L yX11_setting cX11_setting 2 (some .int) 0 0 [.ref x, .int (q_i a0)] f [] (q_Pi (fun (z : Int) (f1 : Nat → va_E) => f = f1 ∧ z = 0)) := by
  obtain rfl : a0 = 10 := by omega
  refine q_ofb (by decide +kernel) hN hT (Nat.le_of_ble_eq_true rfl) ?_
  intro p e s m below meth c ls cx hr hlk hB hl
  have hl : lv_has ls 2 [(0, .ref x), (1, .int (q_i 10))] := hl
  obtain ⟨H, hH⟩ : ∃ H : Heap, H = s.heap := ⟨_, rfl⟩
  obtain ⟨locs, hlocs⟩ : ∃ z : List Loc, z = [] := ⟨_, rfl⟩
  rw [← hH, ← hlocs] at hB
  rw [← hH, ← hlocs]
  refine q_ild_n cx dX11_setting_0 rfl (lv_at hl 1 rfl) ?_
  refine q_iflt (tgt := 10) cx ⟨by decide, by decide⟩ dX11_setting_1 (by decide) (fun c6 => ?_) (fun c6 => ?_)
  · exact absurd c6 (by omega)
  · refine q_ild_n cx dX11_setting_4 rfl (lv_at hl 1 rfl) ?_
    refine q_bipush cx dX11_setting_5 rfl ?_
    refine q_iclt (tgt := 20) cx ⟨by decide, by decide⟩ ⟨by decide, by decide⟩ dX11_setting_7 (by decide) (fun c7 => ?_) (fun c7 => ?_)
    · refine q_ild_n cx dX11_setting_20 rfl (lv_at hl 1 rfl) ?_
      refine q_bipush cx dX11_setting_21 rfl ?_
      refine q_icne (tgt := 36) cx ⟨by decide, by decide⟩ ⟨by decide, by decide⟩ dX11_setting_23 (by decide) (fun c8 => ?_) (fun c8 => ?_)
      · exact absurd c8 (by omega)
      · refine q_ald_n cx dX11_setting_26 rfl (lv_at hl 0 rfl) ?_
        refine q_gX11_40 cx hB hx kx hr4 dX11_setting_27 (fun hb9 kb9 => ?_)
        refine q_gX11_122 cx hB hhist khist hf5 dX11_setting_30 (fun lb10 ub10 => ?_)
        refine lv_goto (tgt := 44) cx.1 cx.2.1 dX11_setting_33 (by decide) ?_
        refine q_iret cx hr hlk hB dX11_setting_44 ⟨by decide, by decide⟩ ?_
        exact ⟨rfl, rfl⟩
    · exact absurd c7 (by omega)
set_option maxHeartbeats 4000000 in
set_option maxRecDepth 100000 in
theorem x_settingf (l : Launch) (g : q_G) {K : Nat → Nat} {L : List Nat} (hN : L.Nodup) {f : Nat → va_E} (hT : q_Ty g K L f) (hfl : l.stackTraces = false) (x : Nat) (hx : x ∈ L) (kx : K x = 11) (a0 : Int) (la0 : 11 ≤ a0) (ua0 : a0 ≤ 2147483647) (src : Nat) (hsrc : src ∈ L) (ksrc : K src = 8) (rdr : Nat) (hrdr : rdr ∈ L) (krdr : K rdr = 9) (scr : Nat) (hscr : scr ∈ L) (kscr : K scr = 7) (fc : Nat) (hfc : fc ∈ L) (kfc : K fc = 1) (hist : Nat) (hhist : hist ∈ L) (khist : K hist = 2) (rep : Nat) (hrep : rep ∈ L) (krep : K rep = 6) (now : Nat) (hnow : now ∈ L) (know : K now = 10) (dr : Nat) (hdr : dr ∈ L) (kdr : K dr = 13) (sv : Nat) (hsv : sv ∈ L) (ksv : K sv = 14) (tr : Nat) (htr : tr ∈ L) (ktr : K tr = 15) (hf0 : q_z f x 9 = 0) (hf1 : q_z f src 1 = 0) (hf2 : q_z f src 2 = 0) (hf3 : q_z f src 3 = (-1)) (hf4 : q_z f hist 1 = 0) (hf5 : q_z f hist 2 = 0) (hf6 : q_z f rep 1 = 0) (hf7 : q_z f now 3 = 0) (hf8 : q_z f now 4 = 0) (hf9 : q_z f now 5 = 0) (hf10 : q_z f now 6 = 12) (hf11 : q_z f now 10 = 3) (hf12 : q_z f now 11 = 0) (hf13 : q_z f now 12 = 0) (hr0 : q_r f x 0 = src) (hr1 : q_r f x 1 = rdr) (hr2 : q_r f x 2 = scr) (hr3 : q_r f x 3 = fc) (hr4 : q_r f x 4 = hist) (hr5 : q_r f x 5 = rep) (hr6 : q_r f x 6 = now) (hr7 : q_r f x 7 = dr) (hr8 : q_r f x 8 = sv) (hr9 : q_r f fc 0 = tr) : q_Xt l g K L yX11_setting cX11_setting 2 (some .int) 6 82 1 6 [.ref x, .int (q_i a0)] f [] (q_Pi (fun (z : Int) (f1 : Nat → va_E) => False)) (fun (E : String) (f1 : Nat → va_E) => E = "java/lang/IllegalArgumentException" ∧ f = f1) := by
  refine q_xofb (by decide +kernel) hN hT (Nat.le_of_ble_eq_true rfl) ?_
  intro p e s m below meth c ls cx hr hlk htab hX hB hl
  have hl : lv_has ls 2 [(0, .ref x), (1, .int (q_i a0))] := hl
  obtain ⟨H, hH⟩ : ∃ H : Heap, H = s.heap := ⟨_, rfl⟩
  obtain ⟨locs, hlocs⟩ : ∃ z : List Loc, z = [] := ⟨_, rfl⟩
  rw [← hH, ← hlocs] at hB
  rw [← hH, ← hlocs]
  refine q_ild_n cx dX11_setting_0 rfl (lv_at hl 1 rfl) ?_
  refine q_iflt (tgt := 10) cx ⟨by omega, by omega⟩ dX11_setting_1 (by decide) (fun c3 => ?_) (fun c3 => ?_)
  · exact absurd c3 (by omega)
  · refine q_ild_n cx dX11_setting_4 rfl (lv_at hl 1 rfl) ?_
    refine q_bipush cx dX11_setting_5 rfl ?_
    refine q_iclt (tgt := 20) cx ⟨by omega, by omega⟩ ⟨by decide, by decide⟩ dX11_setting_7 (by decide) (fun c4 => ?_) (fun c4 => ?_)
    · exact absurd c4 (by omega)
    · exact q_throw (text := "no such setting") hfl cx hlk htab hX hB hl.1 (by decide +kernel) q_h880 q_h152 (by decide +kernel) q_xl87a q_xl87b q_xl87c dX11_setting_10 dX11_setting_13 (Or.inl ⟨dX11_setting_14, dX11_setting_16, dX11_setting_19⟩) (by decide) (by decide) ⟨rfl, rfl⟩
set_option maxHeartbeats 4000000 in
set_option maxRecDepth 100000 in
theorem x_node (l : Launch) (g : q_G) {K : Nat → Nat} {L : List Nat} (hN : L.Nodup) {f : Nat → va_E} (hT : q_Ty g K L f) (hfl : l.stackTraces = false) (x : Nat) (hx : x ∈ L) (kx : K x = 11) (a0 : Int) (la0 : (-2147483648) ≤ a0) (ua0 : a0 ≤ 2147483647) (b0 : Int) (lb0 : (-2147483648) ≤ b0) (ub0 : b0 ≤ 2147483647) (src : Nat) (hsrc : src ∈ L) (ksrc : K src = 8) (rdr : Nat) (hrdr : rdr ∈ L) (krdr : K rdr = 9) (scr : Nat) (hscr : scr ∈ L) (kscr : K scr = 7) (fc : Nat) (hfc : fc ∈ L) (kfc : K fc = 1) (hist : Nat) (hhist : hist ∈ L) (khist : K hist = 2) (rep : Nat) (hrep : rep ∈ L) (krep : K rep = 6) (now : Nat) (hnow : now ∈ L) (know : K now = 10) (dr : Nat) (hdr : dr ∈ L) (kdr : K dr = 13) (sv : Nat) (hsv : sv ∈ L) (ksv : K sv = 14) (tr : Nat) (htr : tr ∈ L) (ktr : K tr = 15) (hf0 : q_z f x 9 = 0) (hf1 : q_z f src 1 = 0) (hf2 : q_z f src 2 = 0) (hf3 : q_z f src 3 = (-1)) (hf4 : q_z f hist 1 = 0) (hf5 : q_z f hist 2 = 0) (hf6 : q_z f rep 1 = 0) (hf7 : q_z f now 3 = 0) (hf8 : q_z f now 4 = 0) (hf9 : q_z f now 5 = 0) (hf10 : q_z f now 6 = 12) (hf11 : q_z f now 10 = 3) (hf12 : q_z f now 11 = 0) (hf13 : q_z f now 12 = 0) (hr0 : q_r f x 0 = src) (hr1 : q_r f x 1 = rdr) (hr2 : q_r f x 2 = scr) (hr3 : q_r f x 3 = fc) (hr4 : q_r f x 4 = hist) (hr5 : q_r f x 5 = rep) (hr6 : q_r f x 6 = now) (hr7 : q_r f x 7 = dr) (hr8 : q_r f x 8 = sv) (hr9 : q_r f fc 0 = tr) : q_Xt l g K L yX11_node cX11_node 3 (some .int) 7 103 1 6 [.ref x, .int (q_i a0), .int (q_i b0)] f [] (q_Pi (fun (z : Int) (f1 : Nat → va_E) => False)) (fun (E : String) (f1 : Nat → va_E) => E = "java/lang/IndexOutOfBoundsException" ∧ f = f1) := by
  refine q_xofb (by decide +kernel) hN hT (Nat.le_of_ble_eq_true rfl) ?_
  intro p e s m below meth c ls cx hr hlk htab hX hB hl
  have hl : lv_has ls 3 [(0, .ref x), (1, .int (q_i a0)), (2, .int (q_i b0))] := hl
  obtain ⟨H, hH⟩ : ∃ H : Heap, H = s.heap := ⟨_, rfl⟩
  obtain ⟨locs, hlocs⟩ : ∃ z : List Loc, z = [] := ⟨_, rfl⟩
  rw [← hH, ← hlocs] at hB
  rw [← hH, ← hlocs]
  refine q_ald_n cx dX11_node_0 rfl (lv_at hl 0 rfl) ?_
  refine q_ild_n cx dX11_node_1 rfl (lv_at hl 1 rfl) ?_
  refine q_cXV (As := [.int (q_i a0)]) (rest := []) cx hX hB (fun _ h => h) (fun _ h _ => h) hN hx kx (by decide) rfl (x_requireNode l g hN hB.2.1 hfl x hx kx a0 (by omega) (by omega) src hsrc ksrc rdr hrdr krdr scr hscr kscr fc hfc kfc hist hhist khist rep hrep krep now hnow know dr hdr kdr sv hsv ksv tr htr ktr hf0 hf1 hf2 hf3 hf4 hf5 hf6 hf7 hf8 hf9 hf10 hf11 hf12 hf13 hr0 hr1 hr2 hr3 hr4 hr5 hr6 hr7 hr8 hr9) q_cX11_129 q_dX11_requireNode (by decide) rfl rfl hl.1 rfl (Nat.le_of_ble_eq_true rfl) dX11_node_2 (fun E9 ce9 q9 H locs f8 hex hF hB hcell hcv hcl => ?_) (fun v9 H locs f5 h7 hF hB => ?_)
  · rcases hex with ⟨rfl, rfl⟩
    · exact q_xout hlk htab hB hcell hcv hcl (by decide) ⟨rfl, rfl⟩
  · obtain ⟨rfl, h7⟩ := h7
    exact h7.elim
set_option maxHeartbeats 4000000 in
set_option maxRecDepth 100000 in
theorem x_message (l : Launch) (g : q_G) {K : Nat → Nat} {L : List Nat} (hN : L.Nodup) {f : Nat → va_E} (hT : q_Ty g K L f) (hfl : l.stackTraces = false) (x : Nat) (hx : x ∈ L) (kx : K x = 11) (a0 : Int) (la0 : (-2147483648) ≤ a0) (ua0 : a0 ≤ 2147483647) (b0 : Int) (lb0 : (-2147483648) ≤ b0) (ub0 : b0 ≤ 2147483647) (src : Nat) (hsrc : src ∈ L) (ksrc : K src = 8) (rdr : Nat) (hrdr : rdr ∈ L) (krdr : K rdr = 9) (scr : Nat) (hscr : scr ∈ L) (kscr : K scr = 7) (fc : Nat) (hfc : fc ∈ L) (kfc : K fc = 1) (hist : Nat) (hhist : hist ∈ L) (khist : K hist = 2) (rep : Nat) (hrep : rep ∈ L) (krep : K rep = 6) (now : Nat) (hnow : now ∈ L) (know : K now = 10) (dr : Nat) (hdr : dr ∈ L) (kdr : K dr = 13) (sv : Nat) (hsv : sv ∈ L) (ksv : K sv = 14) (tr : Nat) (htr : tr ∈ L) (ktr : K tr = 15) (hf0 : q_z f x 9 = 0) (hf1 : q_z f src 1 = 0) (hf2 : q_z f src 2 = 0) (hf3 : q_z f src 3 = (-1)) (hf4 : q_z f hist 1 = 0) (hf5 : q_z f hist 2 = 0) (hf6 : q_z f rep 1 = 0) (hf7 : q_z f now 3 = 0) (hf8 : q_z f now 4 = 0) (hf9 : q_z f now 5 = 0) (hf10 : q_z f now 6 = 12) (hf11 : q_z f now 10 = 3) (hf12 : q_z f now 11 = 0) (hf13 : q_z f now 12 = 0) (hr0 : q_r f x 0 = src) (hr1 : q_r f x 1 = rdr) (hr2 : q_r f x 2 = scr) (hr3 : q_r f x 3 = fc) (hr4 : q_r f x 4 = hist) (hr5 : q_r f x 5 = rep) (hr6 : q_r f x 6 = now) (hr7 : q_r f x 7 = dr) (hr8 : q_r f x 8 = sv) (hr9 : q_r f fc 0 = tr) : q_Xt l g K L yX11_message cX11_message 3 (some .int) 7 103 1 6 [.ref x, .int (q_i a0), .int (q_i b0)] f [] (q_Pi (fun (z : Int) (f1 : Nat → va_E) => False)) (fun (E : String) (f1 : Nat → va_E) => E = "java/lang/IndexOutOfBoundsException" ∧ f = f1) := by
  refine q_xofb (by decide +kernel) hN hT (Nat.le_of_ble_eq_true rfl) ?_
  intro p e s m below meth c ls cx hr hlk htab hX hB hl
  have hl : lv_has ls 3 [(0, .ref x), (1, .int (q_i a0)), (2, .int (q_i b0))] := hl
  obtain ⟨H, hH⟩ : ∃ H : Heap, H = s.heap := ⟨_, rfl⟩
  obtain ⟨locs, hlocs⟩ : ∃ z : List Loc, z = [] := ⟨_, rfl⟩
  rw [← hH, ← hlocs] at hB
  rw [← hH, ← hlocs]
  refine q_ald_n cx dX11_message_0 rfl (lv_at hl 0 rfl) ?_
  refine q_ild_n cx dX11_message_1 rfl (lv_at hl 1 rfl) ?_
  refine q_cXV (As := [.int (q_i a0)]) (rest := []) cx hX hB (fun _ h => h) (fun _ h _ => h) hN hx kx (by decide) rfl (x_requireMessage l g hN hB.2.1 hfl x hx kx a0 (by omega) (by omega) src hsrc ksrc rdr hrdr krdr scr hscr kscr fc hfc kfc hist hhist khist rep hrep krep now hnow know dr hdr kdr sv hsv ksv tr htr ktr hf0 hf1 hf2 hf3 hf4 hf5 hf6 hf7 hf8 hf9 hf10 hf11 hf12 hf13 hr0 hr1 hr2 hr3 hr4 hr5 hr6 hr7 hr8 hr9) q_cX11_155 q_dX11_requireMessage (by decide) rfl rfl hl.1 rfl (Nat.le_of_ble_eq_true rfl) dX11_message_2 (fun E9 ce9 q9 H locs f8 hex hF hB hcell hcv hcl => ?_) (fun v9 H locs f5 h7 hF hB => ?_)
  · rcases hex with ⟨rfl, rfl⟩
    · exact q_xout hlk htab hB hcell hcv hcl (by decide) ⟨rfl, rfl⟩
  · obtain ⟨rfl, h7⟩ := h7
    exact h7.elim
set_option maxHeartbeats 4000000 in
set_option maxRecDepth 100000 in
theorem x_letter (l : Launch) (g : q_G) {K : Nat → Nat} {L : List Nat} (hN : L.Nodup) {f : Nat → va_E} (hT : q_Ty g K L f) (hfl : l.stackTraces = false) (x : Nat) (hx : x ∈ L) (kx : K x = 11) (a0 : Int) (la0 : (-2147483648) ≤ a0) (ua0 : a0 ≤ 2147483647) (b0 : Int) (lb0 : (-2147483648) ≤ b0) (ub0 : b0 ≤ 2147483647) (src : Nat) (hsrc : src ∈ L) (ksrc : K src = 8) (rdr : Nat) (hrdr : rdr ∈ L) (krdr : K rdr = 9) (scr : Nat) (hscr : scr ∈ L) (kscr : K scr = 7) (fc : Nat) (hfc : fc ∈ L) (kfc : K fc = 1) (hist : Nat) (hhist : hist ∈ L) (khist : K hist = 2) (rep : Nat) (hrep : rep ∈ L) (krep : K rep = 6) (now : Nat) (hnow : now ∈ L) (know : K now = 10) (dr : Nat) (hdr : dr ∈ L) (kdr : K dr = 13) (sv : Nat) (hsv : sv ∈ L) (ksv : K sv = 14) (tr : Nat) (htr : tr ∈ L) (ktr : K tr = 15) (hf0 : q_z f x 9 = 0) (hf1 : q_z f src 1 = 0) (hf2 : q_z f src 2 = 0) (hf3 : q_z f src 3 = (-1)) (hf4 : q_z f hist 1 = 0) (hf5 : q_z f hist 2 = 0) (hf6 : q_z f rep 1 = 0) (hf7 : q_z f now 3 = 0) (hf8 : q_z f now 4 = 0) (hf9 : q_z f now 5 = 0) (hf10 : q_z f now 6 = 12) (hf11 : q_z f now 10 = 3) (hf12 : q_z f now 11 = 0) (hf13 : q_z f now 12 = 0) (hr0 : q_r f x 0 = src) (hr1 : q_r f x 1 = rdr) (hr2 : q_r f x 2 = scr) (hr3 : q_r f x 3 = fc) (hr4 : q_r f x 4 = hist) (hr5 : q_r f x 5 = rep) (hr6 : q_r f x 6 = now) (hr7 : q_r f x 7 = dr) (hr8 : q_r f x 8 = sv) (hr9 : q_r f fc 0 = tr) : q_Xt l g K L yX11_letter cX11_letter 3 (some .int) 7 103 1 6 [.ref x, .int (q_i a0), .int (q_i b0)] f [] (q_Pi (fun (z : Int) (f1 : Nat → va_E) => False)) (fun (E : String) (f1 : Nat → va_E) => E = "java/lang/IndexOutOfBoundsException" ∧ f = f1) := by
  refine q_xofb (by decide +kernel) hN hT (Nat.le_of_ble_eq_true rfl) ?_
  intro p e s m below meth c ls cx hr hlk htab hX hB hl
  have hl : lv_has ls 3 [(0, .ref x), (1, .int (q_i a0)), (2, .int (q_i b0))] := hl
  obtain ⟨H, hH⟩ : ∃ H : Heap, H = s.heap := ⟨_, rfl⟩
  obtain ⟨locs, hlocs⟩ : ∃ z : List Loc, z = [] := ⟨_, rfl⟩
  rw [← hH, ← hlocs] at hB
  rw [← hH, ← hlocs]
  refine q_ald_n cx dX11_letter_0 rfl (lv_at hl 0 rfl) ?_
  refine q_ild_n cx dX11_letter_1 rfl (lv_at hl 1 rfl) ?_
  refine q_cXV (As := [.int (q_i a0)]) (rest := []) cx hX hB (fun _ h => h) (fun _ h _ => h) hN hx kx (by decide) rfl (x_requireNode l g hN hB.2.1 hfl x hx kx a0 (by omega) (by omega) src hsrc ksrc rdr hrdr krdr scr hscr kscr fc hfc kfc hist hhist khist rep hrep krep now hnow know dr hdr kdr sv hsv ksv tr htr ktr hf0 hf1 hf2 hf3 hf4 hf5 hf6 hf7 hf8 hf9 hf10 hf11 hf12 hf13 hr0 hr1 hr2 hr3 hr4 hr5 hr6 hr7 hr8 hr9) q_cX11_129 q_dX11_requireNode (by decide) rfl rfl hl.1 rfl (Nat.le_of_ble_eq_true rfl) dX11_letter_2 (fun E9 ce9 q9 H locs f8 hex hF hB hcell hcv hcl => ?_) (fun v9 H locs f5 h7 hF hB => ?_)
  · rcases hex with ⟨rfl, rfl⟩
    · exact q_xout hlk htab hB hcell hcv hcl (by decide) ⟨rfl, rfl⟩
  · obtain ⟨rfl, h7⟩ := h7
    exact h7.elim
set_option maxHeartbeats 4000000 in
set_option maxRecDepth 100000 in
theorem x_inTable (l : Launch) (g : q_G) {K : Nat → Nat} {L : List Nat} (hN : L.Nodup) {f : Nat → va_E} (hT : q_Ty g K L f) (hfl : l.stackTraces = false) (x : Nat) (hx : x ∈ L) (kx : K x = 11) (a0 : Int) (la0 : (-2147483648) ≤ a0) (ua0 : a0 ≤ 2147483647) (b0 : Int) (lb0 : (-2147483648) ≤ b0) (ub0 : b0 ≤ 2147483647) (src : Nat) (hsrc : src ∈ L) (ksrc : K src = 8) (rdr : Nat) (hrdr : rdr ∈ L) (krdr : K rdr = 9) (scr : Nat) (hscr : scr ∈ L) (kscr : K scr = 7) (fc : Nat) (hfc : fc ∈ L) (kfc : K fc = 1) (hist : Nat) (hhist : hist ∈ L) (khist : K hist = 2) (rep : Nat) (hrep : rep ∈ L) (krep : K rep = 6) (now : Nat) (hnow : now ∈ L) (know : K now = 10) (dr : Nat) (hdr : dr ∈ L) (kdr : K dr = 13) (sv : Nat) (hsv : sv ∈ L) (ksv : K sv = 14) (tr : Nat) (htr : tr ∈ L) (ktr : K tr = 15) (hf0 : q_z f x 9 = 0) (hf1 : q_z f src 1 = 0) (hf2 : q_z f src 2 = 0) (hf3 : q_z f src 3 = (-1)) (hf4 : q_z f hist 1 = 0) (hf5 : q_z f hist 2 = 0) (hf6 : q_z f rep 1 = 0) (hf7 : q_z f now 3 = 0) (hf8 : q_z f now 4 = 0) (hf9 : q_z f now 5 = 0) (hf10 : q_z f now 6 = 12) (hf11 : q_z f now 10 = 3) (hf12 : q_z f now 11 = 0) (hf13 : q_z f now 12 = 0) (hr0 : q_r f x 0 = src) (hr1 : q_r f x 1 = rdr) (hr2 : q_r f x 2 = scr) (hr3 : q_r f x 3 = fc) (hr4 : q_r f x 4 = hist) (hr5 : q_r f x 5 = rep) (hr6 : q_r f x 6 = now) (hr7 : q_r f x 7 = dr) (hr8 : q_r f x 8 = sv) (hr9 : q_r f fc 0 = tr) : q_Xt l g K L yX11_inTable cX11_inTable 3 (some .boolean) 7 103 1 6 [.ref x, .int (q_i a0), .int (q_i b0)] f [] (q_Pi (fun (z : Int) (f1 : Nat → va_E) => False)) (fun (E : String) (f1 : Nat → va_E) => E = "java/lang/IndexOutOfBoundsException" ∧ f = f1) := by
  refine q_xofb (by decide +kernel) hN hT (Nat.le_of_ble_eq_true rfl) ?_
  intro p e s m below meth c ls cx hr hlk htab hX hB hl
  have hl : lv_has ls 3 [(0, .ref x), (1, .int (q_i a0)), (2, .int (q_i b0))] := hl
  obtain ⟨H, hH⟩ : ∃ H : Heap, H = s.heap := ⟨_, rfl⟩
  obtain ⟨locs, hlocs⟩ : ∃ z : List Loc, z = [] := ⟨_, rfl⟩
  rw [← hH, ← hlocs] at hB
  rw [← hH, ← hlocs]
  refine q_ald_n cx dX11_inTable_0 rfl (lv_at hl 0 rfl) ?_
  refine q_ild_n cx dX11_inTable_1 rfl (lv_at hl 1 rfl) ?_
  refine q_cXV (As := [.int (q_i a0)]) (rest := []) cx hX hB (fun _ h => h) (fun _ h _ => h) hN hx kx (by decide) rfl (x_requireNode l g hN hB.2.1 hfl x hx kx a0 (by omega) (by omega) src hsrc ksrc rdr hrdr krdr scr hscr kscr fc hfc kfc hist hhist khist rep hrep krep now hnow know dr hdr kdr sv hsv ksv tr htr ktr hf0 hf1 hf2 hf3 hf4 hf5 hf6 hf7 hf8 hf9 hf10 hf11 hf12 hf13 hr0 hr1 hr2 hr3 hr4 hr5 hr6 hr7 hr8 hr9) q_cX11_129 q_dX11_requireNode (by decide) rfl rfl hl.1 rfl (Nat.le_of_ble_eq_true rfl) dX11_inTable_2 (fun E9 ce9 q9 H locs f8 hex hF hB hcell hcv hcl => ?_) (fun v9 H locs f5 h7 hF hB => ?_)
  · rcases hex with ⟨rfl, rfl⟩
    · exact q_xout hlk htab hB hcell hcv hcl (by decide) ⟨rfl, rfl⟩
  · obtain ⟨rfl, h7⟩ := h7
    exact h7.elim
set_option maxHeartbeats 4000000 in
set_option maxRecDepth 100000 in
theorem x_duty (l : Launch) (g : q_G) {K : Nat → Nat} {L : List Nat} (hN : L.Nodup) {f : Nat → va_E} (hT : q_Ty g K L f) (hfl : l.stackTraces = false) (x : Nat) (hx : x ∈ L) (kx : K x = 11) (a0 : Int) (la0 : (-2147483648) ≤ a0) (ua0 : a0 ≤ 2147483647) (src : Nat) (hsrc : src ∈ L) (ksrc : K src = 8) (rdr : Nat) (hrdr : rdr ∈ L) (krdr : K rdr = 9) (scr : Nat) (hscr : scr ∈ L) (kscr : K scr = 7) (fc : Nat) (hfc : fc ∈ L) (kfc : K fc = 1) (hist : Nat) (hhist : hist ∈ L) (khist : K hist = 2) (rep : Nat) (hrep : rep ∈ L) (krep : K rep = 6) (now : Nat) (hnow : now ∈ L) (know : K now = 10) (dr : Nat) (hdr : dr ∈ L) (kdr : K dr = 13) (sv : Nat) (hsv : sv ∈ L) (ksv : K sv = 14) (tr : Nat) (htr : tr ∈ L) (ktr : K tr = 15) (hf0 : q_z f x 9 = 0) (hf1 : q_z f src 1 = 0) (hf2 : q_z f src 2 = 0) (hf3 : q_z f src 3 = (-1)) (hf4 : q_z f hist 1 = 0) (hf5 : q_z f hist 2 = 0) (hf6 : q_z f rep 1 = 0) (hf7 : q_z f now 3 = 0) (hf8 : q_z f now 4 = 0) (hf9 : q_z f now 5 = 0) (hf10 : q_z f now 6 = 12) (hf11 : q_z f now 10 = 3) (hf12 : q_z f now 11 = 0) (hf13 : q_z f now 12 = 0) (hr0 : q_r f x 0 = src) (hr1 : q_r f x 1 = rdr) (hr2 : q_r f x 2 = scr) (hr3 : q_r f x 3 = fc) (hr4 : q_r f x 4 = hist) (hr5 : q_r f x 5 = rep) (hr6 : q_r f x 6 = now) (hr7 : q_r f x 7 = dr) (hr8 : q_r f x 8 = sv) (hr9 : q_r f fc 0 = tr) : q_Xt l g K L yX11_duty cX11_duty 2 (some .float) 7 103 1 6 [.ref x, .int (q_i a0)] f [] (q_Pf (fun (z : UInt32) (f1 : Nat → va_E) => False)) (fun (E : String) (f1 : Nat → va_E) => E = "java/lang/IndexOutOfBoundsException" ∧ f = f1) := by
  refine q_xofb (by decide +kernel) hN hT (Nat.le_of_ble_eq_true rfl) ?_
  intro p e s m below meth c ls cx hr hlk htab hX hB hl
  have hl : lv_has ls 2 [(0, .ref x), (1, .int (q_i a0))] := hl
  obtain ⟨H, hH⟩ : ∃ H : Heap, H = s.heap := ⟨_, rfl⟩
  obtain ⟨locs, hlocs⟩ : ∃ z : List Loc, z = [] := ⟨_, rfl⟩
  rw [← hH, ← hlocs] at hB
  rw [← hH, ← hlocs]
  refine q_ald_n cx dX11_duty_0 rfl (lv_at hl 0 rfl) ?_
  refine q_ild_n cx dX11_duty_1 rfl (lv_at hl 1 rfl) ?_
  refine q_cXV (As := [.int (q_i a0)]) (rest := []) cx hX hB (fun _ h => h) (fun _ h _ => h) hN hx kx (by decide) rfl (x_requireNode l g hN hB.2.1 hfl x hx kx a0 (by omega) (by omega) src hsrc ksrc rdr hrdr krdr scr hscr kscr fc hfc kfc hist hhist khist rep hrep krep now hnow know dr hdr kdr sv hsv ksv tr htr ktr hf0 hf1 hf2 hf3 hf4 hf5 hf6 hf7 hf8 hf9 hf10 hf11 hf12 hf13 hr0 hr1 hr2 hr3 hr4 hr5 hr6 hr7 hr8 hr9) q_cX11_129 q_dX11_requireNode (by decide) rfl rfl hl.1 rfl (Nat.le_of_ble_eq_true rfl) dX11_duty_2 (fun E9 ce9 q9 H locs f8 hex hF hB hcell hcv hcl => ?_) (fun v9 H locs f5 h7 hF hB => ?_)
  · rcases hex with ⟨rfl, rfl⟩
    · exact q_xout hlk htab hB hcell hcv hcl (by decide) ⟨rfl, rfl⟩
  · obtain ⟨rfl, h7⟩ := h7
    exact h7.elim
set_option maxHeartbeats 4000000 in
set_option maxRecDepth 100000 in
theorem x_meetsIn (l : Launch) (g : q_G) {K : Nat → Nat} {L : List Nat} (hN : L.Nodup) {f : Nat → va_E} (hT : q_Ty g K L f) (hfl : l.stackTraces = false) (x : Nat) (hx : x ∈ L) (kx : K x = 11) (a0 : Int) (la0 : (-2147483648) ≤ a0) (ua0 : a0 ≤ 2147483647) (b0 : Int) (lb0 : (-2147483648) ≤ b0) (ub0 : b0 ≤ 2147483647) (src : Nat) (hsrc : src ∈ L) (ksrc : K src = 8) (rdr : Nat) (hrdr : rdr ∈ L) (krdr : K rdr = 9) (scr : Nat) (hscr : scr ∈ L) (kscr : K scr = 7) (fc : Nat) (hfc : fc ∈ L) (kfc : K fc = 1) (hist : Nat) (hhist : hist ∈ L) (khist : K hist = 2) (rep : Nat) (hrep : rep ∈ L) (krep : K rep = 6) (now : Nat) (hnow : now ∈ L) (know : K now = 10) (dr : Nat) (hdr : dr ∈ L) (kdr : K dr = 13) (sv : Nat) (hsv : sv ∈ L) (ksv : K sv = 14) (tr : Nat) (htr : tr ∈ L) (ktr : K tr = 15) (hf0 : q_z f x 9 = 0) (hf1 : q_z f src 1 = 0) (hf2 : q_z f src 2 = 0) (hf3 : q_z f src 3 = (-1)) (hf4 : q_z f hist 1 = 0) (hf5 : q_z f hist 2 = 0) (hf6 : q_z f rep 1 = 0) (hf7 : q_z f now 3 = 0) (hf8 : q_z f now 4 = 0) (hf9 : q_z f now 5 = 0) (hf10 : q_z f now 6 = 12) (hf11 : q_z f now 10 = 3) (hf12 : q_z f now 11 = 0) (hf13 : q_z f now 12 = 0) (hr0 : q_r f x 0 = src) (hr1 : q_r f x 1 = rdr) (hr2 : q_r f x 2 = scr) (hr3 : q_r f x 3 = fc) (hr4 : q_r f x 4 = hist) (hr5 : q_r f x 5 = rep) (hr6 : q_r f x 6 = now) (hr7 : q_r f x 7 = dr) (hr8 : q_r f x 8 = sv) (hr9 : q_r f fc 0 = tr) : q_Xt l g K L yX11_meetsIn cX11_meetsIn 3 (some .int) 7 103 1 6 [.ref x, .int (q_i a0), .int (q_i b0)] f [] (q_Pi (fun (z : Int) (f1 : Nat → va_E) => False)) (fun (E : String) (f1 : Nat → va_E) => E = "java/lang/IndexOutOfBoundsException" ∧ f = f1) := by
  refine q_xofb (by decide +kernel) hN hT (Nat.le_of_ble_eq_true rfl) ?_
  intro p e s m below meth c ls cx hr hlk htab hX hB hl
  have hl : lv_has ls 3 [(0, .ref x), (1, .int (q_i a0)), (2, .int (q_i b0))] := hl
  obtain ⟨H, hH⟩ : ∃ H : Heap, H = s.heap := ⟨_, rfl⟩
  obtain ⟨locs, hlocs⟩ : ∃ z : List Loc, z = [] := ⟨_, rfl⟩
  rw [← hH, ← hlocs] at hB
  rw [← hH, ← hlocs]
  refine q_ald_n cx dX11_meetsIn_0 rfl (lv_at hl 0 rfl) ?_
  refine q_ild_n cx dX11_meetsIn_1 rfl (lv_at hl 1 rfl) ?_
  refine q_cXV (As := [.int (q_i a0)]) (rest := []) cx hX hB (fun _ h => h) (fun _ h _ => h) hN hx kx (by decide) rfl (x_requireNode l g hN hB.2.1 hfl x hx kx a0 (by omega) (by omega) src hsrc ksrc rdr hrdr krdr scr hscr kscr fc hfc kfc hist hhist khist rep hrep krep now hnow know dr hdr kdr sv hsv ksv tr htr ktr hf0 hf1 hf2 hf3 hf4 hf5 hf6 hf7 hf8 hf9 hf10 hf11 hf12 hf13 hr0 hr1 hr2 hr3 hr4 hr5 hr6 hr7 hr8 hr9) q_cX11_129 q_dX11_requireNode (by decide) rfl rfl hl.1 rfl (Nat.le_of_ble_eq_true rfl) dX11_meetsIn_2 (fun E9 ce9 q9 H locs f8 hex hF hB hcell hcv hcl => ?_) (fun v9 H locs f5 h7 hF hB => ?_)
  · rcases hex with ⟨rfl, rfl⟩
    · exact q_xout hlk htab hB hcell hcv hcl (by decide) ⟨rfl, rfl⟩
  · obtain ⟨rfl, h7⟩ := h7
    exact h7.elim
set_option maxHeartbeats 4000000 in
set_option maxRecDepth 100000 in
theorem x_hops (l : Launch) (g : q_G) {K : Nat → Nat} {L : List Nat} (hN : L.Nodup) {f : Nat → va_E} (hT : q_Ty g K L f) (hfl : l.stackTraces = false) (x : Nat) (hx : x ∈ L) (kx : K x = 11) (a0 : Int) (la0 : (-2147483648) ≤ a0) (ua0 : a0 ≤ 2147483647) (b0 : Int) (lb0 : (-2147483648) ≤ b0) (ub0 : b0 ≤ 2147483647) (src : Nat) (hsrc : src ∈ L) (ksrc : K src = 8) (rdr : Nat) (hrdr : rdr ∈ L) (krdr : K rdr = 9) (scr : Nat) (hscr : scr ∈ L) (kscr : K scr = 7) (fc : Nat) (hfc : fc ∈ L) (kfc : K fc = 1) (hist : Nat) (hhist : hist ∈ L) (khist : K hist = 2) (rep : Nat) (hrep : rep ∈ L) (krep : K rep = 6) (now : Nat) (hnow : now ∈ L) (know : K now = 10) (dr : Nat) (hdr : dr ∈ L) (kdr : K dr = 13) (sv : Nat) (hsv : sv ∈ L) (ksv : K sv = 14) (tr : Nat) (htr : tr ∈ L) (ktr : K tr = 15) (hf0 : q_z f x 9 = 0) (hf1 : q_z f src 1 = 0) (hf2 : q_z f src 2 = 0) (hf3 : q_z f src 3 = (-1)) (hf4 : q_z f hist 1 = 0) (hf5 : q_z f hist 2 = 0) (hf6 : q_z f rep 1 = 0) (hf7 : q_z f now 3 = 0) (hf8 : q_z f now 4 = 0) (hf9 : q_z f now 5 = 0) (hf10 : q_z f now 6 = 12) (hf11 : q_z f now 10 = 3) (hf12 : q_z f now 11 = 0) (hf13 : q_z f now 12 = 0) (hr0 : q_r f x 0 = src) (hr1 : q_r f x 1 = rdr) (hr2 : q_r f x 2 = scr) (hr3 : q_r f x 3 = fc) (hr4 : q_r f x 4 = hist) (hr5 : q_r f x 5 = rep) (hr6 : q_r f x 6 = now) (hr7 : q_r f x 7 = dr) (hr8 : q_r f x 8 = sv) (hr9 : q_r f fc 0 = tr) : q_Xt l g K L yX11_hops cX11_hops 3 (some .int) 7 103 1 6 [.ref x, .int (q_i a0), .int (q_i b0)] f [] (q_Pi (fun (z : Int) (f1 : Nat → va_E) => False)) (fun (E : String) (f1 : Nat → va_E) => E = "java/lang/IndexOutOfBoundsException" ∧ f = f1) := by
  refine q_xofb (by decide +kernel) hN hT (Nat.le_of_ble_eq_true rfl) ?_
  intro p e s m below meth c ls cx hr hlk htab hX hB hl
  have hl : lv_has ls 3 [(0, .ref x), (1, .int (q_i a0)), (2, .int (q_i b0))] := hl
  obtain ⟨H, hH⟩ : ∃ H : Heap, H = s.heap := ⟨_, rfl⟩
  obtain ⟨locs, hlocs⟩ : ∃ z : List Loc, z = [] := ⟨_, rfl⟩
  rw [← hH, ← hlocs] at hB
  rw [← hH, ← hlocs]
  refine q_ald_n cx dX11_hops_0 rfl (lv_at hl 0 rfl) ?_
  refine q_ild_n cx dX11_hops_1 rfl (lv_at hl 1 rfl) ?_
  refine q_cXV (As := [.int (q_i a0)]) (rest := []) cx hX hB (fun _ h => h) (fun _ h _ => h) hN hx kx (by decide) rfl (x_requireNode l g hN hB.2.1 hfl x hx kx a0 (by omega) (by omega) src hsrc ksrc rdr hrdr krdr scr hscr kscr fc hfc kfc hist hhist khist rep hrep krep now hnow know dr hdr kdr sv hsv ksv tr htr ktr hf0 hf1 hf2 hf3 hf4 hf5 hf6 hf7 hf8 hf9 hf10 hf11 hf12 hf13 hr0 hr1 hr2 hr3 hr4 hr5 hr6 hr7 hr8 hr9) q_cX11_129 q_dX11_requireNode (by decide) rfl rfl hl.1 rfl (Nat.le_of_ble_eq_true rfl) dX11_hops_2 (fun E9 ce9 q9 H locs f8 hex hF hB hcell hcv hcl => ?_) (fun v9 H locs f5 h7 hF hB => ?_)
  · rcases hex with ⟨rfl, rfl⟩
    · exact q_xout hlk htab hB hcell hcv hcl (by decide) ⟨rfl, rfl⟩
  · obtain ⟨rfl, h7⟩ := h7
    exact h7.elim
set_option maxHeartbeats 4000000 in
set_option maxRecDepth 100000 in
theorem x_nextNode (l : Launch) (g : q_G) {K : Nat → Nat} {L : List Nat} (hN : L.Nodup) {f : Nat → va_E} (hT : q_Ty g K L f) (hfl : l.stackTraces = false) (x : Nat) (hx : x ∈ L) (kx : K x = 11) (a0 : Int) (la0 : (-2147483648) ≤ a0) (ua0 : a0 ≤ 2147483647) (b0 : Int) (lb0 : (-2147483648) ≤ b0) (ub0 : b0 ≤ 2147483647) (src : Nat) (hsrc : src ∈ L) (ksrc : K src = 8) (rdr : Nat) (hrdr : rdr ∈ L) (krdr : K rdr = 9) (scr : Nat) (hscr : scr ∈ L) (kscr : K scr = 7) (fc : Nat) (hfc : fc ∈ L) (kfc : K fc = 1) (hist : Nat) (hhist : hist ∈ L) (khist : K hist = 2) (rep : Nat) (hrep : rep ∈ L) (krep : K rep = 6) (now : Nat) (hnow : now ∈ L) (know : K now = 10) (dr : Nat) (hdr : dr ∈ L) (kdr : K dr = 13) (sv : Nat) (hsv : sv ∈ L) (ksv : K sv = 14) (tr : Nat) (htr : tr ∈ L) (ktr : K tr = 15) (hf0 : q_z f x 9 = 0) (hf1 : q_z f src 1 = 0) (hf2 : q_z f src 2 = 0) (hf3 : q_z f src 3 = (-1)) (hf4 : q_z f hist 1 = 0) (hf5 : q_z f hist 2 = 0) (hf6 : q_z f rep 1 = 0) (hf7 : q_z f now 3 = 0) (hf8 : q_z f now 4 = 0) (hf9 : q_z f now 5 = 0) (hf10 : q_z f now 6 = 12) (hf11 : q_z f now 10 = 3) (hf12 : q_z f now 11 = 0) (hf13 : q_z f now 12 = 0) (hr0 : q_r f x 0 = src) (hr1 : q_r f x 1 = rdr) (hr2 : q_r f x 2 = scr) (hr3 : q_r f x 3 = fc) (hr4 : q_r f x 4 = hist) (hr5 : q_r f x 5 = rep) (hr6 : q_r f x 6 = now) (hr7 : q_r f x 7 = dr) (hr8 : q_r f x 8 = sv) (hr9 : q_r f fc 0 = tr) : q_Xt l g K L yX11_nextNode cX11_nextNode 3 (some .int) 7 103 1 6 [.ref x, .int (q_i a0), .int (q_i b0)] f [] (q_Pi (fun (z : Int) (f1 : Nat → va_E) => False)) (fun (E : String) (f1 : Nat → va_E) => E = "java/lang/IndexOutOfBoundsException" ∧ f = f1) := by
  refine q_xofb (by decide +kernel) hN hT (Nat.le_of_ble_eq_true rfl) ?_
  intro p e s m below meth c ls cx hr hlk htab hX hB hl
  have hl : lv_has ls 3 [(0, .ref x), (1, .int (q_i a0)), (2, .int (q_i b0))] := hl
  obtain ⟨H, hH⟩ : ∃ H : Heap, H = s.heap := ⟨_, rfl⟩
  obtain ⟨locs, hlocs⟩ : ∃ z : List Loc, z = [] := ⟨_, rfl⟩
  rw [← hH, ← hlocs] at hB
  rw [← hH, ← hlocs]
  refine q_ald_n cx dX11_nextNode_0 rfl (lv_at hl 0 rfl) ?_
  refine q_ild_n cx dX11_nextNode_1 rfl (lv_at hl 1 rfl) ?_
  refine q_cXV (As := [.int (q_i a0)]) (rest := []) cx hX hB (fun _ h => h) (fun _ h _ => h) hN hx kx (by decide) rfl (x_requireNode l g hN hB.2.1 hfl x hx kx a0 (by omega) (by omega) src hsrc ksrc rdr hrdr krdr scr hscr kscr fc hfc kfc hist hhist khist rep hrep krep now hnow know dr hdr kdr sv hsv ksv tr htr ktr hf0 hf1 hf2 hf3 hf4 hf5 hf6 hf7 hf8 hf9 hf10 hf11 hf12 hf13 hr0 hr1 hr2 hr3 hr4 hr5 hr6 hr7 hr8 hr9) q_cX11_129 q_dX11_requireNode (by decide) rfl rfl hl.1 rfl (Nat.le_of_ble_eq_true rfl) dX11_nextNode_2 (fun E9 ce9 q9 H locs f8 hex hF hB hcell hcv hcl => ?_) (fun v9 H locs f5 h7 hF hB => ?_)
  · rcases hex with ⟨rfl, rfl⟩
    · exact q_xout hlk htab hB hcell hcv hcl (by decide) ⟨rfl, rfl⟩
  · obtain ⟨rfl, h7⟩ := h7
    exact h7.elim
set_option maxHeartbeats 4000000 in
set_option maxRecDepth 100000 in
theorem x_arrives (l : Launch) (g : q_G) {K : Nat → Nat} {L : List Nat} (hN : L.Nodup) {f : Nat → va_E} (hT : q_Ty g K L f) (hfl : l.stackTraces = false) (x : Nat) (hx : x ∈ L) (kx : K x = 11) (a0 : Int) (la0 : (-2147483648) ≤ a0) (ua0 : a0 ≤ 2147483647) (src : Nat) (hsrc : src ∈ L) (ksrc : K src = 8) (rdr : Nat) (hrdr : rdr ∈ L) (krdr : K rdr = 9) (scr : Nat) (hscr : scr ∈ L) (kscr : K scr = 7) (fc : Nat) (hfc : fc ∈ L) (kfc : K fc = 1) (hist : Nat) (hhist : hist ∈ L) (khist : K hist = 2) (rep : Nat) (hrep : rep ∈ L) (krep : K rep = 6) (now : Nat) (hnow : now ∈ L) (know : K now = 10) (dr : Nat) (hdr : dr ∈ L) (kdr : K dr = 13) (sv : Nat) (hsv : sv ∈ L) (ksv : K sv = 14) (tr : Nat) (htr : tr ∈ L) (ktr : K tr = 15) (hf0 : q_z f x 9 = 0) (hf1 : q_z f src 1 = 0) (hf2 : q_z f src 2 = 0) (hf3 : q_z f src 3 = (-1)) (hf4 : q_z f hist 1 = 0) (hf5 : q_z f hist 2 = 0) (hf6 : q_z f rep 1 = 0) (hf7 : q_z f now 3 = 0) (hf8 : q_z f now 4 = 0) (hf9 : q_z f now 5 = 0) (hf10 : q_z f now 6 = 12) (hf11 : q_z f now 10 = 3) (hf12 : q_z f now 11 = 0) (hf13 : q_z f now 12 = 0) (hr0 : q_r f x 0 = src) (hr1 : q_r f x 1 = rdr) (hr2 : q_r f x 2 = scr) (hr3 : q_r f x 3 = fc) (hr4 : q_r f x 4 = hist) (hr5 : q_r f x 5 = rep) (hr6 : q_r f x 6 = now) (hr7 : q_r f x 7 = dr) (hr8 : q_r f x 8 = sv) (hr9 : q_r f fc 0 = tr) : q_Xt l g K L yX11_arrives cX11_arrives 2 (some .int) 7 103 1 6 [.ref x, .int (q_i a0)] f [] (q_Pi (fun (z : Int) (f1 : Nat → va_E) => False)) (fun (E : String) (f1 : Nat → va_E) => E = "java/lang/IndexOutOfBoundsException" ∧ f = f1) := by
  refine q_xofb (by decide +kernel) hN hT (Nat.le_of_ble_eq_true rfl) ?_
  intro p e s m below meth c ls cx hr hlk htab hX hB hl
  have hl : lv_has ls 2 [(0, .ref x), (1, .int (q_i a0))] := hl
  obtain ⟨H, hH⟩ : ∃ H : Heap, H = s.heap := ⟨_, rfl⟩
  obtain ⟨locs, hlocs⟩ : ∃ z : List Loc, z = [] := ⟨_, rfl⟩
  rw [← hH, ← hlocs] at hB
  rw [← hH, ← hlocs]
  refine q_ald_n cx dX11_arrives_0 rfl (lv_at hl 0 rfl) ?_
  refine q_ild_n cx dX11_arrives_1 rfl (lv_at hl 1 rfl) ?_
  refine q_cXV (As := [.int (q_i a0)]) (rest := []) cx hX hB (fun _ h => h) (fun _ h _ => h) hN hx kx (by decide) rfl (x_requireMessage l g hN hB.2.1 hfl x hx kx a0 (by omega) (by omega) src hsrc ksrc rdr hrdr krdr scr hscr kscr fc hfc kfc hist hhist khist rep hrep krep now hnow know dr hdr kdr sv hsv ksv tr htr ktr hf0 hf1 hf2 hf3 hf4 hf5 hf6 hf7 hf8 hf9 hf10 hf11 hf12 hf13 hr0 hr1 hr2 hr3 hr4 hr5 hr6 hr7 hr8 hr9) q_cX11_155 q_dX11_requireMessage (by decide) rfl rfl hl.1 rfl (Nat.le_of_ble_eq_true rfl) dX11_arrives_2 (fun E9 ce9 q9 H locs f8 hex hF hB hcell hcv hcl => ?_) (fun v9 H locs f5 h7 hF hB => ?_)
  · rcases hex with ⟨rfl, rfl⟩
    · exact q_xout hlk htab hB hcell hcv hcl (by decide) ⟨rfl, rfl⟩
  · obtain ⟨rfl, h7⟩ := h7
    exact h7.elim
set_option maxHeartbeats 4000000 in
set_option maxRecDepth 100000 in
theorem x_wouldArrive (l : Launch) (g : q_G) {K : Nat → Nat} {L : List Nat} (hN : L.Nodup) {f : Nat → va_E} (hT : q_Ty g K L f) (hfl : l.stackTraces = false) (x : Nat) (hx : x ∈ L) (kx : K x = 11) (a0 : Int) (la0 : (-2147483648) ≤ a0) (ua0 : a0 ≤ 2147483647) (b0 : Int) (lb0 : (-2147483648) ≤ b0) (ub0 : b0 ≤ 2147483647) (z0 : Int) (lz0 : 0 ≤ z0) (uz0 : z0 ≤ 1) (src : Nat) (hsrc : src ∈ L) (ksrc : K src = 8) (rdr : Nat) (hrdr : rdr ∈ L) (krdr : K rdr = 9) (scr : Nat) (hscr : scr ∈ L) (kscr : K scr = 7) (fc : Nat) (hfc : fc ∈ L) (kfc : K fc = 1) (hist : Nat) (hhist : hist ∈ L) (khist : K hist = 2) (rep : Nat) (hrep : rep ∈ L) (krep : K rep = 6) (now : Nat) (hnow : now ∈ L) (know : K now = 10) (dr : Nat) (hdr : dr ∈ L) (kdr : K dr = 13) (sv : Nat) (hsv : sv ∈ L) (ksv : K sv = 14) (tr : Nat) (htr : tr ∈ L) (ktr : K tr = 15) (hf0 : q_z f x 9 = 0) (hf1 : q_z f src 1 = 0) (hf2 : q_z f src 2 = 0) (hf3 : q_z f src 3 = (-1)) (hf4 : q_z f hist 1 = 0) (hf5 : q_z f hist 2 = 0) (hf6 : q_z f rep 1 = 0) (hf7 : q_z f now 3 = 0) (hf8 : q_z f now 4 = 0) (hf9 : q_z f now 5 = 0) (hf10 : q_z f now 6 = 12) (hf11 : q_z f now 10 = 3) (hf12 : q_z f now 11 = 0) (hf13 : q_z f now 12 = 0) (hr0 : q_r f x 0 = src) (hr1 : q_r f x 1 = rdr) (hr2 : q_r f x 2 = scr) (hr3 : q_r f x 3 = fc) (hr4 : q_r f x 4 = hist) (hr5 : q_r f x 5 = rep) (hr6 : q_r f x 6 = now) (hr7 : q_r f x 7 = dr) (hr8 : q_r f x 8 = sv) (hr9 : q_r f fc 0 = tr) : q_Xt l g K L yX11_wouldArrive cX11_wouldArrive 4 (some .int) 7 103 1 6 [.ref x, .int (q_i a0), .int (q_i b0), .int (q_i z0)] f [] (q_Pi (fun (z : Int) (f1 : Nat → va_E) => False)) (fun (E : String) (f1 : Nat → va_E) => E = "java/lang/IndexOutOfBoundsException" ∧ f = f1) := by
  refine q_xofb (by decide +kernel) hN hT (Nat.le_of_ble_eq_true rfl) ?_
  intro p e s m below meth c ls cx hr hlk htab hX hB hl
  have hl : lv_has ls 4 [(0, .ref x), (1, .int (q_i a0)), (2, .int (q_i b0)), (3, .int (q_i z0))] := hl
  obtain ⟨H, hH⟩ : ∃ H : Heap, H = s.heap := ⟨_, rfl⟩
  obtain ⟨locs, hlocs⟩ : ∃ z : List Loc, z = [] := ⟨_, rfl⟩
  rw [← hH, ← hlocs] at hB
  rw [← hH, ← hlocs]
  refine q_ald_n cx dX11_wouldArrive_0 rfl (lv_at hl 0 rfl) ?_
  refine q_ild_n cx dX11_wouldArrive_1 rfl (lv_at hl 1 rfl) ?_
  refine q_cXV (As := [.int (q_i a0)]) (rest := []) cx hX hB (fun _ h => h) (fun _ h _ => h) hN hx kx (by decide) rfl (x_requireNode l g hN hB.2.1 hfl x hx kx a0 (by omega) (by omega) src hsrc ksrc rdr hrdr krdr scr hscr kscr fc hfc kfc hist hhist khist rep hrep krep now hnow know dr hdr kdr sv hsv ksv tr htr ktr hf0 hf1 hf2 hf3 hf4 hf5 hf6 hf7 hf8 hf9 hf10 hf11 hf12 hf13 hr0 hr1 hr2 hr3 hr4 hr5 hr6 hr7 hr8 hr9) q_cX11_129 q_dX11_requireNode (by decide) rfl rfl hl.1 rfl (Nat.le_of_ble_eq_true rfl) dX11_wouldArrive_2 (fun E9 ce9 q9 H locs f8 hex hF hB hcell hcv hcl => ?_) (fun v9 H locs f5 h7 hF hB => ?_)
  · rcases hex with ⟨rfl, rfl⟩
    · exact q_xout hlk htab hB hcell hcv hcl (by decide) ⟨rfl, rfl⟩
  · obtain ⟨rfl, h7⟩ := h7
    exact h7.elim
set_option maxHeartbeats 4000000 in
set_option maxRecDepth 100000 in
theorem x_outIn (l : Launch) (g : q_G) {K : Nat → Nat} {L : List Nat} (hN : L.Nodup) {f : Nat → va_E} (hT : q_Ty g K L f) (hfl : l.stackTraces = false) (x : Nat) (hx : x ∈ L) (kx : K x = 11) (a0 : Int) (la0 : (-2147483648) ≤ a0) (ua0 : a0 ≤ 2147483647) (src : Nat) (hsrc : src ∈ L) (ksrc : K src = 8) (rdr : Nat) (hrdr : rdr ∈ L) (krdr : K rdr = 9) (scr : Nat) (hscr : scr ∈ L) (kscr : K scr = 7) (fc : Nat) (hfc : fc ∈ L) (kfc : K fc = 1) (hist : Nat) (hhist : hist ∈ L) (khist : K hist = 2) (rep : Nat) (hrep : rep ∈ L) (krep : K rep = 6) (now : Nat) (hnow : now ∈ L) (know : K now = 10) (dr : Nat) (hdr : dr ∈ L) (kdr : K dr = 13) (sv : Nat) (hsv : sv ∈ L) (ksv : K sv = 14) (tr : Nat) (htr : tr ∈ L) (ktr : K tr = 15) (hf0 : q_z f x 9 = 0) (hf1 : q_z f src 1 = 0) (hf2 : q_z f src 2 = 0) (hf3 : q_z f src 3 = (-1)) (hf4 : q_z f hist 1 = 0) (hf5 : q_z f hist 2 = 0) (hf6 : q_z f rep 1 = 0) (hf7 : q_z f now 3 = 0) (hf8 : q_z f now 4 = 0) (hf9 : q_z f now 5 = 0) (hf10 : q_z f now 6 = 12) (hf11 : q_z f now 10 = 3) (hf12 : q_z f now 11 = 0) (hf13 : q_z f now 12 = 0) (hr0 : q_r f x 0 = src) (hr1 : q_r f x 1 = rdr) (hr2 : q_r f x 2 = scr) (hr3 : q_r f x 3 = fc) (hr4 : q_r f x 4 = hist) (hr5 : q_r f x 5 = rep) (hr6 : q_r f x 6 = now) (hr7 : q_r f x 7 = dr) (hr8 : q_r f x 8 = sv) (hr9 : q_r f fc 0 = tr) : q_Xt l g K L yX11_outIn cX11_outIn 2 (some .int) 7 103 1 6 [.ref x, .int (q_i a0)] f [] (q_Pi (fun (z : Int) (f1 : Nat → va_E) => False)) (fun (E : String) (f1 : Nat → va_E) => E = "java/lang/IndexOutOfBoundsException" ∧ f = f1) := by
  refine q_xofb (by decide +kernel) hN hT (Nat.le_of_ble_eq_true rfl) ?_
  intro p e s m below meth c ls cx hr hlk htab hX hB hl
  have hl : lv_has ls 2 [(0, .ref x), (1, .int (q_i a0))] := hl
  obtain ⟨H, hH⟩ : ∃ H : Heap, H = s.heap := ⟨_, rfl⟩
  obtain ⟨locs, hlocs⟩ : ∃ z : List Loc, z = [] := ⟨_, rfl⟩
  rw [← hH, ← hlocs] at hB
  rw [← hH, ← hlocs]
  refine q_ald_n cx dX11_outIn_0 rfl (lv_at hl 0 rfl) ?_
  refine q_ild_n cx dX11_outIn_1 rfl (lv_at hl 1 rfl) ?_
  refine q_cXV (As := [.int (q_i a0)]) (rest := []) cx hX hB (fun _ h => h) (fun _ h _ => h) hN hx kx (by decide) rfl (x_requireNode l g hN hB.2.1 hfl x hx kx a0 (by omega) (by omega) src hsrc ksrc rdr hrdr krdr scr hscr kscr fc hfc kfc hist hhist khist rep hrep krep now hnow know dr hdr kdr sv hsv ksv tr htr ktr hf0 hf1 hf2 hf3 hf4 hf5 hf6 hf7 hf8 hf9 hf10 hf11 hf12 hf13 hr0 hr1 hr2 hr3 hr4 hr5 hr6 hr7 hr8 hr9) q_cX11_129 q_dX11_requireNode (by decide) rfl rfl hl.1 rfl (Nat.le_of_ble_eq_true rfl) dX11_outIn_2 (fun E9 ce9 q9 H locs f8 hex hF hB hcell hcv hcl => ?_) (fun v9 H locs f5 h7 hF hB => ?_)
  · rcases hex with ⟨rfl, rfl⟩
    · exact q_xout hlk htab hB hcell hcv hcl (by decide) ⟨rfl, rfl⟩
  · obtain ⟨rfl, h7⟩ := h7
    exact h7.elim
set_option maxHeartbeats 4000000 in
set_option maxRecDepth 100000 in
theorem x_energyIn (l : Launch) (g : q_G) {K : Nat → Nat} {L : List Nat} (hN : L.Nodup) {f : Nat → va_E} (hT : q_Ty g K L f) (hfl : l.stackTraces = false) (x : Nat) (hx : x ∈ L) (kx : K x = 11) (a0 : Int) (la0 : (-2147483648) ≤ a0) (ua0 : a0 ≤ 2147483647) (b0 : Int) (lb0 : (-2147483648) ≤ b0) (ub0 : b0 ≤ 2147483647) (src : Nat) (hsrc : src ∈ L) (ksrc : K src = 8) (rdr : Nat) (hrdr : rdr ∈ L) (krdr : K rdr = 9) (scr : Nat) (hscr : scr ∈ L) (kscr : K scr = 7) (fc : Nat) (hfc : fc ∈ L) (kfc : K fc = 1) (hist : Nat) (hhist : hist ∈ L) (khist : K hist = 2) (rep : Nat) (hrep : rep ∈ L) (krep : K rep = 6) (now : Nat) (hnow : now ∈ L) (know : K now = 10) (dr : Nat) (hdr : dr ∈ L) (kdr : K dr = 13) (sv : Nat) (hsv : sv ∈ L) (ksv : K sv = 14) (tr : Nat) (htr : tr ∈ L) (ktr : K tr = 15) (hf0 : q_z f x 9 = 0) (hf1 : q_z f src 1 = 0) (hf2 : q_z f src 2 = 0) (hf3 : q_z f src 3 = (-1)) (hf4 : q_z f hist 1 = 0) (hf5 : q_z f hist 2 = 0) (hf6 : q_z f rep 1 = 0) (hf7 : q_z f now 3 = 0) (hf8 : q_z f now 4 = 0) (hf9 : q_z f now 5 = 0) (hf10 : q_z f now 6 = 12) (hf11 : q_z f now 10 = 3) (hf12 : q_z f now 11 = 0) (hf13 : q_z f now 12 = 0) (hr0 : q_r f x 0 = src) (hr1 : q_r f x 1 = rdr) (hr2 : q_r f x 2 = scr) (hr3 : q_r f x 3 = fc) (hr4 : q_r f x 4 = hist) (hr5 : q_r f x 5 = rep) (hr6 : q_r f x 6 = now) (hr7 : q_r f x 7 = dr) (hr8 : q_r f x 8 = sv) (hr9 : q_r f fc 0 = tr) : q_Xt l g K L yX11_energyIn cX11_energyIn 3 (some .int) 7 103 1 6 [.ref x, .int (q_i a0), .int (q_i b0)] f [] (q_Pi (fun (z : Int) (f1 : Nat → va_E) => False)) (fun (E : String) (f1 : Nat → va_E) => E = "java/lang/IndexOutOfBoundsException" ∧ f = f1) := by
  refine q_xofb (by decide +kernel) hN hT (Nat.le_of_ble_eq_true rfl) ?_
  intro p e s m below meth c ls cx hr hlk htab hX hB hl
  have hl : lv_has ls 3 [(0, .ref x), (1, .int (q_i a0)), (2, .int (q_i b0))] := hl
  obtain ⟨H, hH⟩ : ∃ H : Heap, H = s.heap := ⟨_, rfl⟩
  obtain ⟨locs, hlocs⟩ : ∃ z : List Loc, z = [] := ⟨_, rfl⟩
  rw [← hH, ← hlocs] at hB
  rw [← hH, ← hlocs]
  refine q_ald_n cx dX11_energyIn_0 rfl (lv_at hl 0 rfl) ?_
  refine q_ild_n cx dX11_energyIn_1 rfl (lv_at hl 1 rfl) ?_
  refine q_cXV (As := [.int (q_i a0)]) (rest := []) cx hX hB (fun _ h => h) (fun _ h _ => h) hN hx kx (by decide) rfl (x_requireNode l g hN hB.2.1 hfl x hx kx a0 (by omega) (by omega) src hsrc ksrc rdr hrdr krdr scr hscr kscr fc hfc kfc hist hhist khist rep hrep krep now hnow know dr hdr kdr sv hsv ksv tr htr ktr hf0 hf1 hf2 hf3 hf4 hf5 hf6 hf7 hf8 hf9 hf10 hf11 hf12 hf13 hr0 hr1 hr2 hr3 hr4 hr5 hr6 hr7 hr8 hr9) q_cX11_129 q_dX11_requireNode (by decide) rfl rfl hl.1 rfl (Nat.le_of_ble_eq_true rfl) dX11_energyIn_2 (fun E9 ce9 q9 H locs f8 hex hF hB hcell hcv hcl => ?_) (fun v9 H locs f5 h7 hF hB => ?_)
  · rcases hex with ⟨rfl, rfl⟩
    · exact q_xout hlk htab hB hcell hcv hcl (by decide) ⟨rfl, rfl⟩
  · obtain ⟨rfl, h7⟩ := h7
    exact h7.elim
set_option maxHeartbeats 4000000 in
set_option maxRecDepth 100000 in
theorem x_bestShift (l : Launch) (g : q_G) {K : Nat → Nat} {L : List Nat} (hN : L.Nodup) {f : Nat → va_E} (hT : q_Ty g K L f) (hfl : l.stackTraces = false) (x : Nat) (hx : x ∈ L) (kx : K x = 11) (a0 : Int) (la0 : (-2147483648) ≤ a0) (ua0 : a0 ≤ 2147483647) (src : Nat) (hsrc : src ∈ L) (ksrc : K src = 8) (rdr : Nat) (hrdr : rdr ∈ L) (krdr : K rdr = 9) (scr : Nat) (hscr : scr ∈ L) (kscr : K scr = 7) (fc : Nat) (hfc : fc ∈ L) (kfc : K fc = 1) (hist : Nat) (hhist : hist ∈ L) (khist : K hist = 2) (rep : Nat) (hrep : rep ∈ L) (krep : K rep = 6) (now : Nat) (hnow : now ∈ L) (know : K now = 10) (dr : Nat) (hdr : dr ∈ L) (kdr : K dr = 13) (sv : Nat) (hsv : sv ∈ L) (ksv : K sv = 14) (tr : Nat) (htr : tr ∈ L) (ktr : K tr = 15) (hf0 : q_z f x 9 = 0) (hf1 : q_z f src 1 = 0) (hf2 : q_z f src 2 = 0) (hf3 : q_z f src 3 = (-1)) (hf4 : q_z f hist 1 = 0) (hf5 : q_z f hist 2 = 0) (hf6 : q_z f rep 1 = 0) (hf7 : q_z f now 3 = 0) (hf8 : q_z f now 4 = 0) (hf9 : q_z f now 5 = 0) (hf10 : q_z f now 6 = 12) (hf11 : q_z f now 10 = 3) (hf12 : q_z f now 11 = 0) (hf13 : q_z f now 12 = 0) (hr0 : q_r f x 0 = src) (hr1 : q_r f x 1 = rdr) (hr2 : q_r f x 2 = scr) (hr3 : q_r f x 3 = fc) (hr4 : q_r f x 4 = hist) (hr5 : q_r f x 5 = rep) (hr6 : q_r f x 6 = now) (hr7 : q_r f x 7 = dr) (hr8 : q_r f x 8 = sv) (hr9 : q_r f fc 0 = tr) : q_Xt l g K L yX11_bestShift cX11_bestShift 2 (some .int) 7 103 1 6 [.ref x, .int (q_i a0)] f [] (q_Pi (fun (z : Int) (f1 : Nat → va_E) => False)) (fun (E : String) (f1 : Nat → va_E) => E = "java/lang/IndexOutOfBoundsException" ∧ f = f1) := by
  refine q_xofb (by decide +kernel) hN hT (Nat.le_of_ble_eq_true rfl) ?_
  intro p e s m below meth c ls cx hr hlk htab hX hB hl
  have hl : lv_has ls 2 [(0, .ref x), (1, .int (q_i a0))] := hl
  obtain ⟨H, hH⟩ : ∃ H : Heap, H = s.heap := ⟨_, rfl⟩
  obtain ⟨locs, hlocs⟩ : ∃ z : List Loc, z = [] := ⟨_, rfl⟩
  rw [← hH, ← hlocs] at hB
  rw [← hH, ← hlocs]
  refine q_ald_n cx dX11_bestShift_0 rfl (lv_at hl 0 rfl) ?_
  refine q_ild_n cx dX11_bestShift_1 rfl (lv_at hl 1 rfl) ?_
  refine q_cXV (As := [.int (q_i a0)]) (rest := []) cx hX hB (fun _ h => h) (fun _ h _ => h) hN hx kx (by decide) rfl (x_requireNode l g hN hB.2.1 hfl x hx kx a0 (by omega) (by omega) src hsrc ksrc rdr hrdr krdr scr hscr kscr fc hfc kfc hist hhist khist rep hrep krep now hnow know dr hdr kdr sv hsv ksv tr htr ktr hf0 hf1 hf2 hf3 hf4 hf5 hf6 hf7 hf8 hf9 hf10 hf11 hf12 hf13 hr0 hr1 hr2 hr3 hr4 hr5 hr6 hr7 hr8 hr9) q_cX11_129 q_dX11_requireNode (by decide) rfl rfl hl.1 rfl (Nat.le_of_ble_eq_true rfl) dX11_bestShift_2 (fun E9 ce9 q9 H locs f8 hex hF hB hcell hcv hcl => ?_) (fun v9 H locs f5 h7 hF hB => ?_)
  · rcases hex with ⟨rfl, rfl⟩
    · exact q_xout hlk htab hB hcell hcv hcl (by decide) ⟨rfl, rfl⟩
  · obtain ⟨rfl, h7⟩ := h7
    exact h7.elim
set_option maxHeartbeats 4000000 in
set_option maxRecDepth 100000 in
theorem x_bestWatch (l : Launch) (g : q_G) {K : Nat → Nat} {L : List Nat} (hN : L.Nodup) {f : Nat → va_E} (hT : q_Ty g K L f) (hfl : l.stackTraces = false) (x : Nat) (hx : x ∈ L) (kx : K x = 11) (a0 : Int) (la0 : (-2147483648) ≤ a0) (ua0 : a0 ≤ 2147483647) (b0 : Int) (lb0 : (-2147483648) ≤ b0) (ub0 : b0 ≤ 2147483647) (src : Nat) (hsrc : src ∈ L) (ksrc : K src = 8) (rdr : Nat) (hrdr : rdr ∈ L) (krdr : K rdr = 9) (scr : Nat) (hscr : scr ∈ L) (kscr : K scr = 7) (fc : Nat) (hfc : fc ∈ L) (kfc : K fc = 1) (hist : Nat) (hhist : hist ∈ L) (khist : K hist = 2) (rep : Nat) (hrep : rep ∈ L) (krep : K rep = 6) (now : Nat) (hnow : now ∈ L) (know : K now = 10) (dr : Nat) (hdr : dr ∈ L) (kdr : K dr = 13) (sv : Nat) (hsv : sv ∈ L) (ksv : K sv = 14) (tr : Nat) (htr : tr ∈ L) (ktr : K tr = 15) (hf0 : q_z f x 9 = 0) (hf1 : q_z f src 1 = 0) (hf2 : q_z f src 2 = 0) (hf3 : q_z f src 3 = (-1)) (hf4 : q_z f hist 1 = 0) (hf5 : q_z f hist 2 = 0) (hf6 : q_z f rep 1 = 0) (hf7 : q_z f now 3 = 0) (hf8 : q_z f now 4 = 0) (hf9 : q_z f now 5 = 0) (hf10 : q_z f now 6 = 12) (hf11 : q_z f now 10 = 3) (hf12 : q_z f now 11 = 0) (hf13 : q_z f now 12 = 0) (hr0 : q_r f x 0 = src) (hr1 : q_r f x 1 = rdr) (hr2 : q_r f x 2 = scr) (hr3 : q_r f x 3 = fc) (hr4 : q_r f x 4 = hist) (hr5 : q_r f x 5 = rep) (hr6 : q_r f x 6 = now) (hr7 : q_r f x 7 = dr) (hr8 : q_r f x 8 = sv) (hr9 : q_r f fc 0 = tr) : q_Xt l g K L yX11_bestWatch cX11_bestWatch 3 (some .int) 7 103 1 6 [.ref x, .int (q_i a0), .int (q_i b0)] f [] (q_Pi (fun (z : Int) (f1 : Nat → va_E) => False)) (fun (E : String) (f1 : Nat → va_E) => E = "java/lang/IndexOutOfBoundsException" ∧ f = f1) := by
  refine q_xofb (by decide +kernel) hN hT (Nat.le_of_ble_eq_true rfl) ?_
  intro p e s m below meth c ls cx hr hlk htab hX hB hl
  have hl : lv_has ls 3 [(0, .ref x), (1, .int (q_i a0)), (2, .int (q_i b0))] := hl
  obtain ⟨H, hH⟩ : ∃ H : Heap, H = s.heap := ⟨_, rfl⟩
  obtain ⟨locs, hlocs⟩ : ∃ z : List Loc, z = [] := ⟨_, rfl⟩
  rw [← hH, ← hlocs] at hB
  rw [← hH, ← hlocs]
  refine q_ald_n cx dX11_bestWatch_0 rfl (lv_at hl 0 rfl) ?_
  refine q_ild_n cx dX11_bestWatch_1 rfl (lv_at hl 1 rfl) ?_
  refine q_cXV (As := [.int (q_i a0)]) (rest := []) cx hX hB (fun _ h => h) (fun _ h _ => h) hN hx kx (by decide) rfl (x_requireNode l g hN hB.2.1 hfl x hx kx a0 (by omega) (by omega) src hsrc ksrc rdr hrdr krdr scr hscr kscr fc hfc kfc hist hhist khist rep hrep krep now hnow know dr hdr kdr sv hsv ksv tr htr ktr hf0 hf1 hf2 hf3 hf4 hf5 hf6 hf7 hf8 hf9 hf10 hf11 hf12 hf13 hr0 hr1 hr2 hr3 hr4 hr5 hr6 hr7 hr8 hr9) q_cX11_129 q_dX11_requireNode (by decide) rfl rfl hl.1 rfl (Nat.le_of_ble_eq_true rfl) dX11_bestWatch_2 (fun E9 ce9 q9 H locs f8 hex hF hB hcell hcv hcl => ?_) (fun v9 H locs f5 h7 hF hB => ?_)
  · rcases hex with ⟨rfl, rfl⟩
    · exact q_xout hlk htab hB hcell hcv hcl (by decide) ⟨rfl, rfl⟩
  · obtain ⟨rfl, h7⟩ := h7
    exact h7.elim
set_option maxHeartbeats 4000000 in
set_option maxRecDepth 100000 in
theorem x_send (l : Launch) (g : q_G) {K : Nat → Nat} {L : List Nat} (hN : L.Nodup) {f : Nat → va_E} (hT : q_Ty g K L f) (hfl : l.stackTraces = false) (x : Nat) (hx : x ∈ L) (kx : K x = 11) (a0 : Int) (la0 : (-2147483648) ≤ a0) (ua0 : a0 ≤ 2147483647) (b0 : Int) (lb0 : (-2147483648) ≤ b0) (ub0 : b0 ≤ 2147483647) (c0 : Int) (lc0 : (-2147483648) ≤ c0) (uc0 : c0 ≤ 2147483647) (z0 : Int) (lz0 : 0 ≤ z0) (uz0 : z0 ≤ 1) (src : Nat) (hsrc : src ∈ L) (ksrc : K src = 8) (rdr : Nat) (hrdr : rdr ∈ L) (krdr : K rdr = 9) (scr : Nat) (hscr : scr ∈ L) (kscr : K scr = 7) (fc : Nat) (hfc : fc ∈ L) (kfc : K fc = 1) (hist : Nat) (hhist : hist ∈ L) (khist : K hist = 2) (rep : Nat) (hrep : rep ∈ L) (krep : K rep = 6) (now : Nat) (hnow : now ∈ L) (know : K now = 10) (dr : Nat) (hdr : dr ∈ L) (kdr : K dr = 13) (sv : Nat) (hsv : sv ∈ L) (ksv : K sv = 14) (tr : Nat) (htr : tr ∈ L) (ktr : K tr = 15) (hf0 : q_z f x 9 = 0) (hf1 : q_z f src 1 = 0) (hf2 : q_z f src 2 = 0) (hf3 : q_z f src 3 = (-1)) (hf4 : q_z f hist 1 = 0) (hf5 : q_z f hist 2 = 0) (hf6 : q_z f rep 1 = 0) (hf7 : q_z f now 3 = 0) (hf8 : q_z f now 4 = 0) (hf9 : q_z f now 5 = 0) (hf10 : q_z f now 6 = 12) (hf11 : q_z f now 10 = 3) (hf12 : q_z f now 11 = 0) (hf13 : q_z f now 12 = 0) (hr0 : q_r f x 0 = src) (hr1 : q_r f x 1 = rdr) (hr2 : q_r f x 2 = scr) (hr3 : q_r f x 3 = fc) (hr4 : q_r f x 4 = hist) (hr5 : q_r f x 5 = rep) (hr6 : q_r f x 6 = now) (hr7 : q_r f x 7 = dr) (hr8 : q_r f x 8 = sv) (hr9 : q_r f fc 0 = tr) : q_Xt l g K L yX11_send cX11_send 5 (some .int) 7 103 1 6 [.ref x, .int (q_i a0), .int (q_i b0), .int (q_i c0), .int (q_i z0)] f [] (q_Pi (fun (z : Int) (f1 : Nat → va_E) => False)) (fun (E : String) (f1 : Nat → va_E) => E = "java/lang/IndexOutOfBoundsException" ∧ f = f1) := by
  refine q_xofb (by decide +kernel) hN hT (Nat.le_of_ble_eq_true rfl) ?_
  intro p e s m below meth c ls cx hr hlk htab hX hB hl
  have hl : lv_has ls 5 [(0, .ref x), (1, .int (q_i a0)), (2, .int (q_i b0)), (3, .int (q_i c0)), (4, .int (q_i z0))] := hl
  obtain ⟨H, hH⟩ : ∃ H : Heap, H = s.heap := ⟨_, rfl⟩
  obtain ⟨locs, hlocs⟩ : ∃ z : List Loc, z = [] := ⟨_, rfl⟩
  rw [← hH, ← hlocs] at hB
  rw [← hH, ← hlocs]
  refine q_ald_n cx dX11_send_0 rfl (lv_at hl 0 rfl) ?_
  refine q_ild_n cx dX11_send_1 rfl (lv_at hl 1 rfl) ?_
  refine q_cXV (As := [.int (q_i a0)]) (rest := []) cx hX hB (fun _ h => h) (fun _ h _ => h) hN hx kx (by decide) rfl (x_requireNode l g hN hB.2.1 hfl x hx kx a0 (by omega) (by omega) src hsrc ksrc rdr hrdr krdr scr hscr kscr fc hfc kfc hist hhist khist rep hrep krep now hnow know dr hdr kdr sv hsv ksv tr htr ktr hf0 hf1 hf2 hf3 hf4 hf5 hf6 hf7 hf8 hf9 hf10 hf11 hf12 hf13 hr0 hr1 hr2 hr3 hr4 hr5 hr6 hr7 hr8 hr9) q_cX11_129 q_dX11_requireNode (by decide) rfl rfl hl.1 rfl (Nat.le_of_ble_eq_true rfl) dX11_send_2 (fun E9 ce9 q9 H locs f8 hex hF hB hcell hcv hcl => ?_) (fun v9 H locs f5 h7 hF hB => ?_)
  · rcases hex with ⟨rfl, rfl⟩
    · exact q_xout hlk htab hB hcell hcv hcl (by decide) ⟨rfl, rfl⟩
  · obtain ⟨rfl, h7⟩ := h7
    exact h7.elim
set_option maxHeartbeats 4000000 in
set_option maxRecDepth 100000 in
theorem x_setShift (l : Launch) (g : q_G) {K : Nat → Nat} {L : List Nat} (hN : L.Nodup) {f : Nat → va_E} (hT : q_Ty g K L f) (hfl : l.stackTraces = false) (x : Nat) (hx : x ∈ L) (kx : K x = 11) (a0 : Int) (la0 : (-2147483648) ≤ a0) (ua0 : a0 ≤ 2147483647) (b0 : Int) (lb0 : (-2147483648) ≤ b0) (ub0 : b0 ≤ 2147483647) (src : Nat) (hsrc : src ∈ L) (ksrc : K src = 8) (rdr : Nat) (hrdr : rdr ∈ L) (krdr : K rdr = 9) (scr : Nat) (hscr : scr ∈ L) (kscr : K scr = 7) (fc : Nat) (hfc : fc ∈ L) (kfc : K fc = 1) (hist : Nat) (hhist : hist ∈ L) (khist : K hist = 2) (rep : Nat) (hrep : rep ∈ L) (krep : K rep = 6) (now : Nat) (hnow : now ∈ L) (know : K now = 10) (dr : Nat) (hdr : dr ∈ L) (kdr : K dr = 13) (sv : Nat) (hsv : sv ∈ L) (ksv : K sv = 14) (tr : Nat) (htr : tr ∈ L) (ktr : K tr = 15) (hf0 : q_z f x 9 = 0) (hf1 : q_z f src 1 = 0) (hf2 : q_z f src 2 = 0) (hf3 : q_z f src 3 = (-1)) (hf4 : q_z f hist 1 = 0) (hf5 : q_z f hist 2 = 0) (hf6 : q_z f rep 1 = 0) (hf7 : q_z f now 3 = 0) (hf8 : q_z f now 4 = 0) (hf9 : q_z f now 5 = 0) (hf10 : q_z f now 6 = 12) (hf11 : q_z f now 10 = 3) (hf12 : q_z f now 11 = 0) (hf13 : q_z f now 12 = 0) (hr0 : q_r f x 0 = src) (hr1 : q_r f x 1 = rdr) (hr2 : q_r f x 2 = scr) (hr3 : q_r f x 3 = fc) (hr4 : q_r f x 4 = hist) (hr5 : q_r f x 5 = rep) (hr6 : q_r f x 6 = now) (hr7 : q_r f x 7 = dr) (hr8 : q_r f x 8 = sv) (hr9 : q_r f fc 0 = tr) : q_Xt l g K L yX11_setShift cX11_setShift 4 (some .int) 7 103 1 6 [.ref x, .int (q_i a0), .int (q_i b0)] f [] (q_Pi (fun (z : Int) (f1 : Nat → va_E) => False)) (fun (E : String) (f1 : Nat → va_E) => E = "java/lang/IndexOutOfBoundsException" ∧ f = f1) := by
  refine q_xofb (by decide +kernel) hN hT (Nat.le_of_ble_eq_true rfl) ?_
  intro p e s m below meth c ls cx hr hlk htab hX hB hl
  have hl : lv_has ls 4 [(0, .ref x), (1, .int (q_i a0)), (2, .int (q_i b0))] := hl
  obtain ⟨H, hH⟩ : ∃ H : Heap, H = s.heap := ⟨_, rfl⟩
  obtain ⟨locs, hlocs⟩ : ∃ z : List Loc, z = [] := ⟨_, rfl⟩
  rw [← hH, ← hlocs] at hB
  rw [← hH, ← hlocs]
  refine q_ald_n cx dX11_setShift_0 rfl (lv_at hl 0 rfl) ?_
  refine q_ild_n cx dX11_setShift_1 rfl (lv_at hl 1 rfl) ?_
  refine q_cXV (As := [.int (q_i a0)]) (rest := []) cx hX hB (fun _ h => h) (fun _ h _ => h) hN hx kx (by decide) rfl (x_requireNode l g hN hB.2.1 hfl x hx kx a0 (by omega) (by omega) src hsrc ksrc rdr hrdr krdr scr hscr kscr fc hfc kfc hist hhist khist rep hrep krep now hnow know dr hdr kdr sv hsv ksv tr htr ktr hf0 hf1 hf2 hf3 hf4 hf5 hf6 hf7 hf8 hf9 hf10 hf11 hf12 hf13 hr0 hr1 hr2 hr3 hr4 hr5 hr6 hr7 hr8 hr9) q_cX11_129 q_dX11_requireNode (by decide) rfl rfl hl.1 rfl (Nat.le_of_ble_eq_true rfl) dX11_setShift_2 (fun E9 ce9 q9 H locs f8 hex hF hB hcell hcv hcl => ?_) (fun v9 H locs f5 h7 hF hB => ?_)
  · rcases hex with ⟨rfl, rfl⟩
    · exact q_xout hlk htab hB hcell hcv hcl (by decide) ⟨rfl, rfl⟩
  · obtain ⟨rfl, h7⟩ := h7
    exact h7.elim
set_option maxHeartbeats 4000000 in
set_option maxRecDepth 100000 in
theorem x_watch (l : Launch) (g : q_G) {K : Nat → Nat} {L : List Nat} (hN : L.Nodup) {f : Nat → va_E} (hT : q_Ty g K L f) (hfl : l.stackTraces = false) (x : Nat) (hx : x ∈ L) (kx : K x = 11) (a0 : Int) (la0 : (-2147483648) ≤ a0) (ua0 : a0 ≤ 2147483647) (b0 : Int) (lb0 : (-2147483648) ≤ b0) (ub0 : b0 ≤ 2147483647) (z0 : Int) (lz0 : 0 ≤ z0) (uz0 : z0 ≤ 1) (src : Nat) (hsrc : src ∈ L) (ksrc : K src = 8) (rdr : Nat) (hrdr : rdr ∈ L) (krdr : K rdr = 9) (scr : Nat) (hscr : scr ∈ L) (kscr : K scr = 7) (fc : Nat) (hfc : fc ∈ L) (kfc : K fc = 1) (hist : Nat) (hhist : hist ∈ L) (khist : K hist = 2) (rep : Nat) (hrep : rep ∈ L) (krep : K rep = 6) (now : Nat) (hnow : now ∈ L) (know : K now = 10) (dr : Nat) (hdr : dr ∈ L) (kdr : K dr = 13) (sv : Nat) (hsv : sv ∈ L) (ksv : K sv = 14) (tr : Nat) (htr : tr ∈ L) (ktr : K tr = 15) (hf0 : q_z f x 9 = 0) (hf1 : q_z f src 1 = 0) (hf2 : q_z f src 2 = 0) (hf3 : q_z f src 3 = (-1)) (hf4 : q_z f hist 1 = 0) (hf5 : q_z f hist 2 = 0) (hf6 : q_z f rep 1 = 0) (hf7 : q_z f now 3 = 0) (hf8 : q_z f now 4 = 0) (hf9 : q_z f now 5 = 0) (hf10 : q_z f now 6 = 12) (hf11 : q_z f now 10 = 3) (hf12 : q_z f now 11 = 0) (hf13 : q_z f now 12 = 0) (hr0 : q_r f x 0 = src) (hr1 : q_r f x 1 = rdr) (hr2 : q_r f x 2 = scr) (hr3 : q_r f x 3 = fc) (hr4 : q_r f x 4 = hist) (hr5 : q_r f x 5 = rep) (hr6 : q_r f x 6 = now) (hr7 : q_r f x 7 = dr) (hr8 : q_r f x 8 = sv) (hr9 : q_r f fc 0 = tr) : q_Xt l g K L yX11_watch cX11_watch 4 (some .boolean) 7 103 1 6 [.ref x, .int (q_i a0), .int (q_i b0), .int (q_i z0)] f [] (q_Pi (fun (z : Int) (f1 : Nat → va_E) => False)) (fun (E : String) (f1 : Nat → va_E) => E = "java/lang/IndexOutOfBoundsException" ∧ f = f1) := by
  refine q_xofb (by decide +kernel) hN hT (Nat.le_of_ble_eq_true rfl) ?_
  intro p e s m below meth c ls cx hr hlk htab hX hB hl
  have hl : lv_has ls 4 [(0, .ref x), (1, .int (q_i a0)), (2, .int (q_i b0)), (3, .int (q_i z0))] := hl
  obtain ⟨H, hH⟩ : ∃ H : Heap, H = s.heap := ⟨_, rfl⟩
  obtain ⟨locs, hlocs⟩ : ∃ z : List Loc, z = [] := ⟨_, rfl⟩
  rw [← hH, ← hlocs] at hB
  rw [← hH, ← hlocs]
  refine q_ald_n cx dX11_watch_0 rfl (lv_at hl 0 rfl) ?_
  refine q_ild_n cx dX11_watch_1 rfl (lv_at hl 1 rfl) ?_
  refine q_cXV (As := [.int (q_i a0)]) (rest := []) cx hX hB (fun _ h => h) (fun _ h _ => h) hN hx kx (by decide) rfl (x_requireNode l g hN hB.2.1 hfl x hx kx a0 (by omega) (by omega) src hsrc ksrc rdr hrdr krdr scr hscr kscr fc hfc kfc hist hhist khist rep hrep krep now hnow know dr hdr kdr sv hsv ksv tr htr ktr hf0 hf1 hf2 hf3 hf4 hf5 hf6 hf7 hf8 hf9 hf10 hf11 hf12 hf13 hr0 hr1 hr2 hr3 hr4 hr5 hr6 hr7 hr8 hr9) q_cX11_129 q_dX11_requireNode (by decide) rfl rfl hl.1 rfl (Nat.le_of_ble_eq_true rfl) dX11_watch_2 (fun E9 ce9 q9 H locs f8 hex hF hB hcell hcv hcl => ?_) (fun v9 H locs f5 h7 hF hB => ?_)
  · rcases hex with ⟨rfl, rfl⟩
    · exact q_xout hlk htab hB hcell hcv hcl (by decide) ⟨rfl, rfl⟩
  · obtain ⟨rfl, h7⟩ := h7
    exact h7.elim
set_option maxHeartbeats 4000000 in
set_option maxRecDepth 100000 in
theorem x_setBorn (l : Launch) (g : q_G) {K : Nat → Nat} {L : List Nat} (hN : L.Nodup) {f : Nat → va_E} (hT : q_Ty g K L f) (hfl : l.stackTraces = false) (x : Nat) (hx : x ∈ L) (kx : K x = 11) (a0 : Int) (la0 : (-2147483648) ≤ a0) (ua0 : a0 ≤ 2147483647) (b0 : Int) (lb0 : (-2147483648) ≤ b0) (ub0 : b0 ≤ 2147483647) (src : Nat) (hsrc : src ∈ L) (ksrc : K src = 8) (rdr : Nat) (hrdr : rdr ∈ L) (krdr : K rdr = 9) (scr : Nat) (hscr : scr ∈ L) (kscr : K scr = 7) (fc : Nat) (hfc : fc ∈ L) (kfc : K fc = 1) (hist : Nat) (hhist : hist ∈ L) (khist : K hist = 2) (rep : Nat) (hrep : rep ∈ L) (krep : K rep = 6) (now : Nat) (hnow : now ∈ L) (know : K now = 10) (dr : Nat) (hdr : dr ∈ L) (kdr : K dr = 13) (sv : Nat) (hsv : sv ∈ L) (ksv : K sv = 14) (tr : Nat) (htr : tr ∈ L) (ktr : K tr = 15) (hf0 : q_z f x 9 = 0) (hf1 : q_z f src 1 = 0) (hf2 : q_z f src 2 = 0) (hf3 : q_z f src 3 = (-1)) (hf4 : q_z f hist 1 = 0) (hf5 : q_z f hist 2 = 0) (hf6 : q_z f rep 1 = 0) (hf7 : q_z f now 3 = 0) (hf8 : q_z f now 4 = 0) (hf9 : q_z f now 5 = 0) (hf10 : q_z f now 6 = 12) (hf11 : q_z f now 10 = 3) (hf12 : q_z f now 11 = 0) (hf13 : q_z f now 12 = 0) (hr0 : q_r f x 0 = src) (hr1 : q_r f x 1 = rdr) (hr2 : q_r f x 2 = scr) (hr3 : q_r f x 3 = fc) (hr4 : q_r f x 4 = hist) (hr5 : q_r f x 5 = rep) (hr6 : q_r f x 6 = now) (hr7 : q_r f x 7 = dr) (hr8 : q_r f x 8 = sv) (hr9 : q_r f fc 0 = tr) : q_Xt l g K L yX11_setBorn cX11_setBorn 4 (some .int) 7 103 1 6 [.ref x, .int (q_i a0), .int (q_i b0)] f [] (q_Pi (fun (z : Int) (f1 : Nat → va_E) => False)) (fun (E : String) (f1 : Nat → va_E) => E = "java/lang/IndexOutOfBoundsException" ∧ f = f1) := by
  refine q_xofb (by decide +kernel) hN hT (Nat.le_of_ble_eq_true rfl) ?_
  intro p e s m below meth c ls cx hr hlk htab hX hB hl
  have hl : lv_has ls 4 [(0, .ref x), (1, .int (q_i a0)), (2, .int (q_i b0))] := hl
  obtain ⟨H, hH⟩ : ∃ H : Heap, H = s.heap := ⟨_, rfl⟩
  obtain ⟨locs, hlocs⟩ : ∃ z : List Loc, z = [] := ⟨_, rfl⟩
  rw [← hH, ← hlocs] at hB
  rw [← hH, ← hlocs]
  refine q_ald_n cx dX11_setBorn_0 rfl (lv_at hl 0 rfl) ?_
  refine q_ild_n cx dX11_setBorn_1 rfl (lv_at hl 1 rfl) ?_
  refine q_cXV (As := [.int (q_i a0)]) (rest := []) cx hX hB (fun _ h => h) (fun _ h _ => h) hN hx kx (by decide) rfl (x_requireNode l g hN hB.2.1 hfl x hx kx a0 (by omega) (by omega) src hsrc ksrc rdr hrdr krdr scr hscr kscr fc hfc kfc hist hhist khist rep hrep krep now hnow know dr hdr kdr sv hsv ksv tr htr ktr hf0 hf1 hf2 hf3 hf4 hf5 hf6 hf7 hf8 hf9 hf10 hf11 hf12 hf13 hr0 hr1 hr2 hr3 hr4 hr5 hr6 hr7 hr8 hr9) q_cX11_129 q_dX11_requireNode (by decide) rfl rfl hl.1 rfl (Nat.le_of_ble_eq_true rfl) dX11_setBorn_2 (fun E9 ce9 q9 H locs f8 hex hF hB hcell hcv hcl => ?_) (fun v9 H locs f5 h7 hF hB => ?_)
  · rcases hex with ⟨rfl, rfl⟩
    · exact q_xout hlk htab hB hcell hcv hcl (by decide) ⟨rfl, rfl⟩
  · obtain ⟨rfl, h7⟩ := h7
    exact h7.elim
set_option maxHeartbeats 4000000 in
set_option maxRecDepth 100000 in
theorem x_charge (l : Launch) (g : q_G) {K : Nat → Nat} {L : List Nat} (hN : L.Nodup) {f : Nat → va_E} (hT : q_Ty g K L f) (hfl : l.stackTraces = false) (x : Nat) (hx : x ∈ L) (kx : K x = 11) (a0 : Int) (la0 : (-2147483648) ≤ a0) (ua0 : a0 ≤ 2147483647) (b0 : Int) (lb0 : (-2147483648) ≤ b0) (ub0 : b0 ≤ 2147483647) (src : Nat) (hsrc : src ∈ L) (ksrc : K src = 8) (rdr : Nat) (hrdr : rdr ∈ L) (krdr : K rdr = 9) (scr : Nat) (hscr : scr ∈ L) (kscr : K scr = 7) (fc : Nat) (hfc : fc ∈ L) (kfc : K fc = 1) (hist : Nat) (hhist : hist ∈ L) (khist : K hist = 2) (rep : Nat) (hrep : rep ∈ L) (krep : K rep = 6) (now : Nat) (hnow : now ∈ L) (know : K now = 10) (dr : Nat) (hdr : dr ∈ L) (kdr : K dr = 13) (sv : Nat) (hsv : sv ∈ L) (ksv : K sv = 14) (tr : Nat) (htr : tr ∈ L) (ktr : K tr = 15) (hf0 : q_z f x 9 = 0) (hf1 : q_z f src 1 = 0) (hf2 : q_z f src 2 = 0) (hf3 : q_z f src 3 = (-1)) (hf4 : q_z f hist 1 = 0) (hf5 : q_z f hist 2 = 0) (hf6 : q_z f rep 1 = 0) (hf7 : q_z f now 3 = 0) (hf8 : q_z f now 4 = 0) (hf9 : q_z f now 5 = 0) (hf10 : q_z f now 6 = 12) (hf11 : q_z f now 10 = 3) (hf12 : q_z f now 11 = 0) (hf13 : q_z f now 12 = 0) (hr0 : q_r f x 0 = src) (hr1 : q_r f x 1 = rdr) (hr2 : q_r f x 2 = scr) (hr3 : q_r f x 3 = fc) (hr4 : q_r f x 4 = hist) (hr5 : q_r f x 5 = rep) (hr6 : q_r f x 6 = now) (hr7 : q_r f x 7 = dr) (hr8 : q_r f x 8 = sv) (hr9 : q_r f fc 0 = tr) : q_Xt l g K L yX11_charge cX11_charge 3 (some .int) 7 103 1 6 [.ref x, .int (q_i a0), .int (q_i b0)] f [] (q_Pi (fun (z : Int) (f1 : Nat → va_E) => False)) (fun (E : String) (f1 : Nat → va_E) => E = "java/lang/IndexOutOfBoundsException" ∧ f = f1) := by
  refine q_xofb (by decide +kernel) hN hT (Nat.le_of_ble_eq_true rfl) ?_
  intro p e s m below meth c ls cx hr hlk htab hX hB hl
  have hl : lv_has ls 3 [(0, .ref x), (1, .int (q_i a0)), (2, .int (q_i b0))] := hl
  obtain ⟨H, hH⟩ : ∃ H : Heap, H = s.heap := ⟨_, rfl⟩
  obtain ⟨locs, hlocs⟩ : ∃ z : List Loc, z = [] := ⟨_, rfl⟩
  rw [← hH, ← hlocs] at hB
  rw [← hH, ← hlocs]
  refine q_ald_n cx dX11_charge_0 rfl (lv_at hl 0 rfl) ?_
  refine q_ild_n cx dX11_charge_1 rfl (lv_at hl 1 rfl) ?_
  refine q_cXV (As := [.int (q_i a0)]) (rest := []) cx hX hB (fun _ h => h) (fun _ h _ => h) hN hx kx (by decide) rfl (x_requireNode l g hN hB.2.1 hfl x hx kx a0 (by omega) (by omega) src hsrc ksrc rdr hrdr krdr scr hscr kscr fc hfc kfc hist hhist khist rep hrep krep now hnow know dr hdr kdr sv hsv ksv tr htr ktr hf0 hf1 hf2 hf3 hf4 hf5 hf6 hf7 hf8 hf9 hf10 hf11 hf12 hf13 hr0 hr1 hr2 hr3 hr4 hr5 hr6 hr7 hr8 hr9) q_cX11_129 q_dX11_requireNode (by decide) rfl rfl hl.1 rfl (Nat.le_of_ble_eq_true rfl) dX11_charge_2 (fun E9 ce9 q9 H locs f8 hex hF hB hcell hcv hcl => ?_) (fun v9 H locs f5 h7 hF hB => ?_)
  · rcases hex with ⟨rfl, rfl⟩
    · exact q_xout hlk htab hB hcell hcv hcl (by decide) ⟨rfl, rfl⟩
  · obtain ⟨rfl, h7⟩ := h7
    exact h7.elim
set_option maxHeartbeats 4000000 in
set_option maxRecDepth 100000 in
theorem x_linka (l : Launch) (g : q_G) {K : Nat → Nat} {L : List Nat} (hN : L.Nodup) {f : Nat → va_E} (hT : q_Ty g K L f) (hfl : l.stackTraces = false) (x : Nat) (hx : x ∈ L) (kx : K x = 11) (a0 : Int) (la0 : (-2147483648) ≤ a0) (ua0 : a0 ≤ (-1)) (b0 : Int) (lb0 : (-2147483648) ≤ b0) (ub0 : b0 ≤ 2147483647) (src : Nat) (hsrc : src ∈ L) (ksrc : K src = 8) (rdr : Nat) (hrdr : rdr ∈ L) (krdr : K rdr = 9) (scr : Nat) (hscr : scr ∈ L) (kscr : K scr = 7) (fc : Nat) (hfc : fc ∈ L) (kfc : K fc = 1) (hist : Nat) (hhist : hist ∈ L) (khist : K hist = 2) (rep : Nat) (hrep : rep ∈ L) (krep : K rep = 6) (now : Nat) (hnow : now ∈ L) (know : K now = 10) (dr : Nat) (hdr : dr ∈ L) (kdr : K dr = 13) (sv : Nat) (hsv : sv ∈ L) (ksv : K sv = 14) (tr : Nat) (htr : tr ∈ L) (ktr : K tr = 15) (hf0 : q_z f x 9 = 0) (hf1 : q_z f src 1 = 0) (hf2 : q_z f src 2 = 0) (hf3 : q_z f src 3 = (-1)) (hf4 : q_z f hist 1 = 0) (hf5 : q_z f hist 2 = 0) (hf6 : q_z f rep 1 = 0) (hf7 : q_z f now 3 = 0) (hf8 : q_z f now 4 = 0) (hf9 : q_z f now 5 = 0) (hf10 : q_z f now 6 = 12) (hf11 : q_z f now 10 = 3) (hf12 : q_z f now 11 = 0) (hf13 : q_z f now 12 = 0) (hr0 : q_r f x 0 = src) (hr1 : q_r f x 1 = rdr) (hr2 : q_r f x 2 = scr) (hr3 : q_r f x 3 = fc) (hr4 : q_r f x 4 = hist) (hr5 : q_r f x 5 = rep) (hr6 : q_r f x 6 = now) (hr7 : q_r f x 7 = dr) (hr8 : q_r f x 8 = sv) (hr9 : q_r f fc 0 = tr) : q_Xt l g K L yX11_link cX11_link 3 (some .int) 6 82 1 6 [.ref x, .int (q_i a0), .int (q_i b0)] f [] (q_Pi (fun (z : Int) (f1 : Nat → va_E) => False)) (fun (E : String) (f1 : Nat → va_E) => E = "java/lang/IndexOutOfBoundsException" ∧ f = f1) := by
  refine q_xofb (by decide +kernel) hN hT (Nat.le_of_ble_eq_true rfl) ?_
  intro p e s m below meth c ls cx hr hlk htab hX hB hl
  have hl : lv_has ls 3 [(0, .ref x), (1, .int (q_i a0)), (2, .int (q_i b0))] := hl
  obtain ⟨H, hH⟩ : ∃ H : Heap, H = s.heap := ⟨_, rfl⟩
  obtain ⟨locs, hlocs⟩ : ∃ z : List Loc, z = [] := ⟨_, rfl⟩
  rw [← hH, ← hlocs] at hB
  rw [← hH, ← hlocs]
  refine q_ild_n cx dX11_link_0 rfl (lv_at hl 1 rfl) ?_
  refine q_iflt (tgt := 15) cx ⟨by omega, by omega⟩ dX11_link_1 (by decide) (fun c2 => ?_) (fun c2 => ?_)
  · exact q_throw (text := "no such link") hfl cx hlk htab hX hB hl.1 (by decide +kernel) q_h1234 q_h159 (by decide +kernel) q_xl145a q_xl145b q_xl145c dX11_link_15 dX11_link_18 (Or.inl ⟨dX11_link_19, dX11_link_21, dX11_link_24⟩) (by decide) (by decide) ⟨rfl, rfl⟩
  · exact absurd c2 (by omega)
set_option maxHeartbeats 4000000 in
set_option maxRecDepth 100000 in
theorem x_linkb (l : Launch) (g : q_G) {K : Nat → Nat} {L : List Nat} (hN : L.Nodup) {f : Nat → va_E} (hT : q_Ty g K L f) (hfl : l.stackTraces = false) (x : Nat) (hx : x ∈ L) (kx : K x = 11) (a0 : Int) (la0 : 0 ≤ a0) (ua0 : a0 ≤ 2147483647) (b0 : Int) (lb0 : (-2147483648) ≤ b0) (ub0 : b0 ≤ 2147483647) (src : Nat) (hsrc : src ∈ L) (ksrc : K src = 8) (rdr : Nat) (hrdr : rdr ∈ L) (krdr : K rdr = 9) (scr : Nat) (hscr : scr ∈ L) (kscr : K scr = 7) (fc : Nat) (hfc : fc ∈ L) (kfc : K fc = 1) (hist : Nat) (hhist : hist ∈ L) (khist : K hist = 2) (rep : Nat) (hrep : rep ∈ L) (krep : K rep = 6) (now : Nat) (hnow : now ∈ L) (know : K now = 10) (dr : Nat) (hdr : dr ∈ L) (kdr : K dr = 13) (sv : Nat) (hsv : sv ∈ L) (ksv : K sv = 14) (tr : Nat) (htr : tr ∈ L) (ktr : K tr = 15) (hf0 : q_z f x 9 = 0) (hf1 : q_z f src 1 = 0) (hf2 : q_z f src 2 = 0) (hf3 : q_z f src 3 = (-1)) (hf4 : q_z f hist 1 = 0) (hf5 : q_z f hist 2 = 0) (hf6 : q_z f rep 1 = 0) (hf7 : q_z f now 3 = 0) (hf8 : q_z f now 4 = 0) (hf9 : q_z f now 5 = 0) (hf10 : q_z f now 6 = 12) (hf11 : q_z f now 10 = 3) (hf12 : q_z f now 11 = 0) (hf13 : q_z f now 12 = 0) (hr0 : q_r f x 0 = src) (hr1 : q_r f x 1 = rdr) (hr2 : q_r f x 2 = scr) (hr3 : q_r f x 3 = fc) (hr4 : q_r f x 4 = hist) (hr5 : q_r f x 5 = rep) (hr6 : q_r f x 6 = now) (hr7 : q_r f x 7 = dr) (hr8 : q_r f x 8 = sv) (hr9 : q_r f fc 0 = tr) : q_Xt l g K L yX11_link cX11_link 3 (some .int) 6 82 1 6 [.ref x, .int (q_i a0), .int (q_i b0)] f [] (q_Pi (fun (z : Int) (f1 : Nat → va_E) => False)) (fun (E : String) (f1 : Nat → va_E) => E = "java/lang/IndexOutOfBoundsException" ∧ f = f1) := by
  refine q_xofb (by decide +kernel) hN hT (Nat.le_of_ble_eq_true rfl) ?_
  intro p e s m below meth c ls cx hr hlk htab hX hB hl
  have hl : lv_has ls 3 [(0, .ref x), (1, .int (q_i a0)), (2, .int (q_i b0))] := hl
  obtain ⟨H, hH⟩ : ∃ H : Heap, H = s.heap := ⟨_, rfl⟩
  obtain ⟨locs, hlocs⟩ : ∃ z : List Loc, z = [] := ⟨_, rfl⟩
  rw [← hH, ← hlocs] at hB
  rw [← hH, ← hlocs]
  refine q_ild_n cx dX11_link_0 rfl (lv_at hl 1 rfl) ?_
  refine q_iflt (tgt := 15) cx ⟨by omega, by omega⟩ dX11_link_1 (by decide) (fun c5 => ?_) (fun c5 => ?_)
  · exact absurd c5 (by omega)
  · refine q_ild_n cx dX11_link_4 rfl (lv_at hl 1 rfl) ?_
    refine q_ald_n cx dX11_link_5 rfl (lv_at hl 0 rfl) ?_
    refine q_gX11_54 cx hB hx kx hr6 dX11_link_6 (fun hb6 kb6 => ?_)
    refine q_gX11_138 cx hB hnow know hf8 dX11_link_9 (fun lb7 ub7 => ?_)
    refine q_iclt (tgt := 25) cx ⟨by omega, by omega⟩ ⟨by decide, by decide⟩ dX11_link_12 (by decide) (fun c8 => ?_) (fun c8 => ?_)
    · exact absurd c8 (by omega)
    · exact q_throw (text := "no such link") hfl cx hlk htab hX hB hl.1 (by decide +kernel) q_h1234 q_h159 (by decide +kernel) q_xl145a q_xl145b q_xl145c dX11_link_15 dX11_link_18 (Or.inl ⟨dX11_link_19, dX11_link_21, dX11_link_24⟩) (by decide) (by decide) ⟨rfl, rfl⟩
set_option maxHeartbeats 4000000 in
set_option maxRecDepth 100000 in
theorem x_meanEnergy (l : Launch) (g : q_G) {K : Nat → Nat} {L : List Nat} (hN : L.Nodup) {f : Nat → va_E} (hT : q_Ty g K L f) (x : Nat) (hx : x ∈ L) (kx : K x = 11) (src : Nat) (hsrc : src ∈ L) (ksrc : K src = 8) (rdr : Nat) (hrdr : rdr ∈ L) (krdr : K rdr = 9) (scr : Nat) (hscr : scr ∈ L) (kscr : K scr = 7) (fc : Nat) (hfc : fc ∈ L) (kfc : K fc = 1) (hist : Nat) (hhist : hist ∈ L) (khist : K hist = 2) (rep : Nat) (hrep : rep ∈ L) (krep : K rep = 6) (now : Nat) (hnow : now ∈ L) (know : K now = 10) (dr : Nat) (hdr : dr ∈ L) (kdr : K dr = 13) (sv : Nat) (hsv : sv ∈ L) (ksv : K sv = 14) (tr : Nat) (htr : tr ∈ L) (ktr : K tr = 15) (hf0 : q_z f x 9 = 0) (hf1 : q_z f src 1 = 0) (hf2 : q_z f src 2 = 0) (hf3 : q_z f src 3 = (-1)) (hf4 : q_z f hist 1 = 0) (hf5 : q_z f hist 2 = 0) (hf6 : q_z f rep 1 = 0) (hf7 : q_z f now 3 = 0) (hf8 : q_z f now 4 = 0) (hf9 : q_z f now 5 = 0) (hf10 : q_z f now 6 = 12) (hf11 : q_z f now 10 = 3) (hf12 : q_z f now 11 = 0) (hf13 : q_z f now 12 = 0) (hr0 : q_r f x 0 = src) (hr1 : q_r f x 1 = rdr) (hr2 : q_r f x 2 = scr) (hr3 : q_r f x 3 = fc) (hr4 : q_r f x 4 = hist) (hr5 : q_r f x 5 = rep) (hr6 : q_r f x 6 = now) (hr7 : q_r f x 7 = dr) (hr8 : q_r f x 8 = sv) (hr9 : q_r f fc 0 = tr) : q_Ct l g K L yX11_meanEnergy cX11_meanEnergy 1 (some .double) 0 0 [.ref x] f [] (q_Pd (fun (z : UInt64) (f1 : Nat → va_E) => f = f1 ∧ z = 0)) := by
  refine q_ofb (by decide +kernel) hN hT (Nat.le_of_ble_eq_true rfl) ?_
  intro p e s m below meth c ls cx hr hlk hB hl
  have hl : lv_has ls 1 [(0, .ref x)] := hl
  obtain ⟨H, hH⟩ : ∃ H : Heap, H = s.heap := ⟨_, rfl⟩
  obtain ⟨locs, hlocs⟩ : ∃ z : List Loc, z = [] := ⟨_, rfl⟩
  rw [← hH, ← hlocs] at hB
  rw [← hH, ← hlocs]
  refine q_ald_n cx dX11_meanEnergy_0 rfl (lv_at hl 0 rfl) ?_
  refine q_gX11_54 cx hB hx kx hr6 dX11_meanEnergy_1 (fun hb4 kb4 => ?_)
  refine q_gX11_101 cx hB hnow know hf7 dX11_meanEnergy_4 (fun lb5 ub5 => ?_)
  refine q_ifle (tgt := 30) cx ⟨by decide, by decide⟩ dX11_meanEnergy_7 (by decide) (fun c6 => ?_) (fun c6 => ?_)
  · refine lv_dconst0 cx.1 cx.2.1 dX11_meanEnergy_30 ?_
    refine q_dret cx hr hlk hB dX11_meanEnergy_31 ?_
    exact ⟨rfl, rfl⟩
  · exact absurd c6 (by omega)
set_option maxHeartbeats 4000000 in
set_option maxRecDepth 100000 in
theorem x_awakeIna (l : Launch) (g : q_G) {K : Nat → Nat} {L : List Nat} (hN : L.Nodup) {f : Nat → va_E} (hT : q_Ty g K L f) (hfl : l.stackTraces = false) (x : Nat) (hx : x ∈ L) (kx : K x = 11) (a0 : Int) (la0 : (-2147483648) ≤ a0) (ua0 : a0 ≤ (-1)) (src : Nat) (hsrc : src ∈ L) (ksrc : K src = 8) (rdr : Nat) (hrdr : rdr ∈ L) (krdr : K rdr = 9) (scr : Nat) (hscr : scr ∈ L) (kscr : K scr = 7) (fc : Nat) (hfc : fc ∈ L) (kfc : K fc = 1) (hist : Nat) (hhist : hist ∈ L) (khist : K hist = 2) (rep : Nat) (hrep : rep ∈ L) (krep : K rep = 6) (now : Nat) (hnow : now ∈ L) (know : K now = 10) (dr : Nat) (hdr : dr ∈ L) (kdr : K dr = 13) (sv : Nat) (hsv : sv ∈ L) (ksv : K sv = 14) (tr : Nat) (htr : tr ∈ L) (ktr : K tr = 15) (hf0 : q_z f x 9 = 0) (hf1 : q_z f src 1 = 0) (hf2 : q_z f src 2 = 0) (hf3 : q_z f src 3 = (-1)) (hf4 : q_z f hist 1 = 0) (hf5 : q_z f hist 2 = 0) (hf6 : q_z f rep 1 = 0) (hf7 : q_z f now 3 = 0) (hf8 : q_z f now 4 = 0) (hf9 : q_z f now 5 = 0) (hf10 : q_z f now 6 = 12) (hf11 : q_z f now 10 = 3) (hf12 : q_z f now 11 = 0) (hf13 : q_z f now 12 = 0) (hr0 : q_r f x 0 = src) (hr1 : q_r f x 1 = rdr) (hr2 : q_r f x 2 = scr) (hr3 : q_r f x 3 = fc) (hr4 : q_r f x 4 = hist) (hr5 : q_r f x 5 = rep) (hr6 : q_r f x 6 = now) (hr7 : q_r f x 7 = dr) (hr8 : q_r f x 8 = sv) (hr9 : q_r f fc 0 = tr) : q_Xt l g K L yX11_awakeIn cX11_awakeIn 2 (some .int) 6 82 1 6 [.ref x, .int (q_i a0)] f [] (q_Pi (fun (z : Int) (f1 : Nat → va_E) => False)) (fun (E : String) (f1 : Nat → va_E) => E = "java/lang/IllegalArgumentException" ∧ f = f1) := by
  refine q_xofb (by decide +kernel) hN hT (Nat.le_of_ble_eq_true rfl) ?_
  intro p e s m below meth c ls cx hr hlk htab hX hB hl
  have hl : lv_has ls 2 [(0, .ref x), (1, .int (q_i a0))] := hl
  obtain ⟨H, hH⟩ : ∃ H : Heap, H = s.heap := ⟨_, rfl⟩
  obtain ⟨locs, hlocs⟩ : ∃ z : List Loc, z = [] := ⟨_, rfl⟩
  rw [← hH, ← hlocs] at hB
  rw [← hH, ← hlocs]
  refine q_ild_n cx dX11_awakeIn_0 rfl (lv_at hl 1 rfl) ?_
  refine q_iflt (tgt := 10) cx ⟨by omega, by omega⟩ dX11_awakeIn_1 (by decide) (fun c2 => ?_) (fun c2 => ?_)
  · exact q_throw (text := "ticks are out of range") hfl cx hlk htab hX hB hl.1 (by decide +kernel) q_h880 q_h152 (by decide +kernel) q_xl87a q_xl87b q_xl87c dX11_awakeIn_10 dX11_awakeIn_13 (Or.inl ⟨dX11_awakeIn_14, dX11_awakeIn_16, dX11_awakeIn_19⟩) (by decide) (by decide) ⟨rfl, rfl⟩
  · exact absurd c2 (by omega)
set_option maxHeartbeats 4000000 in
set_option maxRecDepth 100000 in
theorem x_awakeInb (l : Launch) (g : q_G) {K : Nat → Nat} {L : List Nat} (hN : L.Nodup) {f : Nat → va_E} (hT : q_Ty g K L f) (x : Nat) (hx : x ∈ L) (kx : K x = 11) (a0 : Int) (la0 : 0 ≤ a0) (ua0 : a0 ≤ 99) (src : Nat) (hsrc : src ∈ L) (ksrc : K src = 8) (rdr : Nat) (hrdr : rdr ∈ L) (krdr : K rdr = 9) (scr : Nat) (hscr : scr ∈ L) (kscr : K scr = 7) (fc : Nat) (hfc : fc ∈ L) (kfc : K fc = 1) (hist : Nat) (hhist : hist ∈ L) (khist : K hist = 2) (rep : Nat) (hrep : rep ∈ L) (krep : K rep = 6) (now : Nat) (hnow : now ∈ L) (know : K now = 10) (dr : Nat) (hdr : dr ∈ L) (kdr : K dr = 13) (sv : Nat) (hsv : sv ∈ L) (ksv : K sv = 14) (tr : Nat) (htr : tr ∈ L) (ktr : K tr = 15) (hf0 : q_z f x 9 = 0) (hf1 : q_z f src 1 = 0) (hf2 : q_z f src 2 = 0) (hf3 : q_z f src 3 = (-1)) (hf4 : q_z f hist 1 = 0) (hf5 : q_z f hist 2 = 0) (hf6 : q_z f rep 1 = 0) (hf7 : q_z f now 3 = 0) (hf8 : q_z f now 4 = 0) (hf9 : q_z f now 5 = 0) (hf10 : q_z f now 6 = 12) (hf11 : q_z f now 10 = 3) (hf12 : q_z f now 11 = 0) (hf13 : q_z f now 12 = 0) (hr0 : q_r f x 0 = src) (hr1 : q_r f x 1 = rdr) (hr2 : q_r f x 2 = scr) (hr3 : q_r f x 3 = fc) (hr4 : q_r f x 4 = hist) (hr5 : q_r f x 5 = rep) (hr6 : q_r f x 6 = now) (hr7 : q_r f x 7 = dr) (hr8 : q_r f x 8 = sv) (hr9 : q_r f fc 0 = tr) : q_Ct l g K L yX11_awakeIn cX11_awakeIn 2 (some .int) 1 23 [.ref x, .int (q_i a0)] f [] (q_Pi (fun (z : Int) (f1 : Nat → va_E) => f = f1 ∧ z = 0)) := by
  refine q_ofb (by decide +kernel) hN hT (Nat.le_of_ble_eq_true rfl) ?_
  intro p e s m below meth c ls cx hr hlk hB hl
  have hl : lv_has ls 2 [(0, .ref x), (1, .int (q_i a0))] := hl
  obtain ⟨H, hH⟩ : ∃ H : Heap, H = s.heap := ⟨_, rfl⟩
  obtain ⟨locs, hlocs⟩ : ∃ z : List Loc, z = [] := ⟨_, rfl⟩
  rw [← hH, ← hlocs] at hB
  rw [← hH, ← hlocs]
  refine q_ild_n cx dX11_awakeIn_0 rfl (lv_at hl 1 rfl) ?_
  refine q_iflt (tgt := 10) cx ⟨by omega, by omega⟩ dX11_awakeIn_1 (by decide) (fun c7 => ?_) (fun c7 => ?_)
  · exact absurd c7 (by omega)
  · refine q_ild_n cx dX11_awakeIn_4 rfl (lv_at hl 1 rfl) ?_
    refine q_bipush cx dX11_awakeIn_5 rfl ?_
    refine q_icle (tgt := 20) cx ⟨by omega, by omega⟩ ⟨by decide, by decide⟩ dX11_awakeIn_7 (by decide) (fun c8 => ?_) (fun c8 => ?_)
    · refine q_ald_n cx dX11_awakeIn_20 rfl (lv_at hl 0 rfl) ?_
      refine q_gX11_54 cx hB hx kx hr6 dX11_awakeIn_21 (fun hb9 kb9 => ?_)
      refine q_ild_n cx dX11_awakeIn_24 rfl (lv_at hl 1 rfl) ?_
      refine q_cVi (As := [.int (q_i a0)]) (rest := []) cx hB (fun _ h => h) hN hnow know (by decide) rfl (m_awakeAfter0 l g hN hB.2.1 now hnow know a0 (by omega) (by omega) hf7) q_cX11_207 q_dX10_awakeAfter (by decide) rfl rfl hl.1 rfl (Nat.le_of_ble_eq_true rfl) dX11_awakeIn_25 (fun y11 H locs f10 ry11 h12 hF hB => ?_)
      obtain ⟨rfl, qy11⟩ := h12
      subst qy11
      refine q_iret cx hr hlk hB dX11_awakeIn_28 ⟨by decide, by decide⟩ ?_
      exact ⟨rfl, rfl⟩
    · exact absurd c8 (by omega)
set_option maxHeartbeats 4000000 in
set_option maxRecDepth 100000 in
theorem x_awakeInc (l : Launch) (g : q_G) {K : Nat → Nat} {L : List Nat} (hN : L.Nodup) {f : Nat → va_E} (hT : q_Ty g K L f) (hfl : l.stackTraces = false) (x : Nat) (hx : x ∈ L) (kx : K x = 11) (a0 : Int) (la0 : 100 ≤ a0) (ua0 : a0 ≤ 2147483647) (src : Nat) (hsrc : src ∈ L) (ksrc : K src = 8) (rdr : Nat) (hrdr : rdr ∈ L) (krdr : K rdr = 9) (scr : Nat) (hscr : scr ∈ L) (kscr : K scr = 7) (fc : Nat) (hfc : fc ∈ L) (kfc : K fc = 1) (hist : Nat) (hhist : hist ∈ L) (khist : K hist = 2) (rep : Nat) (hrep : rep ∈ L) (krep : K rep = 6) (now : Nat) (hnow : now ∈ L) (know : K now = 10) (dr : Nat) (hdr : dr ∈ L) (kdr : K dr = 13) (sv : Nat) (hsv : sv ∈ L) (ksv : K sv = 14) (tr : Nat) (htr : tr ∈ L) (ktr : K tr = 15) (hf0 : q_z f x 9 = 0) (hf1 : q_z f src 1 = 0) (hf2 : q_z f src 2 = 0) (hf3 : q_z f src 3 = (-1)) (hf4 : q_z f hist 1 = 0) (hf5 : q_z f hist 2 = 0) (hf6 : q_z f rep 1 = 0) (hf7 : q_z f now 3 = 0) (hf8 : q_z f now 4 = 0) (hf9 : q_z f now 5 = 0) (hf10 : q_z f now 6 = 12) (hf11 : q_z f now 10 = 3) (hf12 : q_z f now 11 = 0) (hf13 : q_z f now 12 = 0) (hr0 : q_r f x 0 = src) (hr1 : q_r f x 1 = rdr) (hr2 : q_r f x 2 = scr) (hr3 : q_r f x 3 = fc) (hr4 : q_r f x 4 = hist) (hr5 : q_r f x 5 = rep) (hr6 : q_r f x 6 = now) (hr7 : q_r f x 7 = dr) (hr8 : q_r f x 8 = sv) (hr9 : q_r f fc 0 = tr) : q_Xt l g K L yX11_awakeIn cX11_awakeIn 2 (some .int) 6 82 1 6 [.ref x, .int (q_i a0)] f [] (q_Pi (fun (z : Int) (f1 : Nat → va_E) => False)) (fun (E : String) (f1 : Nat → va_E) => E = "java/lang/IllegalArgumentException" ∧ f = f1) := by
  refine q_xofb (by decide +kernel) hN hT (Nat.le_of_ble_eq_true rfl) ?_
  intro p e s m below meth c ls cx hr hlk htab hX hB hl
  have hl : lv_has ls 2 [(0, .ref x), (1, .int (q_i a0))] := hl
  obtain ⟨H, hH⟩ : ∃ H : Heap, H = s.heap := ⟨_, rfl⟩
  obtain ⟨locs, hlocs⟩ : ∃ z : List Loc, z = [] := ⟨_, rfl⟩
  rw [← hH, ← hlocs] at hB
  rw [← hH, ← hlocs]
  refine q_ild_n cx dX11_awakeIn_0 rfl (lv_at hl 1 rfl) ?_
  refine q_iflt (tgt := 10) cx ⟨by omega, by omega⟩ dX11_awakeIn_1 (by decide) (fun c3 => ?_) (fun c3 => ?_)
  · exact absurd c3 (by omega)
  · refine q_ild_n cx dX11_awakeIn_4 rfl (lv_at hl 1 rfl) ?_
    refine q_bipush cx dX11_awakeIn_5 rfl ?_
    refine q_icle (tgt := 20) cx ⟨by omega, by omega⟩ ⟨by decide, by decide⟩ dX11_awakeIn_7 (by decide) (fun c4 => ?_) (fun c4 => ?_)
    · exact absurd c4 (by omega)
    · exact q_throw (text := "ticks are out of range") hfl cx hlk htab hX hB hl.1 (by decide +kernel) q_h880 q_h152 (by decide +kernel) q_xl87a q_xl87b q_xl87c dX11_awakeIn_10 dX11_awakeIn_13 (Or.inl ⟨dX11_awakeIn_14, dX11_awakeIn_16, dX11_awakeIn_19⟩) (by decide) (by decide) ⟨rfl, rfl⟩
set_option maxHeartbeats 4000000 in
set_option maxRecDepth 100000 in
theorem x_worstLink (l : Launch) (g : q_G) {K : Nat → Nat} {L : List Nat} (hN : L.Nodup) {f : Nat → va_E} (hT : q_Ty g K L f) (x : Nat) (hx : x ∈ L) (kx : K x = 11) (src : Nat) (hsrc : src ∈ L) (ksrc : K src = 8) (rdr : Nat) (hrdr : rdr ∈ L) (krdr : K rdr = 9) (scr : Nat) (hscr : scr ∈ L) (kscr : K scr = 7) (fc : Nat) (hfc : fc ∈ L) (kfc : K fc = 1) (hist : Nat) (hhist : hist ∈ L) (khist : K hist = 2) (rep : Nat) (hrep : rep ∈ L) (krep : K rep = 6) (now : Nat) (hnow : now ∈ L) (know : K now = 10) (dr : Nat) (hdr : dr ∈ L) (kdr : K dr = 13) (sv : Nat) (hsv : sv ∈ L) (ksv : K sv = 14) (tr : Nat) (htr : tr ∈ L) (ktr : K tr = 15) (hf0 : q_z f x 9 = 0) (hf1 : q_z f src 1 = 0) (hf2 : q_z f src 2 = 0) (hf3 : q_z f src 3 = (-1)) (hf4 : q_z f hist 1 = 0) (hf5 : q_z f hist 2 = 0) (hf6 : q_z f rep 1 = 0) (hf7 : q_z f now 3 = 0) (hf8 : q_z f now 4 = 0) (hf9 : q_z f now 5 = 0) (hf10 : q_z f now 6 = 12) (hf11 : q_z f now 10 = 3) (hf12 : q_z f now 11 = 0) (hf13 : q_z f now 12 = 0) (hr0 : q_r f x 0 = src) (hr1 : q_r f x 1 = rdr) (hr2 : q_r f x 2 = scr) (hr3 : q_r f x 3 = fc) (hr4 : q_r f x 4 = hist) (hr5 : q_r f x 5 = rep) (hr6 : q_r f x 6 = now) (hr7 : q_r f x 7 = dr) (hr8 : q_r f x 8 = sv) (hr9 : q_r f fc 0 = tr) : q_Ct l g K L yX11_worstLink cX11_worstLink 1 (some .int) 1 25 [.ref x] f [] (q_Pi (fun (z : Int) (f1 : Nat → va_E) => f = f1 ∧ z = (-1))) := by
  refine q_ofb (by decide +kernel) hN hT (Nat.le_of_ble_eq_true rfl) ?_
  intro p e s m below meth c ls cx hr hlk hB hl
  have hl : lv_has ls 1 [(0, .ref x)] := hl
  obtain ⟨H, hH⟩ : ∃ H : Heap, H = s.heap := ⟨_, rfl⟩
  obtain ⟨locs, hlocs⟩ : ∃ z : List Loc, z = [] := ⟨_, rfl⟩
  rw [← hH, ← hlocs] at hB
  rw [← hH, ← hlocs]
  refine q_ald_n cx dX11_worstLink_0 rfl (lv_at hl 0 rfl) ?_
  refine q_gX11_54 cx hB hx kx hr6 dX11_worstLink_1 (fun hb5 kb5 => ?_)
  refine q_cVi (As := []) (rest := []) cx hB (fun _ h => h) hN hnow know (by decide) rfl (m_worst0 l g hN hB.2.1 now hnow know hf8) q_cX11_217 q_dX10_latestMeetingLink (by decide) rfl rfl hl.1 rfl (Nat.le_of_ble_eq_true rfl) dX11_worstLink_4 (fun y7 H locs f6 ry7 h8 hF hB => ?_)
  obtain ⟨rfl, qy7⟩ := h8
  subst qy7
  refine q_iret cx hr hlk hB dX11_worstLink_7 ⟨by decide, by decide⟩ ?_
  exact ⟨rfl, rfl⟩
set_option maxHeartbeats 4000000 in
set_option maxRecDepth 100000 in
theorem x_busiest (l : Launch) (g : q_G) {K : Nat → Nat} {L : List Nat} (hN : L.Nodup) {f : Nat → va_E} (hT : q_Ty g K L f) (x : Nat) (hx : x ∈ L) (kx : K x = 11) (src : Nat) (hsrc : src ∈ L) (ksrc : K src = 8) (rdr : Nat) (hrdr : rdr ∈ L) (krdr : K rdr = 9) (scr : Nat) (hscr : scr ∈ L) (kscr : K scr = 7) (fc : Nat) (hfc : fc ∈ L) (kfc : K fc = 1) (hist : Nat) (hhist : hist ∈ L) (khist : K hist = 2) (rep : Nat) (hrep : rep ∈ L) (krep : K rep = 6) (now : Nat) (hnow : now ∈ L) (know : K now = 10) (dr : Nat) (hdr : dr ∈ L) (kdr : K dr = 13) (sv : Nat) (hsv : sv ∈ L) (ksv : K sv = 14) (tr : Nat) (htr : tr ∈ L) (ktr : K tr = 15) (hf0 : q_z f x 9 = 0) (hf1 : q_z f src 1 = 0) (hf2 : q_z f src 2 = 0) (hf3 : q_z f src 3 = (-1)) (hf4 : q_z f hist 1 = 0) (hf5 : q_z f hist 2 = 0) (hf6 : q_z f rep 1 = 0) (hf7 : q_z f now 3 = 0) (hf8 : q_z f now 4 = 0) (hf9 : q_z f now 5 = 0) (hf10 : q_z f now 6 = 12) (hf11 : q_z f now 10 = 3) (hf12 : q_z f now 11 = 0) (hf13 : q_z f now 12 = 0) (hr0 : q_r f x 0 = src) (hr1 : q_r f x 1 = rdr) (hr2 : q_r f x 2 = scr) (hr3 : q_r f x 3 = fc) (hr4 : q_r f x 4 = hist) (hr5 : q_r f x 5 = rep) (hr6 : q_r f x 6 = now) (hr7 : q_r f x 7 = dr) (hr8 : q_r f x 8 = sv) (hr9 : q_r f fc 0 = tr) : q_Ct l g K L yX11_busiest cX11_busiest 1 (some .int) 2 47 [.ref x] f [] (q_Pi (fun (z : Int) (f1 : Nat → va_E) => f = f1 ∧ z = 1)) := by
  refine q_ofb (by decide +kernel) hN hT (Nat.le_of_ble_eq_true rfl) ?_
  intro p e s m below meth c ls cx hr hlk hB hl
  have hl : lv_has ls 1 [(0, .ref x)] := hl
  obtain ⟨H, hH⟩ : ∃ H : Heap, H = s.heap := ⟨_, rfl⟩
  obtain ⟨locs, hlocs⟩ : ∃ z : List Loc, z = [] := ⟨_, rfl⟩
  rw [← hH, ← hlocs] at hB
  rw [← hH, ← hlocs]
  refine q_ald_n cx dX11_busiest_0 rfl (lv_at hl 0 rfl) ?_
  refine q_gX11_54 cx hB hx kx hr6 dX11_busiest_1 (fun hb5 kb5 => ?_)
  refine q_cVi (As := []) (rest := []) cx hB (fun _ h => h) hN hnow know (by decide) rfl (m_busiest0 l g hN hB.2.1 now hnow know hf7 hf10) q_cX11_220 q_dX10_ticksToMostAwake (by decide) rfl rfl hl.1 rfl (Nat.le_of_ble_eq_true rfl) dX11_busiest_4 (fun y7 H locs f6 ry7 h8 hF hB => ?_)
  obtain ⟨rfl, qy7⟩ := h8
  subst qy7
  refine q_iret cx hr hlk hB dX11_busiest_7 ⟨by decide, by decide⟩ ?_
  exact ⟨rfl, rfl⟩
set_option maxHeartbeats 4000000 in
set_option maxRecDepth 100000 in
theorem x_widest (l : Launch) (g : q_G) {K : Nat → Nat} {L : List Nat} (hN : L.Nodup) {f : Nat → va_E} (hT : q_Ty g K L f) (x : Nat) (hx : x ∈ L) (kx : K x = 11) (src : Nat) (hsrc : src ∈ L) (ksrc : K src = 8) (rdr : Nat) (hrdr : rdr ∈ L) (krdr : K rdr = 9) (scr : Nat) (hscr : scr ∈ L) (kscr : K scr = 7) (fc : Nat) (hfc : fc ∈ L) (kfc : K fc = 1) (hist : Nat) (hhist : hist ∈ L) (khist : K hist = 2) (rep : Nat) (hrep : rep ∈ L) (krep : K rep = 6) (now : Nat) (hnow : now ∈ L) (know : K now = 10) (dr : Nat) (hdr : dr ∈ L) (kdr : K dr = 13) (sv : Nat) (hsv : sv ∈ L) (ksv : K sv = 14) (tr : Nat) (htr : tr ∈ L) (ktr : K tr = 15) (hf0 : q_z f x 9 = 0) (hf1 : q_z f src 1 = 0) (hf2 : q_z f src 2 = 0) (hf3 : q_z f src 3 = (-1)) (hf4 : q_z f hist 1 = 0) (hf5 : q_z f hist 2 = 0) (hf6 : q_z f rep 1 = 0) (hf7 : q_z f now 3 = 0) (hf8 : q_z f now 4 = 0) (hf9 : q_z f now 5 = 0) (hf10 : q_z f now 6 = 12) (hf11 : q_z f now 10 = 3) (hf12 : q_z f now 11 = 0) (hf13 : q_z f now 12 = 0) (hr0 : q_r f x 0 = src) (hr1 : q_r f x 1 = rdr) (hr2 : q_r f x 2 = scr) (hr3 : q_r f x 3 = fc) (hr4 : q_r f x 4 = hist) (hr5 : q_r f x 5 = rep) (hr6 : q_r f x 6 = now) (hr7 : q_r f x 7 = dr) (hr8 : q_r f x 8 = sv) (hr9 : q_r f fc 0 = tr) : q_Ct l g K L yX11_widest cX11_widest 1 (some .int) 1 23 [.ref x] f [] (q_Pi (fun (z : Int) (f1 : Nat → va_E) => f = f1 ∧ z = 0)) := by
  refine q_ofb (by decide +kernel) hN hT (Nat.le_of_ble_eq_true rfl) ?_
  intro p e s m below meth c ls cx hr hlk hB hl
  have hl : lv_has ls 1 [(0, .ref x)] := hl
  obtain ⟨H, hH⟩ : ∃ H : Heap, H = s.heap := ⟨_, rfl⟩
  obtain ⟨locs, hlocs⟩ : ∃ z : List Loc, z = [] := ⟨_, rfl⟩
  rw [← hH, ← hlocs] at hB
  rw [← hH, ← hlocs]
  refine q_ald_n cx dX11_widest_0 rfl (lv_at hl 0 rfl) ?_
  refine q_gX11_54 cx hB hx kx hr6 dX11_widest_1 (fun hb5 kb5 => ?_)
  refine q_cVi (As := []) (rest := []) cx hB (fun _ h => h) hN hnow know (by decide) rfl (m_widest0 l g hN hB.2.1 now hnow know hf7) q_cX11_236 q_dX10_greatestHops (by decide) rfl rfl hl.1 rfl (Nat.le_of_ble_eq_true rfl) dX11_widest_4 (fun y7 H locs f6 ry7 h8 hF hB => ?_)
  obtain ⟨rfl, qy7⟩ := h8
  subst qy7
  refine q_iret cx hr hlk hB dX11_widest_7 ⟨by decide, by decide⟩ ?_
  exact ⟨rfl, rfl⟩
set_option maxHeartbeats 4000000 in
set_option maxRecDepth 100000 in
theorem x_takesIn (l : Launch) (g : q_G) {K : Nat → Nat} {L : List Nat} (hN : L.Nodup) {f : Nat → va_E} (hT : q_Ty g K L f) (x : Nat) (hx : x ∈ L) (kx : K x = 11) (src : Nat) (hsrc : src ∈ L) (ksrc : K src = 8) (rdr : Nat) (hrdr : rdr ∈ L) (krdr : K rdr = 9) (scr : Nat) (hscr : scr ∈ L) (kscr : K scr = 7) (fc : Nat) (hfc : fc ∈ L) (kfc : K fc = 1) (hist : Nat) (hhist : hist ∈ L) (khist : K hist = 2) (rep : Nat) (hrep : rep ∈ L) (krep : K rep = 6) (now : Nat) (hnow : now ∈ L) (know : K now = 10) (dr : Nat) (hdr : dr ∈ L) (kdr : K dr = 13) (sv : Nat) (hsv : sv ∈ L) (ksv : K sv = 14) (tr : Nat) (htr : tr ∈ L) (ktr : K tr = 15) (hf0 : q_z f x 9 = 0) (hf1 : q_z f src 1 = 0) (hf2 : q_z f src 2 = 0) (hf3 : q_z f src 3 = (-1)) (hf4 : q_z f hist 1 = 0) (hf5 : q_z f hist 2 = 0) (hf6 : q_z f rep 1 = 0) (hf7 : q_z f now 3 = 0) (hf8 : q_z f now 4 = 0) (hf9 : q_z f now 5 = 0) (hf10 : q_z f now 6 = 12) (hf11 : q_z f now 10 = 3) (hf12 : q_z f now 11 = 0) (hf13 : q_z f now 12 = 0) (hr0 : q_r f x 0 = src) (hr1 : q_r f x 1 = rdr) (hr2 : q_r f x 2 = scr) (hr3 : q_r f x 3 = fc) (hr4 : q_r f x 4 = hist) (hr5 : q_r f x 5 = rep) (hr6 : q_r f x 6 = now) (hr7 : q_r f x 7 = dr) (hr8 : q_r f x 8 = sv) (hr9 : q_r f fc 0 = tr) : q_Ct l g K L yX11_takesIn cX11_takesIn 1 (some .int) 3 70 [.ref x] f [(11, 9, 9), (8, 1, 9), (9, 0, 2), (7, 1, 4), (2, 1, 2), (6, 1, 1), (10, 3, 15), (13, 3, 15), (14, 3, 15), (15, 3, 15), (16, 3, 15), (142, 0, 599)] (q_Pi (fun (z : Int) (f1 : Nat → va_E) => z = (-1))) := by
  refine q_ofb (by decide +kernel) hN hT (Nat.le_of_ble_eq_true rfl) ?_
  intro p e s m below meth c ls cx hr hlk hB hl
  have hl : lv_has ls 1 [(0, .ref x)] := hl
  obtain ⟨H, hH⟩ : ∃ H : Heap, H = s.heap := ⟨_, rfl⟩
  obtain ⟨locs, hlocs⟩ : ∃ z : List Loc, z = [] := ⟨_, rfl⟩
  rw [← hH, ← hlocs] at hB
  rw [← hH, ← hlocs]
  refine q_ald_n cx dX11_takesIn_0 rfl (lv_at hl 0 rfl) ?_
  refine q_gX11_33 cx hB hx kx hr3 dX11_takesIn_1 (fun hb30 kb30 => ?_)
  refine q_ald_n cx dX11_takesIn_4 rfl (lv_at hl 0 rfl) ?_
  refine q_gX11_54 cx hB hx kx hr6 dX11_takesIn_5 (fun hb31 kb31 => ?_)
  refine q_cVi (As := [.ref now]) (rest := []) cx hB (fun _ h => h) hN hfc kfc (by decide) rfl (m_takesIn0 l g hN hB.2.1 fc hfc kfc now hnow know tr htr ktr hf7 hf8 hf9 hf10 hf11 hf12 hf13 hr9) q_cX11_258 q_dX1_ticksToShiftTaken (by decide) rfl rfl hl.1 rfl (Nat.le_of_ble_eq_true rfl) dX11_takesIn_8 (fun y33 H locs f32 ry33 h34 hF hB => ?_)
  have qy33 := h34
  have z35 : q_z f32 x 9 = 0 := (hF.z hx (by rw [kx]; rfl)).trans hf0
  have z36 : q_z f32 src 1 = 0 := (hF.z hsrc (by rw [ksrc]; rfl)).trans hf1
  have z37 : q_z f32 src 2 = 0 := (hF.z hsrc (by rw [ksrc]; rfl)).trans hf2
  have z38 : q_z f32 src 3 = (-1) := (hF.z hsrc (by rw [ksrc]; rfl)).trans hf3
  have z39 : q_z f32 hist 1 = 0 := (hF.z hhist (by rw [khist]; rfl)).trans hf4
  have z40 : q_z f32 hist 2 = 0 := (hF.z hhist (by rw [khist]; rfl)).trans hf5
  have z41 : q_z f32 rep 1 = 0 := (hF.z hrep (by rw [krep]; rfl)).trans hf6
  have z42 : q_z f32 now 3 = 0 := (hF.z hnow (by rw [know]; rfl)).trans hf7
  have z43 : q_z f32 now 4 = 0 := (hF.z hnow (by rw [know]; rfl)).trans hf8
  have z44 : q_z f32 now 5 = 0 := (hF.z hnow (by rw [know]; rfl)).trans hf9
  have z45 : q_z f32 now 6 = 12 := (hF.z hnow (by rw [know]; rfl)).trans hf10
  have z46 : q_z f32 now 10 = 3 := (hF.z hnow (by rw [know]; rfl)).trans hf11
  have z47 : q_z f32 now 11 = 0 := (hF.z hnow (by rw [know]; rfl)).trans hf12
  have z48 : q_z f32 now 12 = 0 := (hF.z hnow (by rw [know]; rfl)).trans hf13
  have z49 : q_r f32 x 0 = src := (hF.r hx (by rw [kx]; rfl)).trans hr0
  have z50 : q_r f32 x 1 = rdr := (hF.r hx (by rw [kx]; rfl)).trans hr1
  have z51 : q_r f32 x 2 = scr := (hF.r hx (by rw [kx]; rfl)).trans hr2
  have z52 : q_r f32 x 3 = fc := (hF.r hx (by rw [kx]; rfl)).trans hr3
  have z53 : q_r f32 x 4 = hist := (hF.r hx (by rw [kx]; rfl)).trans hr4
  have z54 : q_r f32 x 5 = rep := (hF.r hx (by rw [kx]; rfl)).trans hr5
  have z55 : q_r f32 x 6 = now := (hF.r hx (by rw [kx]; rfl)).trans hr6
  have z56 : q_r f32 x 7 = dr := (hF.r hx (by rw [kx]; rfl)).trans hr7
  have z57 : q_r f32 x 8 = sv := (hF.r hx (by rw [kx]; rfl)).trans hr8
  have z58 : q_r f32 fc 0 = tr := (hF.r hfc (by rw [kfc]; rfl)).trans hr9
  subst qy33
  refine q_iret cx hr hlk hB dX11_takesIn_11 ⟨by decide, by decide⟩ ?_
  exact rfl
set_option maxHeartbeats 4000000 in
set_option maxRecDepth 100000 in
theorem x_ticka (l : Launch) (g : q_G) {K : Nat → Nat} {L : List Nat} (hN : L.Nodup) {f : Nat → va_E} (hT : q_Ty g K L f) (hfl : l.stackTraces = false) (x : Nat) (hx : x ∈ L) (kx : K x = 11) (a0 : Int) (la0 : (-2147483648) ≤ a0) (ua0 : a0 ≤ 0) (src : Nat) (hsrc : src ∈ L) (ksrc : K src = 8) (rdr : Nat) (hrdr : rdr ∈ L) (krdr : K rdr = 9) (scr : Nat) (hscr : scr ∈ L) (kscr : K scr = 7) (fc : Nat) (hfc : fc ∈ L) (kfc : K fc = 1) (hist : Nat) (hhist : hist ∈ L) (khist : K hist = 2) (rep : Nat) (hrep : rep ∈ L) (krep : K rep = 6) (now : Nat) (hnow : now ∈ L) (know : K now = 10) (dr : Nat) (hdr : dr ∈ L) (kdr : K dr = 13) (sv : Nat) (hsv : sv ∈ L) (ksv : K sv = 14) (tr : Nat) (htr : tr ∈ L) (ktr : K tr = 15) (hf0 : q_z f x 9 = 0) (hf1 : q_z f src 1 = 0) (hf2 : q_z f src 2 = 0) (hf3 : q_z f src 3 = (-1)) (hf4 : q_z f hist 1 = 0) (hf5 : q_z f hist 2 = 0) (hf6 : q_z f rep 1 = 0) (hf7 : q_z f now 3 = 0) (hf8 : q_z f now 4 = 0) (hf9 : q_z f now 5 = 0) (hf10 : q_z f now 6 = 12) (hf11 : q_z f now 10 = 3) (hf12 : q_z f now 11 = 0) (hf13 : q_z f now 12 = 0) (hr0 : q_r f x 0 = src) (hr1 : q_r f x 1 = rdr) (hr2 : q_r f x 2 = scr) (hr3 : q_r f x 3 = fc) (hr4 : q_r f x 4 = hist) (hr5 : q_r f x 5 = rep) (hr6 : q_r f x 6 = now) (hr7 : q_r f x 7 = dr) (hr8 : q_r f x 8 = sv) (hr9 : q_r f fc 0 = tr) : q_Xt l g K L yX11_tick cX11_tick 2 (some .int) 6 82 1 6 [.ref x, .int (q_i a0)] f [] (q_Pi (fun (z : Int) (f1 : Nat → va_E) => False)) (fun (E : String) (f1 : Nat → va_E) => E = "java/lang/IllegalArgumentException" ∧ f = f1) := by
  refine q_xofb (by decide +kernel) hN hT (Nat.le_of_ble_eq_true rfl) ?_
  intro p e s m below meth c ls cx hr hlk htab hX hB hl
  have hl : lv_has ls 2 [(0, .ref x), (1, .int (q_i a0))] := hl
  obtain ⟨H, hH⟩ : ∃ H : Heap, H = s.heap := ⟨_, rfl⟩
  obtain ⟨locs, hlocs⟩ : ∃ z : List Loc, z = [] := ⟨_, rfl⟩
  rw [← hH, ← hlocs] at hB
  rw [← hH, ← hlocs]
  refine q_ild_n cx dX11_tick_0 rfl (lv_at hl 1 rfl) ?_
  refine q_cSi (As := [.int (q_i a0)]) (rest := []) cx hB (fun _ h => h) hN (m_isTickCounta l g hN hB.2.1 a0 (by omega) (by omega)) q_cX11_267 q_dX10_isTickCount (by decide) rfl rfl hl.1 rfl (Nat.le_of_ble_eq_true rfl) dX11_tick_1 (fun y6 H locs f5 ry6 h7 hF hB => ?_)
  obtain ⟨rfl, qy6⟩ := h7
  subst qy6
  refine q_ifne (tgt := 17) cx ⟨by decide, by decide⟩ dX11_tick_4 (by decide) (fun c8 => ?_) (fun c8 => ?_)
  · exact absurd c8 (by omega)
  · exact q_throw (text := "ticks are out of range") hfl cx hlk htab hX hB hl.1 (by decide +kernel) q_h880 q_h152 (by decide +kernel) q_xl87a q_xl87b q_xl87c dX11_tick_7 dX11_tick_10 (Or.inl ⟨dX11_tick_11, dX11_tick_13, dX11_tick_16⟩) (by decide) (by decide) ⟨rfl, rfl⟩
set_option maxHeartbeats 4000000 in
set_option maxRecDepth 100000 in
theorem x_tickb (l : Launch) (g : q_G) {K : Nat → Nat} {L : List Nat} (hN : L.Nodup) {f : Nat → va_E} (hT : q_Ty g K L f) (x : Nat) (hx : x ∈ L) (kx : K x = 11) (a0 : Int) (la0 : 1 ≤ a0) (ua0 : a0 ≤ 99) (src : Nat) (hsrc : src ∈ L) (ksrc : K src = 8) (rdr : Nat) (hrdr : rdr ∈ L) (krdr : K rdr = 9) (scr : Nat) (hscr : scr ∈ L) (kscr : K scr = 7) (fc : Nat) (hfc : fc ∈ L) (kfc : K fc = 1) (hist : Nat) (hhist : hist ∈ L) (khist : K hist = 2) (rep : Nat) (hrep : rep ∈ L) (krep : K rep = 6) (now : Nat) (hnow : now ∈ L) (know : K now = 10) (dr : Nat) (hdr : dr ∈ L) (kdr : K dr = 13) (sv : Nat) (hsv : sv ∈ L) (ksv : K sv = 14) (tr : Nat) (htr : tr ∈ L) (ktr : K tr = 15) (hf0 : q_z f x 9 = 0) (hf1 : q_z f src 1 = 0) (hf2 : q_z f src 2 = 0) (hf3 : q_z f src 3 = (-1)) (hf4 : q_z f hist 1 = 0) (hf5 : q_z f hist 2 = 0) (hf6 : q_z f rep 1 = 0) (hf7 : q_z f now 3 = 0) (hf8 : q_z f now 4 = 0) (hf9 : q_z f now 5 = 0) (hf10 : q_z f now 6 = 12) (hf11 : q_z f now 10 = 3) (hf12 : q_z f now 11 = 0) (hf13 : q_z f now 12 = 0) (hr0 : q_r f x 0 = src) (hr1 : q_r f x 1 = rdr) (hr2 : q_r f x 2 = scr) (hr3 : q_r f x 3 = fc) (hr4 : q_r f x 4 = hist) (hr5 : q_r f x 5 = rep) (hr6 : q_r f x 6 = now) (hr7 : q_r f x 7 = dr) (hr8 : q_r f x 8 = sv) (hr9 : q_r f fc 0 = tr) : q_Ct l g K L yX11_tick cX11_tick 2 (some .int) 2 48 [.ref x, .int (q_i a0)] f [(11, 9, 9), (8, 1, 9), (9, 0, 2), (7, 1, 4), (2, 1, 2), (6, 1, 1), (10, 3, 15), (13, 3, 15), (14, 3, 15), (15, 3, 15), (16, 3, 15), (142, 0, 599)] (q_Pi (fun (z : Int) (f1 : Nat → va_E) => z = 0)) := by
  refine q_ofb (by decide +kernel) hN hT (Nat.le_of_ble_eq_true rfl) ?_
  intro p e s m below meth c ls cx hr hlk hB hl
  have hl : lv_has ls 2 [(0, .ref x), (1, .int (q_i a0))] := hl
  obtain ⟨H, hH⟩ : ∃ H : Heap, H = s.heap := ⟨_, rfl⟩
  obtain ⟨locs, hlocs⟩ : ∃ z : List Loc, z = [] := ⟨_, rfl⟩
  rw [← hH, ← hlocs] at hB
  rw [← hH, ← hlocs]
  refine q_ild_n cx dX11_tick_0 rfl (lv_at hl 1 rfl) ?_
  refine q_cSi (As := [.int (q_i a0)]) (rest := []) cx hB (fun _ h => h) hN (m_isTickCountb l g hN hB.2.1 a0 (by omega) (by omega)) q_cX11_267 q_dX10_isTickCount (by decide) rfl rfl hl.1 rfl (Nat.le_of_ble_eq_true rfl) dX11_tick_1 (fun y67 H locs f66 ry67 h68 hF hB => ?_)
  obtain ⟨rfl, qy67⟩ := h68
  subst qy67
  refine q_ifne (tgt := 17) cx ⟨by decide, by decide⟩ dX11_tick_4 (by decide) (fun c69 => ?_) (fun c69 => ?_)
  · refine q_ald_n cx dX11_tick_17 rfl (lv_at hl 0 rfl) ?_
    refine q_gX11_54 cx hB hx kx hr6 dX11_tick_18 (fun hb70 kb70 => ?_)
    refine q_ild_n cx dX11_tick_21 rfl (lv_at hl 1 rfl) ?_
    refine q_cVi (As := [.int (q_i a0)]) (rest := []) cx hB (fun _ h => h) hN hnow know (by decide) rfl (m_hasTimeFor0 l g hN hB.2.1 now hnow know a0 (by omega) (by omega) hf12) q_cX11_270 q_dX10_hasTimeFor (by decide) rfl rfl hl.1 rfl (Nat.le_of_ble_eq_true rfl) dX11_tick_22 (fun y72 H locs f71 ry72 h73 hF hB => ?_)
    obtain ⟨rfl, qy72⟩ := h73
    subst qy72
    refine q_ifne (tgt := 39) cx ⟨by decide, by decide⟩ dX11_tick_25 (by decide) (fun c74 => ?_) (fun c74 => ?_)
    · refine q_ald_n cx dX11_tick_39 rfl (lv_at hl 0 rfl) ?_
      refine q_gX11_40 cx hB hx kx hr4 dX11_tick_40 (fun hb75 kb75 => ?_)
      refine q_ald_n cx dX11_tick_43 rfl (lv_at hl 0 rfl) ?_
      refine q_gX11_54 cx hB hx kx hr6 dX11_tick_44 (fun hb76 kb76 => ?_)
      refine q_cVv (As := [.ref now]) (rest := []) cx hB (fun _ h => h) hN hhist khist (by decide) rfl (m_keep0 l g hN hB.2.1 hist hhist khist now hnow know hf4 hf5 hf7 hf8 hf9 hf10 hf11 hf12 hf13) q_cX11_107 q_dX2_keep (by decide) rfl rfl hl.1 rfl (Nat.le_of_ble_eq_true rfl) dX11_tick_47 (fun H locs f77 h79 hF hB => ?_)
      obtain ⟨z80, z81⟩ := h79
      have z82 : q_z f77 x 9 = 0 := (hF.z hx (by rw [kx]; rfl)).trans hf0
      have z83 : q_z f77 src 1 = 0 := (hF.z hsrc (by rw [ksrc]; rfl)).trans hf1
      have z84 : q_z f77 src 2 = 0 := (hF.z hsrc (by rw [ksrc]; rfl)).trans hf2
      have z85 : q_z f77 src 3 = (-1) := (hF.z hsrc (by rw [ksrc]; rfl)).trans hf3
      have z86 : q_z f77 rep 1 = 0 := (hF.z hrep (by rw [krep]; rfl)).trans hf6
      have z87 : q_z f77 now 3 = 0 := (hF.z hnow (by rw [know]; rfl)).trans hf7
      have z88 : q_z f77 now 4 = 0 := (hF.z hnow (by rw [know]; rfl)).trans hf8
      have z89 : q_z f77 now 5 = 0 := (hF.z hnow (by rw [know]; rfl)).trans hf9
      have z90 : q_z f77 now 6 = 12 := (hF.z hnow (by rw [know]; rfl)).trans hf10
      have z91 : q_z f77 now 10 = 3 := (hF.z hnow (by rw [know]; rfl)).trans hf11
      have z92 : q_z f77 now 11 = 0 := (hF.z hnow (by rw [know]; rfl)).trans hf12
      have z93 : q_z f77 now 12 = 0 := (hF.z hnow (by rw [know]; rfl)).trans hf13
      have z94 : q_r f77 x 0 = src := (hF.r hx (by rw [kx]; rfl)).trans hr0
      have z95 : q_r f77 x 1 = rdr := (hF.r hx (by rw [kx]; rfl)).trans hr1
      have z96 : q_r f77 x 2 = scr := (hF.r hx (by rw [kx]; rfl)).trans hr2
      have z97 : q_r f77 x 3 = fc := (hF.r hx (by rw [kx]; rfl)).trans hr3
      have z98 : q_r f77 x 4 = hist := (hF.r hx (by rw [kx]; rfl)).trans hr4
      have z99 : q_r f77 x 5 = rep := (hF.r hx (by rw [kx]; rfl)).trans hr5
      have z100 : q_r f77 x 6 = now := (hF.r hx (by rw [kx]; rfl)).trans hr6
      have z101 : q_r f77 x 7 = dr := (hF.r hx (by rw [kx]; rfl)).trans hr7
      have z102 : q_r f77 x 8 = sv := (hF.r hx (by rw [kx]; rfl)).trans hr8
      have z103 : q_r f77 fc 0 = tr := (hF.r hfc (by rw [kfc]; rfl)).trans hr9
      refine q_ald_n cx dX11_tick_50 rfl (lv_at hl 0 rfl) ?_
      refine q_gX11_54 cx hB hx kx z100 dX11_tick_51 (fun hb104 kb104 => ?_)
      refine q_ild_n cx dX11_tick_54 rfl (lv_at hl 1 rfl) ?_
      refine q_cVi (As := [.int (q_i a0)]) (rest := []) cx hB (fun _ h => h) hN hnow know (by decide) rfl (m_passTicks0 l g hN hB.2.1 now hnow know a0 (by omega) (by omega) z87 z88 z89) q_cX11_275 q_dX10_passTicks (by decide) rfl rfl hl.1 rfl (Nat.le_of_ble_eq_true rfl) dX11_tick_55 (fun y106 H locs f105 ry106 h107 hF hB => ?_)
      have qy106 := h107
      have z108 : q_z f105 x 9 = 0 := (hF.z hx (by rw [kx]; rfl)).trans z82
      have z109 : q_z f105 src 1 = 0 := (hF.z hsrc (by rw [ksrc]; rfl)).trans z83
      have z110 : q_z f105 src 2 = 0 := (hF.z hsrc (by rw [ksrc]; rfl)).trans z84
      have z111 : q_z f105 src 3 = (-1) := (hF.z hsrc (by rw [ksrc]; rfl)).trans z85
      have z112 : q_z f105 rep 1 = 0 := (hF.z hrep (by rw [krep]; rfl)).trans z86
      have z113 : q_z f105 now 3 = 0 := (hF.z hnow (by rw [know]; rfl)).trans z87
      have z114 : q_z f105 now 4 = 0 := (hF.z hnow (by rw [know]; rfl)).trans z88
      have z115 : q_z f105 now 5 = 0 := (hF.z hnow (by rw [know]; rfl)).trans z89
      have z116 : q_z f105 now 6 = 12 := (hF.z hnow (by rw [know]; rfl)).trans z90
      have z117 : q_z f105 now 10 = 3 := (hF.z hnow (by rw [know]; rfl)).trans z91
      have z118 : q_z f105 now 12 = 0 := (hF.z hnow (by rw [know]; rfl)).trans z93
      have z119 : q_z f105 hist 1 = 1 := (hF.z hhist (by rw [khist]; rfl)).trans z80
      have z120 : q_z f105 hist 2 = 1 := (hF.z hhist (by rw [khist]; rfl)).trans z81
      have z121 : q_r f105 x 0 = src := (hF.r hx (by rw [kx]; rfl)).trans z94
      have z122 : q_r f105 x 1 = rdr := (hF.r hx (by rw [kx]; rfl)).trans z95
      have z123 : q_r f105 x 2 = scr := (hF.r hx (by rw [kx]; rfl)).trans z96
      have z124 : q_r f105 x 3 = fc := (hF.r hx (by rw [kx]; rfl)).trans z97
      have z125 : q_r f105 x 4 = hist := (hF.r hx (by rw [kx]; rfl)).trans z98
      have z126 : q_r f105 x 5 = rep := (hF.r hx (by rw [kx]; rfl)).trans z99
      have z127 : q_r f105 x 6 = now := (hF.r hx (by rw [kx]; rfl)).trans z100
      have z128 : q_r f105 x 7 = dr := (hF.r hx (by rw [kx]; rfl)).trans z101
      have z129 : q_r f105 x 8 = sv := (hF.r hx (by rw [kx]; rfl)).trans z102
      have z130 : q_r f105 fc 0 = tr := (hF.r hfc (by rw [kfc]; rfl)).trans z103
      subst qy106
      refine q_iret cx hr hlk hB dX11_tick_58 ⟨by decide, by decide⟩ ?_
      exact rfl
    · exact absurd c74 (by omega)
  · exact absurd c69 (by omega)
set_option maxHeartbeats 4000000 in
set_option maxRecDepth 100000 in
theorem x_tickc (l : Launch) (g : q_G) {K : Nat → Nat} {L : List Nat} (hN : L.Nodup) {f : Nat → va_E} (hT : q_Ty g K L f) (hfl : l.stackTraces = false) (x : Nat) (hx : x ∈ L) (kx : K x = 11) (a0 : Int) (la0 : 100 ≤ a0) (ua0 : a0 ≤ 2147483647) (src : Nat) (hsrc : src ∈ L) (ksrc : K src = 8) (rdr : Nat) (hrdr : rdr ∈ L) (krdr : K rdr = 9) (scr : Nat) (hscr : scr ∈ L) (kscr : K scr = 7) (fc : Nat) (hfc : fc ∈ L) (kfc : K fc = 1) (hist : Nat) (hhist : hist ∈ L) (khist : K hist = 2) (rep : Nat) (hrep : rep ∈ L) (krep : K rep = 6) (now : Nat) (hnow : now ∈ L) (know : K now = 10) (dr : Nat) (hdr : dr ∈ L) (kdr : K dr = 13) (sv : Nat) (hsv : sv ∈ L) (ksv : K sv = 14) (tr : Nat) (htr : tr ∈ L) (ktr : K tr = 15) (hf0 : q_z f x 9 = 0) (hf1 : q_z f src 1 = 0) (hf2 : q_z f src 2 = 0) (hf3 : q_z f src 3 = (-1)) (hf4 : q_z f hist 1 = 0) (hf5 : q_z f hist 2 = 0) (hf6 : q_z f rep 1 = 0) (hf7 : q_z f now 3 = 0) (hf8 : q_z f now 4 = 0) (hf9 : q_z f now 5 = 0) (hf10 : q_z f now 6 = 12) (hf11 : q_z f now 10 = 3) (hf12 : q_z f now 11 = 0) (hf13 : q_z f now 12 = 0) (hr0 : q_r f x 0 = src) (hr1 : q_r f x 1 = rdr) (hr2 : q_r f x 2 = scr) (hr3 : q_r f x 3 = fc) (hr4 : q_r f x 4 = hist) (hr5 : q_r f x 5 = rep) (hr6 : q_r f x 6 = now) (hr7 : q_r f x 7 = dr) (hr8 : q_r f x 8 = sv) (hr9 : q_r f fc 0 = tr) : q_Xt l g K L yX11_tick cX11_tick 2 (some .int) 6 82 1 6 [.ref x, .int (q_i a0)] f [] (q_Pi (fun (z : Int) (f1 : Nat → va_E) => False)) (fun (E : String) (f1 : Nat → va_E) => E = "java/lang/IllegalArgumentException" ∧ f = f1) := by
  refine q_xofb (by decide +kernel) hN hT (Nat.le_of_ble_eq_true rfl) ?_
  intro p e s m below meth c ls cx hr hlk htab hX hB hl
  have hl : lv_has ls 2 [(0, .ref x), (1, .int (q_i a0))] := hl
  obtain ⟨H, hH⟩ : ∃ H : Heap, H = s.heap := ⟨_, rfl⟩
  obtain ⟨locs, hlocs⟩ : ∃ z : List Loc, z = [] := ⟨_, rfl⟩
  rw [← hH, ← hlocs] at hB
  rw [← hH, ← hlocs]
  refine q_ild_n cx dX11_tick_0 rfl (lv_at hl 1 rfl) ?_
  refine q_cSi (As := [.int (q_i a0)]) (rest := []) cx hB (fun _ h => h) hN (m_isTickCountc l g hN hB.2.1 a0 (by omega) (by omega)) q_cX11_267 q_dX10_isTickCount (by decide) rfl rfl hl.1 rfl (Nat.le_of_ble_eq_true rfl) dX11_tick_1 (fun y6 H locs f5 ry6 h7 hF hB => ?_)
  obtain ⟨rfl, qy6⟩ := h7
  subst qy6
  refine q_ifne (tgt := 17) cx ⟨by decide, by decide⟩ dX11_tick_4 (by decide) (fun c8 => ?_) (fun c8 => ?_)
  · exact absurd c8 (by omega)
  · exact q_throw (text := "ticks are out of range") hfl cx hlk htab hX hB hl.1 (by decide +kernel) q_h880 q_h152 (by decide +kernel) q_xl87a q_xl87b q_xl87c dX11_tick_7 dX11_tick_10 (Or.inl ⟨dX11_tick_11, dX11_tick_13, dX11_tick_16⟩) (by decide) (by decide) ⟨rfl, rfl⟩
set_option maxHeartbeats 4000000 in
set_option maxRecDepth 100000 in
theorem x_setMissa (l : Launch) (g : q_G) {K : Nat → Nat} {L : List Nat} (hN : L.Nodup) {f : Nat → va_E} (hT : q_Ty g K L f) (hfl : l.stackTraces = false) (x : Nat) (hx : x ∈ L) (kx : K x = 11) (a0 : Int) (la0 : (-2147483648) ≤ a0) (ua0 : a0 ≤ 0) (src : Nat) (hsrc : src ∈ L) (ksrc : K src = 8) (rdr : Nat) (hrdr : rdr ∈ L) (krdr : K rdr = 9) (scr : Nat) (hscr : scr ∈ L) (kscr : K scr = 7) (fc : Nat) (hfc : fc ∈ L) (kfc : K fc = 1) (hist : Nat) (hhist : hist ∈ L) (khist : K hist = 2) (rep : Nat) (hrep : rep ∈ L) (krep : K rep = 6) (now : Nat) (hnow : now ∈ L) (know : K now = 10) (dr : Nat) (hdr : dr ∈ L) (kdr : K dr = 13) (sv : Nat) (hsv : sv ∈ L) (ksv : K sv = 14) (tr : Nat) (htr : tr ∈ L) (ktr : K tr = 15) (hf0 : q_z f x 9 = 0) (hf1 : q_z f src 1 = 0) (hf2 : q_z f src 2 = 0) (hf3 : q_z f src 3 = (-1)) (hf4 : q_z f hist 1 = 0) (hf5 : q_z f hist 2 = 0) (hf6 : q_z f rep 1 = 0) (hf7 : q_z f now 3 = 0) (hf8 : q_z f now 4 = 0) (hf9 : q_z f now 5 = 0) (hf10 : q_z f now 6 = 12) (hf11 : q_z f now 10 = 3) (hf12 : q_z f now 11 = 0) (hf13 : q_z f now 12 = 0) (hr0 : q_r f x 0 = src) (hr1 : q_r f x 1 = rdr) (hr2 : q_r f x 2 = scr) (hr3 : q_r f x 3 = fc) (hr4 : q_r f x 4 = hist) (hr5 : q_r f x 5 = rep) (hr6 : q_r f x 6 = now) (hr7 : q_r f x 7 = dr) (hr8 : q_r f x 8 = sv) (hr9 : q_r f fc 0 = tr) : q_Xt l g K L yX11_setMiss cX11_setMiss 3 (some .int) 6 82 1 6 [.ref x, .int (q_i a0)] f [] (q_Pi (fun (z : Int) (f1 : Nat → va_E) => False)) (fun (E : String) (f1 : Nat → va_E) => E = "java/lang/IllegalArgumentException" ∧ f = f1) := by
  refine q_xofb (by decide +kernel) hN hT (Nat.le_of_ble_eq_true rfl) ?_
  intro p e s m below meth c ls cx hr hlk htab hX hB hl
  have hl : lv_has ls 3 [(0, .ref x), (1, .int (q_i a0))] := hl
  obtain ⟨H, hH⟩ : ∃ H : Heap, H = s.heap := ⟨_, rfl⟩
  obtain ⟨locs, hlocs⟩ : ∃ z : List Loc, z = [] := ⟨_, rfl⟩
  rw [← hH, ← hlocs] at hB
  rw [← hH, ← hlocs]
  refine q_ild_n cx dX11_setMiss_0 rfl (lv_at hl 1 rfl) ?_
  refine q_iconst cx dX11_setMiss_1 ?_
  refine q_iclt (tgt := 11) cx ⟨by omega, by omega⟩ ⟨by decide, by decide⟩ dX11_setMiss_2 (by decide) (fun c2 => ?_) (fun c2 => ?_)
  · exact q_throw (text := "the misses are out of range") hfl cx hlk htab hX hB hl.1 (by decide +kernel) q_h880 q_h152 (by decide +kernel) q_xl87a q_xl87b q_xl87c dX11_setMiss_11 dX11_setMiss_14 (Or.inr ⟨dX11_setMiss_15, dX11_setMiss_18, dX11_setMiss_21⟩) (by decide) (by decide) ⟨rfl, rfl⟩
  · exact absurd c2 (by omega)
set_option maxHeartbeats 4000000 in
set_option maxRecDepth 100000 in
theorem x_setMissb (l : Launch) (g : q_G) {K : Nat → Nat} {L : List Nat} (hN : L.Nodup) {f : Nat → va_E} (hT : q_Ty g K L f) (x : Nat) (hx : x ∈ L) (kx : K x = 11) (a0 : Int) (la0 : 1 ≤ a0) (ua0 : a0 ≤ 9) (src : Nat) (hsrc : src ∈ L) (ksrc : K src = 8) (rdr : Nat) (hrdr : rdr ∈ L) (krdr : K rdr = 9) (scr : Nat) (hscr : scr ∈ L) (kscr : K scr = 7) (fc : Nat) (hfc : fc ∈ L) (kfc : K fc = 1) (hist : Nat) (hhist : hist ∈ L) (khist : K hist = 2) (rep : Nat) (hrep : rep ∈ L) (krep : K rep = 6) (now : Nat) (hnow : now ∈ L) (know : K now = 10) (dr : Nat) (hdr : dr ∈ L) (kdr : K dr = 13) (sv : Nat) (hsv : sv ∈ L) (ksv : K sv = 14) (tr : Nat) (htr : tr ∈ L) (ktr : K tr = 15) (hf0 : q_z f x 9 = 0) (hf1 : q_z f src 1 = 0) (hf2 : q_z f src 2 = 0) (hf3 : q_z f src 3 = (-1)) (hf4 : q_z f hist 1 = 0) (hf5 : q_z f hist 2 = 0) (hf6 : q_z f rep 1 = 0) (hf7 : q_z f now 3 = 0) (hf8 : q_z f now 4 = 0) (hf9 : q_z f now 5 = 0) (hf10 : q_z f now 6 = 12) (hf11 : q_z f now 10 = 3) (hf12 : q_z f now 11 = 0) (hf13 : q_z f now 12 = 0) (hr0 : q_r f x 0 = src) (hr1 : q_r f x 1 = rdr) (hr2 : q_r f x 2 = scr) (hr3 : q_r f x 3 = fc) (hr4 : q_r f x 4 = hist) (hr5 : q_r f x 5 = rep) (hr6 : q_r f x 6 = now) (hr7 : q_r f x 7 = dr) (hr8 : q_r f x 8 = sv) (hr9 : q_r f fc 0 = tr) : q_Ct l g K L yX11_setMiss cX11_setMiss 3 (some .int) 2 43 [.ref x, .int (q_i a0)] f [(11, 9, 9), (8, 1, 9), (9, 0, 2), (7, 1, 4), (2, 1, 2), (6, 1, 1), (10, 3, 15), (13, 3, 15), (14, 3, 15), (15, 3, 15), (16, 3, 15), (142, 0, 599)] (q_Pi (fun (z : Int) (f1 : Nat → va_E) => z = 3)) := by
  refine q_ofb (by decide +kernel) hN hT (Nat.le_of_ble_eq_true rfl) ?_
  intro p e s m below meth c ls cx hr hlk hB hl
  have hl : lv_has ls 3 [(0, .ref x), (1, .int (q_i a0))] := hl
  obtain ⟨H, hH⟩ : ∃ H : Heap, H = s.heap := ⟨_, rfl⟩
  obtain ⟨locs, hlocs⟩ : ∃ z : List Loc, z = [] := ⟨_, rfl⟩
  rw [← hH, ← hlocs] at hB
  rw [← hH, ← hlocs]
  refine q_ild_n cx dX11_setMiss_0 rfl (lv_at hl 1 rfl) ?_
  refine q_iconst cx dX11_setMiss_1 ?_
  refine q_iclt (tgt := 11) cx ⟨by omega, by omega⟩ ⟨by decide, by decide⟩ dX11_setMiss_2 (by decide) (fun c60 => ?_) (fun c60 => ?_)
  · exact absurd c60 (by omega)
  · refine q_ild_n cx dX11_setMiss_5 rfl (lv_at hl 1 rfl) ?_
    refine q_bipush cx dX11_setMiss_6 rfl ?_
    refine q_icle (tgt := 22) cx ⟨by omega, by omega⟩ ⟨by decide, by decide⟩ dX11_setMiss_8 (by decide) (fun c61 => ?_) (fun c61 => ?_)
    · refine q_ald_n cx dX11_setMiss_22 rfl (lv_at hl 0 rfl) ?_
      refine q_gX11_40 cx hB hx kx hr4 dX11_setMiss_23 (fun hb62 kb62 => ?_)
      refine q_ald_n cx dX11_setMiss_26 rfl (lv_at hl 0 rfl) ?_
      refine q_gX11_54 cx hB hx kx hr6 dX11_setMiss_27 (fun hb63 kb63 => ?_)
      refine q_cVv (As := [.ref now]) (rest := []) cx hB (fun _ h => h) hN hhist khist (by decide) rfl (m_keep0 l g hN hB.2.1 hist hhist khist now hnow know hf4 hf5 hf7 hf8 hf9 hf10 hf11 hf12 hf13) q_cX11_107 q_dX2_keep (by decide) rfl rfl hl.1 rfl (Nat.le_of_ble_eq_true rfl) dX11_setMiss_30 (fun H locs f64 h66 hF hB => ?_)
      obtain ⟨z67, z68⟩ := h66
      have z69 : q_z f64 x 9 = 0 := (hF.z hx (by rw [kx]; rfl)).trans hf0
      have z70 : q_z f64 src 1 = 0 := (hF.z hsrc (by rw [ksrc]; rfl)).trans hf1
      have z71 : q_z f64 src 2 = 0 := (hF.z hsrc (by rw [ksrc]; rfl)).trans hf2
      have z72 : q_z f64 src 3 = (-1) := (hF.z hsrc (by rw [ksrc]; rfl)).trans hf3
      have z73 : q_z f64 rep 1 = 0 := (hF.z hrep (by rw [krep]; rfl)).trans hf6
      have z74 : q_z f64 now 3 = 0 := (hF.z hnow (by rw [know]; rfl)).trans hf7
      have z75 : q_z f64 now 4 = 0 := (hF.z hnow (by rw [know]; rfl)).trans hf8
      have z76 : q_z f64 now 5 = 0 := (hF.z hnow (by rw [know]; rfl)).trans hf9
      have z77 : q_z f64 now 6 = 12 := (hF.z hnow (by rw [know]; rfl)).trans hf10
      have z78 : q_z f64 now 10 = 3 := (hF.z hnow (by rw [know]; rfl)).trans hf11
      have z79 : q_z f64 now 11 = 0 := (hF.z hnow (by rw [know]; rfl)).trans hf12
      have z80 : q_z f64 now 12 = 0 := (hF.z hnow (by rw [know]; rfl)).trans hf13
      have z81 : q_r f64 x 0 = src := (hF.r hx (by rw [kx]; rfl)).trans hr0
      have z82 : q_r f64 x 1 = rdr := (hF.r hx (by rw [kx]; rfl)).trans hr1
      have z83 : q_r f64 x 2 = scr := (hF.r hx (by rw [kx]; rfl)).trans hr2
      have z84 : q_r f64 x 3 = fc := (hF.r hx (by rw [kx]; rfl)).trans hr3
      have z85 : q_r f64 x 4 = hist := (hF.r hx (by rw [kx]; rfl)).trans hr4
      have z86 : q_r f64 x 5 = rep := (hF.r hx (by rw [kx]; rfl)).trans hr5
      have z87 : q_r f64 x 6 = now := (hF.r hx (by rw [kx]; rfl)).trans hr6
      have z88 : q_r f64 x 7 = dr := (hF.r hx (by rw [kx]; rfl)).trans hr7
      have z89 : q_r f64 x 8 = sv := (hF.r hx (by rw [kx]; rfl)).trans hr8
      have z90 : q_r f64 fc 0 = tr := (hF.r hfc (by rw [kfc]; rfl)).trans hr9
      refine q_ald_n cx dX11_setMiss_33 rfl (lv_at hl 0 rfl) ?_
      refine q_gX11_54 cx hB hx kx z87 dX11_setMiss_34 (fun hb91 kb91 => ?_)
      refine q_gX11_313 cx hB hnow know z78 dX11_setMiss_37 (fun lb92 ub92 => ?_)
      refine lv_istore_n (lv' := [(2, .int (q_i 3)), (0, .ref x), (1, .int (q_i a0))]) cx.1 cx.2.1 dX11_setMiss_40 rfl hl (by decide) rfl (fun ls hl => ?_)
      refine q_ald_n cx dX11_setMiss_41 rfl (lv_at hl 1 rfl) ?_
      refine q_gX11_54 cx hB hx kx z87 dX11_setMiss_42 (fun hb93 kb93 => ?_)
      refine q_ild_n cx dX11_setMiss_45 rfl (lv_at hl 2 rfl) ?_
      refine q_pX11_313 cx hB hnow know ⟨by omega, by omega⟩ (by omega) (by omega) rfl dX11_setMiss_46 (fun H locs f94 ef94 z95 hB => ?_)
      have z96 : q_z f94 x 9 = 0 := by rw [ef94, q_setz (Or.inr (by decide))]; exact z69
      have z97 : q_z f94 src 1 = 0 := by rw [ef94, q_setz (Or.inr (by decide))]; exact z70
      have z98 : q_z f94 src 2 = 0 := by rw [ef94, q_setz (Or.inr (by decide))]; exact z71
      have z99 : q_z f94 src 3 = (-1) := by rw [ef94, q_setz (Or.inr (by decide))]; exact z72
      have z100 : q_z f94 rep 1 = 0 := by rw [ef94, q_setz (Or.inr (by decide))]; exact z73
      have z101 : q_z f94 now 3 = 0 := by rw [ef94, q_setz (Or.inr (by decide))]; exact z74
      have z102 : q_z f94 now 4 = 0 := by rw [ef94, q_setz (Or.inr (by decide))]; exact z75
      have z103 : q_z f94 now 5 = 0 := by rw [ef94, q_setz (Or.inr (by decide))]; exact z76
      have z104 : q_z f94 now 6 = 12 := by rw [ef94, q_setz (Or.inr (by decide))]; exact z77
      have z105 : q_z f94 now 11 = 0 := by rw [ef94, q_setz (Or.inr (by decide))]; exact z79
      have z106 : q_z f94 now 12 = 0 := by rw [ef94, q_setz (Or.inr (by decide))]; exact z80
      have z107 : q_z f94 hist 1 = 1 := by rw [ef94, q_setz (Or.inr (by decide))]; exact z67
      have z108 : q_z f94 hist 2 = 1 := by rw [ef94, q_setz (Or.inr (by decide))]; exact z68
      have z109 : q_r f94 x 0 = src := by rw [ef94, q_setr (Or.inr (by decide))]; exact z81
      have z110 : q_r f94 x 1 = rdr := by rw [ef94, q_setr (Or.inr (by decide))]; exact z82
      have z111 : q_r f94 x 2 = scr := by rw [ef94, q_setr (Or.inr (by decide))]; exact z83
      have z112 : q_r f94 x 3 = fc := by rw [ef94, q_setr (Or.inr (by decide))]; exact z84
      have z113 : q_r f94 x 4 = hist := by rw [ef94, q_setr (Or.inr (by decide))]; exact z85
      have z114 : q_r f94 x 5 = rep := by rw [ef94, q_setr (Or.inr (by decide))]; exact z86
      have z115 : q_r f94 x 6 = now := by rw [ef94, q_setr (Or.inr (by decide))]; exact z87
      have z116 : q_r f94 x 7 = dr := by rw [ef94, q_setr (Or.inr (by decide))]; exact z88
      have z117 : q_r f94 x 8 = sv := by rw [ef94, q_setr (Or.inr (by decide))]; exact z89
      have z118 : q_r f94 fc 0 = tr := by rw [ef94, q_setr (Or.inr (by decide))]; exact z90
      refine q_ild_n cx dX11_setMiss_49 rfl (lv_at hl 0 rfl) ?_
      refine q_iret cx hr hlk hB dX11_setMiss_50 ⟨by decide, by decide⟩ ?_
      exact rfl
    · exact absurd c61 (by omega)
set_option maxHeartbeats 4000000 in
set_option maxRecDepth 100000 in
theorem x_setMissc (l : Launch) (g : q_G) {K : Nat → Nat} {L : List Nat} (hN : L.Nodup) {f : Nat → va_E} (hT : q_Ty g K L f) (hfl : l.stackTraces = false) (x : Nat) (hx : x ∈ L) (kx : K x = 11) (a0 : Int) (la0 : 10 ≤ a0) (ua0 : a0 ≤ 2147483647) (src : Nat) (hsrc : src ∈ L) (ksrc : K src = 8) (rdr : Nat) (hrdr : rdr ∈ L) (krdr : K rdr = 9) (scr : Nat) (hscr : scr ∈ L) (kscr : K scr = 7) (fc : Nat) (hfc : fc ∈ L) (kfc : K fc = 1) (hist : Nat) (hhist : hist ∈ L) (khist : K hist = 2) (rep : Nat) (hrep : rep ∈ L) (krep : K rep = 6) (now : Nat) (hnow : now ∈ L) (know : K now = 10) (dr : Nat) (hdr : dr ∈ L) (kdr : K dr = 13) (sv : Nat) (hsv : sv ∈ L) (ksv : K sv = 14) (tr : Nat) (htr : tr ∈ L) (ktr : K tr = 15) (hf0 : q_z f x 9 = 0) (hf1 : q_z f src 1 = 0) (hf2 : q_z f src 2 = 0) (hf3 : q_z f src 3 = (-1)) (hf4 : q_z f hist 1 = 0) (hf5 : q_z f hist 2 = 0) (hf6 : q_z f rep 1 = 0) (hf7 : q_z f now 3 = 0) (hf8 : q_z f now 4 = 0) (hf9 : q_z f now 5 = 0) (hf10 : q_z f now 6 = 12) (hf11 : q_z f now 10 = 3) (hf12 : q_z f now 11 = 0) (hf13 : q_z f now 12 = 0) (hr0 : q_r f x 0 = src) (hr1 : q_r f x 1 = rdr) (hr2 : q_r f x 2 = scr) (hr3 : q_r f x 3 = fc) (hr4 : q_r f x 4 = hist) (hr5 : q_r f x 5 = rep) (hr6 : q_r f x 6 = now) (hr7 : q_r f x 7 = dr) (hr8 : q_r f x 8 = sv) (hr9 : q_r f fc 0 = tr) : q_Xt l g K L yX11_setMiss cX11_setMiss 3 (some .int) 6 82 1 6 [.ref x, .int (q_i a0)] f [] (q_Pi (fun (z : Int) (f1 : Nat → va_E) => False)) (fun (E : String) (f1 : Nat → va_E) => E = "java/lang/IllegalArgumentException" ∧ f = f1) := by
  refine q_xofb (by decide +kernel) hN hT (Nat.le_of_ble_eq_true rfl) ?_
  intro p e s m below meth c ls cx hr hlk htab hX hB hl
  have hl : lv_has ls 3 [(0, .ref x), (1, .int (q_i a0))] := hl
  obtain ⟨H, hH⟩ : ∃ H : Heap, H = s.heap := ⟨_, rfl⟩
  obtain ⟨locs, hlocs⟩ : ∃ z : List Loc, z = [] := ⟨_, rfl⟩
  rw [← hH, ← hlocs] at hB
  rw [← hH, ← hlocs]
  refine q_ild_n cx dX11_setMiss_0 rfl (lv_at hl 1 rfl) ?_
  refine q_iconst cx dX11_setMiss_1 ?_
  refine q_iclt (tgt := 11) cx ⟨by omega, by omega⟩ ⟨by decide, by decide⟩ dX11_setMiss_2 (by decide) (fun c3 => ?_) (fun c3 => ?_)
  · exact absurd c3 (by omega)
  · refine q_ild_n cx dX11_setMiss_5 rfl (lv_at hl 1 rfl) ?_
    refine q_bipush cx dX11_setMiss_6 rfl ?_
    refine q_icle (tgt := 22) cx ⟨by omega, by omega⟩ ⟨by decide, by decide⟩ dX11_setMiss_8 (by decide) (fun c4 => ?_) (fun c4 => ?_)
    · exact absurd c4 (by omega)
    · exact q_throw (text := "the misses are out of range") hfl cx hlk htab hX hB hl.1 (by decide +kernel) q_h880 q_h152 (by decide +kernel) q_xl87a q_xl87b q_xl87c dX11_setMiss_11 dX11_setMiss_14 (Or.inr ⟨dX11_setMiss_15, dX11_setMiss_18, dX11_setMiss_21⟩) (by decide) (by decide) ⟨rfl, rfl⟩
set_option maxHeartbeats 4000000 in
set_option maxRecDepth 100000 in
theorem x_report (l : Launch) (g : q_G) {K : Nat → Nat} {L : List Nat} (hN : L.Nodup) {f : Nat → va_E} (hT : q_Ty g K L f) (x : Nat) (hx : x ∈ L) (kx : K x = 11) (src : Nat) (hsrc : src ∈ L) (ksrc : K src = 8) (rdr : Nat) (hrdr : rdr ∈ L) (krdr : K rdr = 9) (scr : Nat) (hscr : scr ∈ L) (kscr : K scr = 7) (fc : Nat) (hfc : fc ∈ L) (kfc : K fc = 1) (hist : Nat) (hhist : hist ∈ L) (khist : K hist = 2) (rep : Nat) (hrep : rep ∈ L) (krep : K rep = 6) (now : Nat) (hnow : now ∈ L) (know : K now = 10) (dr : Nat) (hdr : dr ∈ L) (kdr : K dr = 13) (sv : Nat) (hsv : sv ∈ L) (ksv : K sv = 14) (tr : Nat) (htr : tr ∈ L) (ktr : K tr = 15) (hf0 : q_z f x 9 = 0) (hf1 : q_z f src 1 = 0) (hf2 : q_z f src 2 = 0) (hf3 : q_z f src 3 = (-1)) (hf4 : q_z f hist 1 = 0) (hf5 : q_z f hist 2 = 0) (hf6 : q_z f rep 1 = 0) (hf7 : q_z f now 3 = 0) (hf8 : q_z f now 4 = 0) (hf9 : q_z f now 5 = 0) (hf10 : q_z f now 6 = 12) (hf11 : q_z f now 10 = 3) (hf12 : q_z f now 11 = 0) (hf13 : q_z f now 12 = 0) (hr0 : q_r f x 0 = src) (hr1 : q_r f x 1 = rdr) (hr2 : q_r f x 2 = scr) (hr3 : q_r f x 3 = fc) (hr4 : q_r f x 4 = hist) (hr5 : q_r f x 5 = rep) (hr6 : q_r f x 6 = now) (hr7 : q_r f x 7 = dr) (hr8 : q_r f x 8 = sv) (hr9 : q_r f fc 0 = tr) : q_Ct l g K L yX11_report cX11_report 1 (some .int) 1 22 [.ref x] f [(11, 9, 9), (8, 1, 9), (9, 0, 2), (7, 1, 4), (2, 1, 2), (6, 1, 1), (10, 3, 15), (13, 3, 15), (14, 3, 15), (15, 3, 15), (16, 3, 15), (142, 0, 599)] (q_Pi (fun (z : Int) (f1 : Nat → va_E) => z = 0)) := by
  refine q_ofb (by decide +kernel) hN hT (Nat.le_of_ble_eq_true rfl) ?_
  intro p e s m below meth c ls cx hr hlk hB hl
  have hl : lv_has ls 1 [(0, .ref x)] := hl
  obtain ⟨H, hH⟩ : ∃ H : Heap, H = s.heap := ⟨_, rfl⟩
  obtain ⟨locs, hlocs⟩ : ∃ z : List Loc, z = [] := ⟨_, rfl⟩
  rw [← hH, ← hlocs] at hB
  rw [← hH, ← hlocs]
  refine q_ald_n cx dX11_report_0 rfl (lv_at hl 0 rfl) ?_
  refine q_gX11_47 cx hB hx kx hr5 dX11_report_1 (fun hb29 kb29 => ?_)
  refine q_ald_n cx dX11_report_4 rfl (lv_at hl 0 rfl) ?_
  refine q_gX11_54 cx hB hx kx hr6 dX11_report_5 (fun hb30 kb30 => ?_)
  refine q_cVi (As := [.ref now]) (rest := []) cx hB (fun _ h => h) hN hrep krep (by decide) rfl (m_writeOf0 l g hN hB.2.1 rep hrep krep now hnow know hf7) q_cX11_316 q_dX6_writeOf (by decide) rfl rfl hl.1 rfl (Nat.le_of_ble_eq_true rfl) dX11_report_8 (fun y32 H locs f31 ry32 h33 hF hB => ?_)
  have qy32 := h33
  have z34 : q_z f31 x 9 = 0 := (hF.z hx (by rw [kx]; rfl)).trans hf0
  have z35 : q_z f31 src 1 = 0 := (hF.z hsrc (by rw [ksrc]; rfl)).trans hf1
  have z36 : q_z f31 src 2 = 0 := (hF.z hsrc (by rw [ksrc]; rfl)).trans hf2
  have z37 : q_z f31 src 3 = (-1) := (hF.z hsrc (by rw [ksrc]; rfl)).trans hf3
  have z38 : q_z f31 hist 1 = 0 := (hF.z hhist (by rw [khist]; rfl)).trans hf4
  have z39 : q_z f31 hist 2 = 0 := (hF.z hhist (by rw [khist]; rfl)).trans hf5
  have z40 : q_z f31 now 3 = 0 := (hF.z hnow (by rw [know]; rfl)).trans hf7
  have z41 : q_z f31 now 4 = 0 := (hF.z hnow (by rw [know]; rfl)).trans hf8
  have z42 : q_z f31 now 5 = 0 := (hF.z hnow (by rw [know]; rfl)).trans hf9
  have z43 : q_z f31 now 6 = 12 := (hF.z hnow (by rw [know]; rfl)).trans hf10
  have z44 : q_z f31 now 10 = 3 := (hF.z hnow (by rw [know]; rfl)).trans hf11
  have z45 : q_z f31 now 11 = 0 := (hF.z hnow (by rw [know]; rfl)).trans hf12
  have z46 : q_z f31 now 12 = 0 := (hF.z hnow (by rw [know]; rfl)).trans hf13
  have z47 : q_r f31 x 0 = src := (hF.r hx (by rw [kx]; rfl)).trans hr0
  have z48 : q_r f31 x 1 = rdr := (hF.r hx (by rw [kx]; rfl)).trans hr1
  have z49 : q_r f31 x 2 = scr := (hF.r hx (by rw [kx]; rfl)).trans hr2
  have z50 : q_r f31 x 3 = fc := (hF.r hx (by rw [kx]; rfl)).trans hr3
  have z51 : q_r f31 x 4 = hist := (hF.r hx (by rw [kx]; rfl)).trans hr4
  have z52 : q_r f31 x 5 = rep := (hF.r hx (by rw [kx]; rfl)).trans hr5
  have z53 : q_r f31 x 6 = now := (hF.r hx (by rw [kx]; rfl)).trans hr6
  have z54 : q_r f31 x 7 = dr := (hF.r hx (by rw [kx]; rfl)).trans hr7
  have z55 : q_r f31 x 8 = sv := (hF.r hx (by rw [kx]; rfl)).trans hr8
  have z56 : q_r f31 fc 0 = tr := (hF.r hfc (by rw [kfc]; rfl)).trans hr9
  subst qy32
  refine q_iret cx hr hlk hB dX11_report_11 ⟨by decide, by decide⟩ ?_
  exact rfl
set_option maxHeartbeats 4000000 in
set_option maxRecDepth 100000 in
theorem x_reportBytea (l : Launch) (g : q_G) {K : Nat → Nat} {L : List Nat} (hN : L.Nodup) {f : Nat → va_E} (hT : q_Ty g K L f) (hfl : l.stackTraces = false) (x : Nat) (hx : x ∈ L) (kx : K x = 11) (a0 : Int) (la0 : (-2147483648) ≤ a0) (ua0 : a0 ≤ (-1)) (src : Nat) (hsrc : src ∈ L) (ksrc : K src = 8) (rdr : Nat) (hrdr : rdr ∈ L) (krdr : K rdr = 9) (scr : Nat) (hscr : scr ∈ L) (kscr : K scr = 7) (fc : Nat) (hfc : fc ∈ L) (kfc : K fc = 1) (hist : Nat) (hhist : hist ∈ L) (khist : K hist = 2) (rep : Nat) (hrep : rep ∈ L) (krep : K rep = 6) (now : Nat) (hnow : now ∈ L) (know : K now = 10) (dr : Nat) (hdr : dr ∈ L) (kdr : K dr = 13) (sv : Nat) (hsv : sv ∈ L) (ksv : K sv = 14) (tr : Nat) (htr : tr ∈ L) (ktr : K tr = 15) (hf0 : q_z f x 9 = 0) (hf1 : q_z f src 1 = 0) (hf2 : q_z f src 2 = 0) (hf3 : q_z f src 3 = (-1)) (hf4 : q_z f hist 1 = 0) (hf5 : q_z f hist 2 = 0) (hf6 : q_z f rep 1 = 0) (hf7 : q_z f now 3 = 0) (hf8 : q_z f now 4 = 0) (hf9 : q_z f now 5 = 0) (hf10 : q_z f now 6 = 12) (hf11 : q_z f now 10 = 3) (hf12 : q_z f now 11 = 0) (hf13 : q_z f now 12 = 0) (hr0 : q_r f x 0 = src) (hr1 : q_r f x 1 = rdr) (hr2 : q_r f x 2 = scr) (hr3 : q_r f x 3 = fc) (hr4 : q_r f x 4 = hist) (hr5 : q_r f x 5 = rep) (hr6 : q_r f x 6 = now) (hr7 : q_r f x 7 = dr) (hr8 : q_r f x 8 = sv) (hr9 : q_r f fc 0 = tr) : q_Xt l g K L yX11_reportByte cX11_reportByte 2 (some .int) 6 82 1 6 [.ref x, .int (q_i a0)] f [] (q_Pi (fun (z : Int) (f1 : Nat → va_E) => False)) (fun (E : String) (f1 : Nat → va_E) => E = "java/lang/IndexOutOfBoundsException" ∧ f = f1) := by
  refine q_xofb (by decide +kernel) hN hT (Nat.le_of_ble_eq_true rfl) ?_
  intro p e s m below meth c ls cx hr hlk htab hX hB hl
  have hl : lv_has ls 2 [(0, .ref x), (1, .int (q_i a0))] := hl
  obtain ⟨H, hH⟩ : ∃ H : Heap, H = s.heap := ⟨_, rfl⟩
  obtain ⟨locs, hlocs⟩ : ∃ z : List Loc, z = [] := ⟨_, rfl⟩
  rw [← hH, ← hlocs] at hB
  rw [← hH, ← hlocs]
  refine q_ild_n cx dX11_reportByte_0 rfl (lv_at hl 1 rfl) ?_
  refine q_iflt (tgt := 15) cx ⟨by omega, by omega⟩ dX11_reportByte_1 (by decide) (fun c2 => ?_) (fun c2 => ?_)
  · exact q_throw (text := "no such byte") hfl cx hlk htab hX hB hl.1 (by decide +kernel) q_h1234 q_h159 (by decide +kernel) q_xl145a q_xl145b q_xl145c dX11_reportByte_15 dX11_reportByte_18 (Or.inr ⟨dX11_reportByte_19, dX11_reportByte_22, dX11_reportByte_25⟩) (by decide) (by decide) ⟨rfl, rfl⟩
  · exact absurd c2 (by omega)
set_option maxHeartbeats 4000000 in
set_option maxRecDepth 100000 in
theorem x_reportByteb (l : Launch) (g : q_G) {K : Nat → Nat} {L : List Nat} (hN : L.Nodup) {f : Nat → va_E} (hT : q_Ty g K L f) (hfl : l.stackTraces = false) (x : Nat) (hx : x ∈ L) (kx : K x = 11) (a0 : Int) (la0 : 0 ≤ a0) (ua0 : a0 ≤ 2147483647) (src : Nat) (hsrc : src ∈ L) (ksrc : K src = 8) (rdr : Nat) (hrdr : rdr ∈ L) (krdr : K rdr = 9) (scr : Nat) (hscr : scr ∈ L) (kscr : K scr = 7) (fc : Nat) (hfc : fc ∈ L) (kfc : K fc = 1) (hist : Nat) (hhist : hist ∈ L) (khist : K hist = 2) (rep : Nat) (hrep : rep ∈ L) (krep : K rep = 6) (now : Nat) (hnow : now ∈ L) (know : K now = 10) (dr : Nat) (hdr : dr ∈ L) (kdr : K dr = 13) (sv : Nat) (hsv : sv ∈ L) (ksv : K sv = 14) (tr : Nat) (htr : tr ∈ L) (ktr : K tr = 15) (hf0 : q_z f x 9 = 0) (hf1 : q_z f src 1 = 0) (hf2 : q_z f src 2 = 0) (hf3 : q_z f src 3 = (-1)) (hf4 : q_z f hist 1 = 0) (hf5 : q_z f hist 2 = 0) (hf6 : q_z f rep 1 = 0) (hf7 : q_z f now 3 = 0) (hf8 : q_z f now 4 = 0) (hf9 : q_z f now 5 = 0) (hf10 : q_z f now 6 = 12) (hf11 : q_z f now 10 = 3) (hf12 : q_z f now 11 = 0) (hf13 : q_z f now 12 = 0) (hr0 : q_r f x 0 = src) (hr1 : q_r f x 1 = rdr) (hr2 : q_r f x 2 = scr) (hr3 : q_r f x 3 = fc) (hr4 : q_r f x 4 = hist) (hr5 : q_r f x 5 = rep) (hr6 : q_r f x 6 = now) (hr7 : q_r f x 7 = dr) (hr8 : q_r f x 8 = sv) (hr9 : q_r f fc 0 = tr) : q_Xt l g K L yX11_reportByte cX11_reportByte 2 (some .int) 6 82 1 6 [.ref x, .int (q_i a0)] f [] (q_Pi (fun (z : Int) (f1 : Nat → va_E) => False)) (fun (E : String) (f1 : Nat → va_E) => E = "java/lang/IndexOutOfBoundsException" ∧ f = f1) := by
  refine q_xofb (by decide +kernel) hN hT (Nat.le_of_ble_eq_true rfl) ?_
  intro p e s m below meth c ls cx hr hlk htab hX hB hl
  have hl : lv_has ls 2 [(0, .ref x), (1, .int (q_i a0))] := hl
  obtain ⟨H, hH⟩ : ∃ H : Heap, H = s.heap := ⟨_, rfl⟩
  obtain ⟨locs, hlocs⟩ : ∃ z : List Loc, z = [] := ⟨_, rfl⟩
  rw [← hH, ← hlocs] at hB
  rw [← hH, ← hlocs]
  refine q_ild_n cx dX11_reportByte_0 rfl (lv_at hl 1 rfl) ?_
  refine q_iflt (tgt := 15) cx ⟨by omega, by omega⟩ dX11_reportByte_1 (by decide) (fun c5 => ?_) (fun c5 => ?_)
  · exact absurd c5 (by omega)
  · refine q_ild_n cx dX11_reportByte_4 rfl (lv_at hl 1 rfl) ?_
    refine q_ald_n cx dX11_reportByte_5 rfl (lv_at hl 0 rfl) ?_
    refine q_gX11_47 cx hB hx kx hr5 dX11_reportByte_6 (fun hb6 kb6 => ?_)
    refine q_gX11_319 cx hB hrep krep hf6 dX11_reportByte_9 (fun lb7 ub7 => ?_)
    refine q_iclt (tgt := 26) cx ⟨by omega, by omega⟩ ⟨by decide, by decide⟩ dX11_reportByte_12 (by decide) (fun c8 => ?_) (fun c8 => ?_)
    · exact absurd c8 (by omega)
    · exact q_throw (text := "no such byte") hfl cx hlk htab hX hB hl.1 (by decide +kernel) q_h1234 q_h159 (by decide +kernel) q_xl145a q_xl145b q_xl145c dX11_reportByte_15 dX11_reportByte_18 (Or.inr ⟨dX11_reportByte_19, dX11_reportByte_22, dX11_reportByte_25⟩) (by decide) (by decide) ⟨rfl, rfl⟩
set_option maxHeartbeats 4000000 in
set_option maxRecDepth 100000 in
theorem x_undo (l : Launch) (g : q_G) {K : Nat → Nat} {L : List Nat} (hN : L.Nodup) {f : Nat → va_E} (hT : q_Ty g K L f) (x : Nat) (hx : x ∈ L) (kx : K x = 11) (src : Nat) (hsrc : src ∈ L) (ksrc : K src = 8) (rdr : Nat) (hrdr : rdr ∈ L) (krdr : K rdr = 9) (scr : Nat) (hscr : scr ∈ L) (kscr : K scr = 7) (fc : Nat) (hfc : fc ∈ L) (kfc : K fc = 1) (hist : Nat) (hhist : hist ∈ L) (khist : K hist = 2) (rep : Nat) (hrep : rep ∈ L) (krep : K rep = 6) (now : Nat) (hnow : now ∈ L) (know : K now = 10) (dr : Nat) (hdr : dr ∈ L) (kdr : K dr = 13) (sv : Nat) (hsv : sv ∈ L) (ksv : K sv = 14) (tr : Nat) (htr : tr ∈ L) (ktr : K tr = 15) (hf0 : q_z f x 9 = 0) (hf1 : q_z f src 1 = 0) (hf2 : q_z f src 2 = 0) (hf3 : q_z f src 3 = (-1)) (hf4 : q_z f hist 1 = 0) (hf5 : q_z f hist 2 = 0) (hf6 : q_z f rep 1 = 0) (hf7 : q_z f now 3 = 0) (hf8 : q_z f now 4 = 0) (hf9 : q_z f now 5 = 0) (hf10 : q_z f now 6 = 12) (hf11 : q_z f now 10 = 3) (hf12 : q_z f now 11 = 0) (hf13 : q_z f now 12 = 0) (hr0 : q_r f x 0 = src) (hr1 : q_r f x 1 = rdr) (hr2 : q_r f x 2 = scr) (hr3 : q_r f x 3 = fc) (hr4 : q_r f x 4 = hist) (hr5 : q_r f x 5 = rep) (hr6 : q_r f x 6 = now) (hr7 : q_r f x 7 = dr) (hr8 : q_r f x 8 = sv) (hr9 : q_r f fc 0 = tr) : q_Ct l g K L yX11_undo cX11_undo 1 (some .int) 1 21 [.ref x] f [] (q_Pi (fun (z : Int) (f1 : Nat → va_E) => f = f1 ∧ z = (-1))) := by
  refine q_ofb (by decide +kernel) hN hT (Nat.le_of_ble_eq_true rfl) ?_
  intro p e s m below meth c ls cx hr hlk hB hl
  have hl : lv_has ls 1 [(0, .ref x)] := hl
  obtain ⟨H, hH⟩ : ∃ H : Heap, H = s.heap := ⟨_, rfl⟩
  obtain ⟨locs, hlocs⟩ : ∃ z : List Loc, z = [] := ⟨_, rfl⟩
  rw [← hH, ← hlocs] at hB
  rw [← hH, ← hlocs]
  refine q_ald_n cx dX11_undo_0 rfl (lv_at hl 0 rfl) ?_
  refine q_gX11_40 cx hB hx kx hr4 dX11_undo_1 (fun hb7 kb7 => ?_)
  refine q_ald_n cx dX11_undo_4 rfl (lv_at hl 0 rfl) ?_
  refine q_gX11_54 cx hB hx kx hr6 dX11_undo_5 (fun hb8 kb8 => ?_)
  refine q_cVi (As := [.ref now]) (rest := []) cx hB (fun _ h => h) hN hhist khist (by decide) rfl (m_takeBack0 l g hN hB.2.1 hist hhist khist now hnow know hf5) q_cX11_325 q_dX2_takeBack (by decide) rfl rfl hl.1 rfl (Nat.le_of_ble_eq_true rfl) dX11_undo_8 (fun y10 H locs f9 ry10 h11 hF hB => ?_)
  obtain ⟨rfl, qy10⟩ := h11
  subst qy10
  refine q_ifeq (tgt := 24) cx ⟨by decide, by decide⟩ dX11_undo_11 (by decide) (fun c12 => ?_) (fun c12 => ?_)
  · refine q_iconst cx dX11_undo_24 ?_
    refine q_iret cx hr hlk hB dX11_undo_25 ⟨by decide, by decide⟩ ?_
    exact ⟨rfl, rfl⟩
  · exact absurd c12 (by omega)
set_option maxHeartbeats 4000000 in
set_option maxRecDepth 100000 in
theorem x_save (l : Launch) (g : q_G) {K : Nat → Nat} {L : List Nat} (hN : L.Nodup) {f : Nat → va_E} (hT : q_Ty g K L f) (x : Nat) (hx : x ∈ L) (kx : K x = 11) (src : Nat) (hsrc : src ∈ L) (ksrc : K src = 8) (rdr : Nat) (hrdr : rdr ∈ L) (krdr : K rdr = 9) (scr : Nat) (hscr : scr ∈ L) (kscr : K scr = 7) (fc : Nat) (hfc : fc ∈ L) (kfc : K fc = 1) (hist : Nat) (hhist : hist ∈ L) (khist : K hist = 2) (rep : Nat) (hrep : rep ∈ L) (krep : K rep = 6) (now : Nat) (hnow : now ∈ L) (know : K now = 10) (dr : Nat) (hdr : dr ∈ L) (kdr : K dr = 13) (sv : Nat) (hsv : sv ∈ L) (ksv : K sv = 14) (tr : Nat) (htr : tr ∈ L) (ktr : K tr = 15) (hf0 : q_z f x 9 = 0) (hf1 : q_z f src 1 = 0) (hf2 : q_z f src 2 = 0) (hf3 : q_z f src 3 = (-1)) (hf4 : q_z f hist 1 = 0) (hf5 : q_z f hist 2 = 0) (hf6 : q_z f rep 1 = 0) (hf7 : q_z f now 3 = 0) (hf8 : q_z f now 4 = 0) (hf9 : q_z f now 5 = 0) (hf10 : q_z f now 6 = 12) (hf11 : q_z f now 10 = 3) (hf12 : q_z f now 11 = 0) (hf13 : q_z f now 12 = 0) (hr0 : q_r f x 0 = src) (hr1 : q_r f x 1 = rdr) (hr2 : q_r f x 2 = scr) (hr3 : q_r f x 3 = fc) (hr4 : q_r f x 4 = hist) (hr5 : q_r f x 5 = rep) (hr6 : q_r f x 6 = now) (hr7 : q_r f x 7 = dr) (hr8 : q_r f x 8 = sv) (hr9 : q_r f fc 0 = tr) : q_Ct l g K L yX11_save cX11_save 1 (some .int) 1 22 [.ref x] f [(11, 9, 9), (8, 1, 9), (9, 0, 2), (7, 1, 4), (2, 1, 2), (6, 1, 1), (10, 3, 15), (13, 3, 15), (14, 3, 15), (15, 3, 15), (16, 3, 15), (142, 0, 599)] (q_Pi (fun (z : Int) (f1 : Nat → va_E) => z = 0)) := by
  refine q_ofb (by decide +kernel) hN hT (Nat.le_of_ble_eq_true rfl) ?_
  intro p e s m below meth c ls cx hr hlk hB hl
  have hl : lv_has ls 1 [(0, .ref x)] := hl
  obtain ⟨H, hH⟩ : ∃ H : Heap, H = s.heap := ⟨_, rfl⟩
  obtain ⟨locs, hlocs⟩ : ∃ z : List Loc, z = [] := ⟨_, rfl⟩
  rw [← hH, ← hlocs] at hB
  rw [← hH, ← hlocs]
  refine q_ald_n cx dX11_save_0 rfl (lv_at hl 0 rfl) ?_
  refine q_gX11_61 cx hB hx kx hr8 dX11_save_1 (fun hb71 kb71 => ?_)
  refine q_ald_n cx dX11_save_4 rfl (lv_at hl 0 rfl) ?_
  refine q_gX11_54 cx hB hx kx hr6 dX11_save_5 (fun hb72 kb72 => ?_)
  refine q_cVv (As := [.ref now]) (rest := []) cx hB (fun _ h => h) hN hsv ksv (by decide) rfl (m_copy0_20 l g hN hB.2.1 sv hsv ksv now hnow know hf7 hf8 hf9 hf10 hf11 hf12 hf13) q_cX11_94 q_dX10_copyFrom (by decide) rfl rfl hl.1 rfl (Nat.le_of_ble_eq_true rfl) dX11_save_8 (fun H locs f73 h75 hF hB => ?_)
  obtain ⟨z76, z77, z78, z79, z80, z81, z82⟩ := h75
  have z83 : q_z f73 x 9 = 0 := (hF.z hx (by rw [kx]; rfl)).trans hf0
  have z84 : q_z f73 src 1 = 0 := (hF.z hsrc (by rw [ksrc]; rfl)).trans hf1
  have z85 : q_z f73 src 2 = 0 := (hF.z hsrc (by rw [ksrc]; rfl)).trans hf2
  have z86 : q_z f73 src 3 = (-1) := (hF.z hsrc (by rw [ksrc]; rfl)).trans hf3
  have z87 : q_z f73 hist 1 = 0 := (hF.z hhist (by rw [khist]; rfl)).trans hf4
  have z88 : q_z f73 hist 2 = 0 := (hF.z hhist (by rw [khist]; rfl)).trans hf5
  have z89 : q_z f73 rep 1 = 0 := (hF.z hrep (by rw [krep]; rfl)).trans hf6
  have z90 : q_z f73 now 3 = 0 := (hF.z hnow (by rw [know]; rfl)).trans hf7
  have z91 : q_z f73 now 4 = 0 := (hF.z hnow (by rw [know]; rfl)).trans hf8
  have z92 : q_z f73 now 5 = 0 := (hF.z hnow (by rw [know]; rfl)).trans hf9
  have z93 : q_z f73 now 6 = 12 := (hF.z hnow (by rw [know]; rfl)).trans hf10
  have z94 : q_z f73 now 10 = 3 := (hF.z hnow (by rw [know]; rfl)).trans hf11
  have z95 : q_z f73 now 11 = 0 := (hF.z hnow (by rw [know]; rfl)).trans hf12
  have z96 : q_z f73 now 12 = 0 := (hF.z hnow (by rw [know]; rfl)).trans hf13
  have z97 : q_r f73 x 0 = src := (hF.r hx (by rw [kx]; rfl)).trans hr0
  have z98 : q_r f73 x 1 = rdr := (hF.r hx (by rw [kx]; rfl)).trans hr1
  have z99 : q_r f73 x 2 = scr := (hF.r hx (by rw [kx]; rfl)).trans hr2
  have z100 : q_r f73 x 3 = fc := (hF.r hx (by rw [kx]; rfl)).trans hr3
  have z101 : q_r f73 x 4 = hist := (hF.r hx (by rw [kx]; rfl)).trans hr4
  have z102 : q_r f73 x 5 = rep := (hF.r hx (by rw [kx]; rfl)).trans hr5
  have z103 : q_r f73 x 6 = now := (hF.r hx (by rw [kx]; rfl)).trans hr6
  have z104 : q_r f73 x 7 = dr := (hF.r hx (by rw [kx]; rfl)).trans hr7
  have z105 : q_r f73 x 8 = sv := (hF.r hx (by rw [kx]; rfl)).trans hr8
  have z106 : q_r f73 fc 0 = tr := (hF.r hfc (by rw [kfc]; rfl)).trans hr9
  refine q_ald_n cx dX11_save_11 rfl (lv_at hl 0 rfl) ?_
  refine q_iconst cx dX11_save_12 ?_
  refine q_pX11_329 cx hB hx kx ⟨by decide, by decide⟩ (by decide) (by decide) rfl dX11_save_13 (fun H locs f107 ef107 z108 hB => ?_)
  have z109 : q_z f107 src 1 = 0 := by rw [ef107, q_setz (Or.inr (by decide))]; exact z84
  have z110 : q_z f107 src 2 = 0 := by rw [ef107, q_setz (Or.inr (by decide))]; exact z85
  have z111 : q_z f107 src 3 = (-1) := by rw [ef107, q_setz (Or.inr (by decide))]; exact z86
  have z112 : q_z f107 hist 1 = 0 := by rw [ef107, q_setz (Or.inr (by decide))]; exact z87
  have z113 : q_z f107 hist 2 = 0 := by rw [ef107, q_setz (Or.inr (by decide))]; exact z88
  have z114 : q_z f107 rep 1 = 0 := by rw [ef107, q_setz (Or.inr (by decide))]; exact z89
  have z115 : q_z f107 now 3 = 0 := by rw [ef107, q_setz (Or.inr (by decide))]; exact z90
  have z116 : q_z f107 now 4 = 0 := by rw [ef107, q_setz (Or.inr (by decide))]; exact z91
  have z117 : q_z f107 now 5 = 0 := by rw [ef107, q_setz (Or.inr (by decide))]; exact z92
  have z118 : q_z f107 now 6 = 12 := by rw [ef107, q_setz (Or.inr (by decide))]; exact z93
  have z119 : q_z f107 now 10 = 3 := by rw [ef107, q_setz (Or.inr (by decide))]; exact z94
  have z120 : q_z f107 now 11 = 0 := by rw [ef107, q_setz (Or.inr (by decide))]; exact z95
  have z121 : q_z f107 now 12 = 0 := by rw [ef107, q_setz (Or.inr (by decide))]; exact z96
  have z122 : q_z f107 sv 3 = 0 := by rw [ef107, q_setz (Or.inr (by decide))]; exact z76
  have z123 : q_z f107 sv 4 = 0 := by rw [ef107, q_setz (Or.inr (by decide))]; exact z77
  have z124 : q_z f107 sv 5 = 0 := by rw [ef107, q_setz (Or.inr (by decide))]; exact z78
  have z125 : q_z f107 sv 6 = 12 := by rw [ef107, q_setz (Or.inr (by decide))]; exact z79
  have z126 : q_z f107 sv 10 = 3 := by rw [ef107, q_setz (Or.inr (by decide))]; exact z80
  have z127 : q_z f107 sv 11 = 0 := by rw [ef107, q_setz (Or.inr (by decide))]; exact z81
  have z128 : q_z f107 sv 12 = 0 := by rw [ef107, q_setz (Or.inr (by decide))]; exact z82
  have z129 : q_r f107 x 0 = src := by rw [ef107, q_setr (Or.inr (by decide))]; exact z97
  have z130 : q_r f107 x 1 = rdr := by rw [ef107, q_setr (Or.inr (by decide))]; exact z98
  have z131 : q_r f107 x 2 = scr := by rw [ef107, q_setr (Or.inr (by decide))]; exact z99
  have z132 : q_r f107 x 3 = fc := by rw [ef107, q_setr (Or.inr (by decide))]; exact z100
  have z133 : q_r f107 x 4 = hist := by rw [ef107, q_setr (Or.inr (by decide))]; exact z101
  have z134 : q_r f107 x 5 = rep := by rw [ef107, q_setr (Or.inr (by decide))]; exact z102
  have z135 : q_r f107 x 6 = now := by rw [ef107, q_setr (Or.inr (by decide))]; exact z103
  have z136 : q_r f107 x 7 = dr := by rw [ef107, q_setr (Or.inr (by decide))]; exact z104
  have z137 : q_r f107 x 8 = sv := by rw [ef107, q_setr (Or.inr (by decide))]; exact z105
  have z138 : q_r f107 fc 0 = tr := by rw [ef107, q_setr (Or.inr (by decide))]; exact z106
  refine q_ald_n cx dX11_save_16 rfl (lv_at hl 0 rfl) ?_
  refine q_gX11_54 cx hB hx kx z135 dX11_save_17 (fun hb139 kb139 => ?_)
  refine q_gX11_333 cx hB hnow know z120 dX11_save_20 (fun lb140 ub140 => ?_)
  refine q_iret cx hr hlk hB dX11_save_23 ⟨by decide, by decide⟩ ?_
  exact rfl
set_option maxHeartbeats 4000000 in
set_option maxRecDepth 100000 in
theorem x_restore (l : Launch) (g : q_G) {K : Nat → Nat} {L : List Nat} (hN : L.Nodup) {f : Nat → va_E} (hT : q_Ty g K L f) (hfl : l.stackTraces = false) (x : Nat) (hx : x ∈ L) (kx : K x = 11) (src : Nat) (hsrc : src ∈ L) (ksrc : K src = 8) (rdr : Nat) (hrdr : rdr ∈ L) (krdr : K rdr = 9) (scr : Nat) (hscr : scr ∈ L) (kscr : K scr = 7) (fc : Nat) (hfc : fc ∈ L) (kfc : K fc = 1) (hist : Nat) (hhist : hist ∈ L) (khist : K hist = 2) (rep : Nat) (hrep : rep ∈ L) (krep : K rep = 6) (now : Nat) (hnow : now ∈ L) (know : K now = 10) (dr : Nat) (hdr : dr ∈ L) (kdr : K dr = 13) (sv : Nat) (hsv : sv ∈ L) (ksv : K sv = 14) (tr : Nat) (htr : tr ∈ L) (ktr : K tr = 15) (hf0 : q_z f x 9 = 0) (hf1 : q_z f src 1 = 0) (hf2 : q_z f src 2 = 0) (hf3 : q_z f src 3 = (-1)) (hf4 : q_z f hist 1 = 0) (hf5 : q_z f hist 2 = 0) (hf6 : q_z f rep 1 = 0) (hf7 : q_z f now 3 = 0) (hf8 : q_z f now 4 = 0) (hf9 : q_z f now 5 = 0) (hf10 : q_z f now 6 = 12) (hf11 : q_z f now 10 = 3) (hf12 : q_z f now 11 = 0) (hf13 : q_z f now 12 = 0) (hr0 : q_r f x 0 = src) (hr1 : q_r f x 1 = rdr) (hr2 : q_r f x 2 = scr) (hr3 : q_r f x 3 = fc) (hr4 : q_r f x 4 = hist) (hr5 : q_r f x 5 = rep) (hr6 : q_r f x 6 = now) (hr7 : q_r f x 7 = dr) (hr8 : q_r f x 8 = sv) (hr9 : q_r f fc 0 = tr) : q_Xt l g K L yX11_restore cX11_restore 1 (some .int) 6 82 1 6 [.ref x] f [] (q_Pi (fun (z : Int) (f1 : Nat → va_E) => False)) (fun (E : String) (f1 : Nat → va_E) => E = "java/lang/IllegalStateException" ∧ f = f1) := by
  refine q_xofb (by decide +kernel) hN hT (Nat.le_of_ble_eq_true rfl) ?_
  intro p e s m below meth c ls cx hr hlk htab hX hB hl
  have hl : lv_has ls 1 [(0, .ref x)] := hl
  obtain ⟨H, hH⟩ : ∃ H : Heap, H = s.heap := ⟨_, rfl⟩
  obtain ⟨locs, hlocs⟩ : ∃ z : List Loc, z = [] := ⟨_, rfl⟩
  rw [← hH, ← hlocs] at hB
  rw [← hH, ← hlocs]
  refine q_ald_n cx dX11_restore_0 rfl (lv_at hl 0 rfl) ?_
  refine q_gX11_329 cx hB hx kx hf0 dX11_restore_1 (fun lb3 ub3 => ?_)
  refine q_ifne (tgt := 18) cx ⟨by decide, by decide⟩ dX11_restore_4 (by decide) (fun c4 => ?_) (fun c4 => ?_)
  · exact absurd c4 (by omega)
  · exact q_throw (text := "nothing was saved") hfl cx hlk htab hX hB hl.1 (by decide +kernel) q_h801 q_h151 (by decide +kernel) q_xl72a q_xl72b q_xl72c dX11_restore_7 dX11_restore_10 (Or.inr ⟨dX11_restore_11, dX11_restore_14, dX11_restore_17⟩) (by decide) (by decide) ⟨rfl, rfl⟩
