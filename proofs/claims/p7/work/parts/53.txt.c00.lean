set_option maxHeartbeats 4000000 in
set_option maxRecDepth 100000 in
theorem g_hasRoom_a (l : Launch) (g : q_G) {K : Nat → Nat} {L : List Nat} (hN : L.Nodup) {f : Nat → va_E} (hT : q_Ty g K L f) (v : Nat) (hv : v ∈ L) (kv : K v = 8) (xn : Int) (lxn : 0 ≤ xn) (uxn : xn ≤ 580) (hf0 : q_is (q_z f v 1) xn) : q_Ct l g K L yX8_hasRoomForFeed cX8_hasRoomForFeed 1 (some .boolean) 0 0 [.ref v] f [] (q_Pi (fun (z : Int) (f1 : Nat → va_E) => f = f1 ∧ z = 1)) := by
  refine q_ofb (by decide +kernel) hN hT (Nat.le_of_ble_eq_true rfl) ?_
  intro p e s m below meth c ls cx hr hlk hB hl
  have hl : lv_has ls 1 [(0, .ref v)] := hl
  obtain ⟨H, hH⟩ : ∃ H : Heap, H = s.heap := ⟨_, rfl⟩
  obtain ⟨locs, hlocs⟩ : ∃ z : List Loc, z = [] := ⟨_, rfl⟩
  rw [← hH, ← hlocs] at hB
  rw [← hH, ← hlocs]
  refine q_ald_n cx dX8_hasRoomForFeed_0 rfl (lv_at hl 0 rfl) ?_
  refine q_gX8_19 cx hB hv kv hf0 dX8_hasRoomForFeed_1 (fun lb3 ub3 => ?_)
  refine q_bipush cx dX8_hasRoomForFeed_4 rfl ?_
  refine q_iadd cx dX8_hasRoomForFeed_6 ?_
  refine q_sipush cx dX8_hasRoomForFeed_7 rfl ?_
  refine q_icgt (tgt := 17) cx ⟨by omega, by omega⟩ ⟨by decide, by decide⟩ dX8_hasRoomForFeed_10 (by decide) (fun c4 => ?_) (fun c4 => ?_)
  · exact absurd c4 (by omega)
  · refine q_iconst cx dX8_hasRoomForFeed_13 ?_
    refine lv_goto (tgt := 18) cx.1 cx.2.1 dX8_hasRoomForFeed_14 (by decide) ?_
    refine q_zret cx hr hlk hB dX8_hasRoomForFeed_18 (by decide) (by decide) ?_
    exact ⟨rfl, rfl⟩
set_option maxHeartbeats 4000000 in
set_option maxRecDepth 100000 in
theorem g_hasRoom_b (l : Launch) (g : q_G) {K : Nat → Nat} {L : List Nat} (hN : L.Nodup) {f : Nat → va_E} (hT : q_Ty g K L f) (v : Nat) (hv : v ∈ L) (kv : K v = 8) (xn : Int) (lxn : 581 ≤ xn) (uxn : xn ≤ 600) (hf0 : q_is (q_z f v 1) xn) : q_Ct l g K L yX8_hasRoomForFeed cX8_hasRoomForFeed 1 (some .boolean) 0 0 [.ref v] f [] (q_Pi (fun (z : Int) (f1 : Nat → va_E) => f = f1 ∧ z = 0)) := by
  refine q_ofb (by decide +kernel) hN hT (Nat.le_of_ble_eq_true rfl) ?_
  intro p e s m below meth c ls cx hr hlk hB hl
  have hl : lv_has ls 1 [(0, .ref v)] := hl
  obtain ⟨H, hH⟩ : ∃ H : Heap, H = s.heap := ⟨_, rfl⟩
  obtain ⟨locs, hlocs⟩ : ∃ z : List Loc, z = [] := ⟨_, rfl⟩
  rw [← hH, ← hlocs] at hB
  rw [← hH, ← hlocs]
  refine q_ald_n cx dX8_hasRoomForFeed_0 rfl (lv_at hl 0 rfl) ?_
  refine q_gX8_19 cx hB hv kv hf0 dX8_hasRoomForFeed_1 (fun lb3 ub3 => ?_)
  refine q_bipush cx dX8_hasRoomForFeed_4 rfl ?_
  refine q_iadd cx dX8_hasRoomForFeed_6 ?_
  refine q_sipush cx dX8_hasRoomForFeed_7 rfl ?_
  refine q_icgt (tgt := 17) cx ⟨by omega, by omega⟩ ⟨by decide, by decide⟩ dX8_hasRoomForFeed_10 (by decide) (fun c4 => ?_) (fun c4 => ?_)
  · refine q_iconst cx dX8_hasRoomForFeed_17 ?_
    refine q_zret cx hr hlk hB dX8_hasRoomForFeed_18 (by decide) (by decide) ?_
    exact ⟨rfl, rfl⟩
  · exact absurd c4 (by omega)
set_option maxHeartbeats 4000000 in
set_option maxRecDepth 100000 in
theorem g_append (l : Launch) (g : q_G) {K : Nat → Nat} {L : List Nat} (hN : L.Nodup) {f : Nat → va_E} (hT : q_Ty g K L f) (v : Nat) (hv : v ∈ L) (kv : K v = 8) (p0 : Int) (lp0 : (-2147483648) ≤ p0) (up0 : p0 ≤ 2147483647) (xn : Int) (lxn : 0 ≤ xn) (uxn : xn ≤ 596) (hf0 : q_is (q_z f v 1) xn) : q_Ct l g K L yX8_append cX8_append 3 none 0 0 [.ref v, .int (q_i p0)] f [(8, 1, 1), (142, 0, 599)] (q_Pv (fun (f1 : Nat → va_E) => q_is (q_z f1 v 1) (xn + 4))) := by
  refine q_ofb (by decide +kernel) hN hT (Nat.le_of_ble_eq_true rfl) ?_
  intro p e s m below meth c ls cx hr hlk hB hl
  have hl : lv_has ls 3 [(0, .ref v), (1, .int (q_i p0))] := hl
  obtain ⟨H, hH⟩ : ∃ H : Heap, H = s.heap := ⟨_, rfl⟩
  obtain ⟨locs, hlocs⟩ : ∃ z : List Loc, z = [] := ⟨_, rfl⟩
  rw [← hH, ← hlocs] at hB
  rw [← hH, ← hlocs]
  refine q_bipush cx dX8_append_0 rfl ?_
  refine lv_istore_n (lv' := [(2, .int (q_i 24)), (0, .ref v), (1, .int (q_i p0))]) cx.1 cx.2.1 dX8_append_2 rfl hl (by decide) rfl (fun ls hl => ?_)
  refine q_ild_n cx dX8_append_3 rfl (lv_at hl 0 rfl) ?_
  refine q_iflt (tgt := 55) cx ⟨by decide, by decide⟩ dX8_append_4 (by decide) (fun c75 => ?_) (fun c75 => ?_)
  · exact absurd c75 (by omega)
  · refine q_ald_n cx dX8_append_7 rfl (lv_at hl 1 rfl) ?_
    refine q_gX8_19 cx hB hv kv hf0 dX8_append_8 (fun lb76 ub76 => ?_)
    refine q_iflt (tgt := 49) cx ⟨by omega, by omega⟩ dX8_append_11 (by decide) (fun c77 => ?_) (fun c77 => ?_)
    · exact absurd c77 (by omega)
    · refine q_ald_n cx dX8_append_14 rfl (lv_at hl 1 rfl) ?_
      refine q_gX8_19 cx hB hv kv hf0 dX8_append_15 (fun lb78 ub78 => ?_)
      refine q_ald_n cx dX8_append_18 rfl (lv_at hl 1 rfl) ?_
      obtain ⟨p79, ep79⟩ : ∃ zz, q_ir (q_r f v 0) zz := ⟨_, q_irr _⟩
      refine q_gX8_11 cx hB hv kv ep79 dX8_append_19 (fun hb80 kb80 => ?_)
      refine q_alen (n := 600) cx hB hb80 kb80 (by decide) rfl 0 rfl rfl dX8_append_22 ?_
      refine q_icge (tgt := 49) cx ⟨by omega, by omega⟩ ⟨by decide, by decide⟩ dX8_append_23 (by decide) (fun c81 => ?_) (fun c81 => ?_)
      · exact absurd c81 (by omega)
      · refine q_ald_n cx dX8_append_26 rfl (lv_at hl 1 rfl) ?_
        refine q_gX8_11 cx hB hv kv ep79 dX8_append_27 (fun hb82 kb82 => ?_)
        refine q_ald_n cx dX8_append_30 rfl (lv_at hl 1 rfl) ?_
        refine q_gX8_19 cx hB hv kv hf0 dX8_append_31 (fun lb83 ub83 => ?_)
        refine q_ild_n cx dX8_append_34 rfl (lv_at hl 2 rfl) ?_
        refine q_ild_n cx dX8_append_35 rfl (lv_at hl 0 rfl) ?_
        refine q_ishr cx dX8_append_36 (fun y84 ry84 ey84 => ?_)
        refine q_i2b cx dX8_append_37 (fun y85 ly85 uy85 ey85 => ?_)
        refine q_bast (lo := (-128)) (hi := 127) (n := 600) cx hB hb80 kb80 (by decide) rfl rfl (by omega) (by omega) (by decide) rfl ⟨by omega, by omega⟩ (by omega) (by omega) (by omega) (by omega) (q_inWi (lo := 0) (hi := 596) (by decide) (by omega) (by omega)) dX8_append_38 (fun H locs f86 ef86 z87 hB => ?_)
        have z88 : q_is (q_z f86 v 1) xn := by rw [ef86, q_setz (Or.inl (fun q => by rw [q, kb80] at kv; exact absurd kv (by decide)))]; exact hf0
        have z89 : q_ir (q_r f86 v 0) p79 := by rw [ef86, q_setr (Or.inl (fun q => by rw [q, kb80] at kv; exact absurd kv (by decide)))]; exact ep79
        refine q_ald_n cx dX8_append_39 rfl (lv_at hl 1 rfl) ?_
        refine lv_dup cx.1 cx.2.1 dX8_append_40 rfl ?_
        refine q_gX8_19 cx hB hv kv z88 dX8_append_41 (fun lb90 ub90 => ?_)
        refine q_iconst cx dX8_append_44 ?_
        refine q_iadd cx dX8_append_45 ?_
        refine q_pX8_19 cx hB hv kv ⟨by omega, by omega⟩ (by omega) (by omega) rfl dX8_append_46 (fun H locs f91 ef91 z92 hB => ?_)
        have z93 : q_ir (q_r f91 v 0) p79 := by rw [ef91, q_setr (Or.inr (by decide))]; exact z89
        refine q_iinc (lv' := [(2, .int (q_i (24 + (-8)))), (0, .ref v), (1, .int (q_i p0))]) cx dX8_append_49 hl (k := 0) rfl (by decide) rfl (fun ls hl => ?_)
        refine lv_goto (tgt := 3) cx.1 cx.2.1 dX8_append_52 (by decide) ?_
        refine q_ild_n cx dX8_append_3 rfl (lv_at hl 0 rfl) ?_
        refine q_iflt (tgt := 55) cx ⟨by decide, by decide⟩ dX8_append_4 (by decide) (fun c94 => ?_) (fun c94 => ?_)
        · exact absurd c94 (by omega)
        · refine q_ald_n cx dX8_append_7 rfl (lv_at hl 1 rfl) ?_
          refine q_gX8_19 cx hB hv kv z92 dX8_append_8 (fun lb95 ub95 => ?_)
          refine q_iflt (tgt := 49) cx ⟨by omega, by omega⟩ dX8_append_11 (by decide) (fun c96 => ?_) (fun c96 => ?_)
          · exact absurd c96 (by omega)
          · refine q_ald_n cx dX8_append_14 rfl (lv_at hl 1 rfl) ?_
            refine q_gX8_19 cx hB hv kv z92 dX8_append_15 (fun lb97 ub97 => ?_)
            refine q_ald_n cx dX8_append_18 rfl (lv_at hl 1 rfl) ?_
            refine q_gX8_11 cx hB hv kv z93 dX8_append_19 (fun hb98 kb98 => ?_)
            refine q_alen (n := 600) cx hB hb80 kb80 (by decide) rfl 0 rfl rfl dX8_append_22 ?_
            refine q_icge (tgt := 49) cx ⟨by omega, by omega⟩ ⟨by decide, by decide⟩ dX8_append_23 (by decide) (fun c99 => ?_) (fun c99 => ?_)
            · exact absurd c99 (by omega)
            · refine q_ald_n cx dX8_append_26 rfl (lv_at hl 1 rfl) ?_
              refine q_gX8_11 cx hB hv kv z93 dX8_append_27 (fun hb100 kb100 => ?_)
              refine q_ald_n cx dX8_append_30 rfl (lv_at hl 1 rfl) ?_
              refine q_gX8_19 cx hB hv kv z92 dX8_append_31 (fun lb101 ub101 => ?_)
              refine q_ild_n cx dX8_append_34 rfl (lv_at hl 2 rfl) ?_
              refine q_ild_n cx dX8_append_35 rfl (lv_at hl 0 rfl) ?_
              refine q_ishr cx dX8_append_36 (fun y102 ry102 ey102 => ?_)
              refine q_i2b cx dX8_append_37 (fun y103 ly103 uy103 ey103 => ?_)
              refine q_bast (lo := (-128)) (hi := 127) (n := 600) cx hB hb80 kb80 (by decide) rfl rfl (by omega) (by omega) (by decide) rfl ⟨by omega, by omega⟩ (by omega) (by omega) (by omega) (by omega) (q_inWi (lo := 1) (hi := 597) (by decide) (by omega) (by omega)) dX8_append_38 (fun H locs f104 ef104 z105 hB => ?_)
              have z106 : q_is (q_z f104 v 1) (xn + 1) := by rw [ef104, q_setz (Or.inl (fun q => by rw [q, kb80] at kv; exact absurd kv (by decide)))]; exact z92
              have z107 : q_ir (q_r f104 v 0) p79 := by rw [ef104, q_setr (Or.inl (fun q => by rw [q, kb80] at kv; exact absurd kv (by decide)))]; exact z93
              refine q_ald_n cx dX8_append_39 rfl (lv_at hl 1 rfl) ?_
              refine lv_dup cx.1 cx.2.1 dX8_append_40 rfl ?_
              refine q_gX8_19 cx hB hv kv z106 dX8_append_41 (fun lb108 ub108 => ?_)
              refine q_iconst cx dX8_append_44 ?_
              refine q_iadd cx dX8_append_45 ?_
              refine q_pX8_19 cx hB hv kv ⟨by omega, by omega⟩ (by omega) (by omega) rfl dX8_append_46 (fun H locs f109 ef109 z110 hB => ?_)
              have z111 : q_ir (q_r f109 v 0) p79 := by rw [ef109, q_setr (Or.inr (by decide))]; exact z107
              refine q_iinc (lv' := [(2, .int (q_i ((24 + (-8)) + (-8)))), (0, .ref v), (1, .int (q_i p0))]) cx dX8_append_49 hl (k := 0) rfl (by decide) rfl (fun ls hl => ?_)
              refine lv_goto (tgt := 3) cx.1 cx.2.1 dX8_append_52 (by decide) ?_
              refine q_ild_n cx dX8_append_3 rfl (lv_at hl 0 rfl) ?_
              refine q_iflt (tgt := 55) cx ⟨by decide, by decide⟩ dX8_append_4 (by decide) (fun c112 => ?_) (fun c112 => ?_)
              · exact absurd c112 (by omega)
              · refine q_ald_n cx dX8_append_7 rfl (lv_at hl 1 rfl) ?_
                refine q_gX8_19 cx hB hv kv z110 dX8_append_8 (fun lb113 ub113 => ?_)
                refine q_iflt (tgt := 49) cx ⟨by omega, by omega⟩ dX8_append_11 (by decide) (fun c114 => ?_) (fun c114 => ?_)
                · exact absurd c114 (by omega)
                · refine q_ald_n cx dX8_append_14 rfl (lv_at hl 1 rfl) ?_
                  refine q_gX8_19 cx hB hv kv z110 dX8_append_15 (fun lb115 ub115 => ?_)
                  refine q_ald_n cx dX8_append_18 rfl (lv_at hl 1 rfl) ?_
                  refine q_gX8_11 cx hB hv kv z111 dX8_append_19 (fun hb116 kb116 => ?_)
                  refine q_alen (n := 600) cx hB hb80 kb80 (by decide) rfl 0 rfl rfl dX8_append_22 ?_
                  refine q_icge (tgt := 49) cx ⟨by omega, by omega⟩ ⟨by decide, by decide⟩ dX8_append_23 (by decide) (fun c117 => ?_) (fun c117 => ?_)
                  · exact absurd c117 (by omega)
                  · refine q_ald_n cx dX8_append_26 rfl (lv_at hl 1 rfl) ?_
                    refine q_gX8_11 cx hB hv kv z111 dX8_append_27 (fun hb118 kb118 => ?_)
                    refine q_ald_n cx dX8_append_30 rfl (lv_at hl 1 rfl) ?_
                    refine q_gX8_19 cx hB hv kv z110 dX8_append_31 (fun lb119 ub119 => ?_)
                    refine q_ild_n cx dX8_append_34 rfl (lv_at hl 2 rfl) ?_
                    refine q_ild_n cx dX8_append_35 rfl (lv_at hl 0 rfl) ?_
                    refine q_ishr cx dX8_append_36 (fun y120 ry120 ey120 => ?_)
                    refine q_i2b cx dX8_append_37 (fun y121 ly121 uy121 ey121 => ?_)
                    refine q_bast (lo := (-128)) (hi := 127) (n := 600) cx hB hb80 kb80 (by decide) rfl rfl (by omega) (by omega) (by decide) rfl ⟨by omega, by omega⟩ (by omega) (by omega) (by omega) (by omega) (q_inWi (lo := 2) (hi := 598) (by decide) (by omega) (by omega)) dX8_append_38 (fun H locs f122 ef122 z123 hB => ?_)
                    have z124 : q_is (q_z f122 v 1) ((xn + 1) + 1) := by rw [ef122, q_setz (Or.inl (fun q => by rw [q, kb80] at kv; exact absurd kv (by decide)))]; exact z110
                    have z125 : q_ir (q_r f122 v 0) p79 := by rw [ef122, q_setr (Or.inl (fun q => by rw [q, kb80] at kv; exact absurd kv (by decide)))]; exact z111
                    refine q_ald_n cx dX8_append_39 rfl (lv_at hl 1 rfl) ?_
                    refine lv_dup cx.1 cx.2.1 dX8_append_40 rfl ?_
                    refine q_gX8_19 cx hB hv kv z124 dX8_append_41 (fun lb126 ub126 => ?_)
                    refine q_iconst cx dX8_append_44 ?_
                    refine q_iadd cx dX8_append_45 ?_
                    refine q_pX8_19 cx hB hv kv ⟨by omega, by omega⟩ (by omega) (by omega) rfl dX8_append_46 (fun H locs f127 ef127 z128 hB => ?_)
                    have z129 : q_ir (q_r f127 v 0) p79 := by rw [ef127, q_setr (Or.inr (by decide))]; exact z125
                    refine q_iinc (lv' := [(2, .int (q_i (((24 + (-8)) + (-8)) + (-8)))), (0, .ref v), (1, .int (q_i p0))]) cx dX8_append_49 hl (k := 0) rfl (by decide) rfl (fun ls hl => ?_)
                    refine lv_goto (tgt := 3) cx.1 cx.2.1 dX8_append_52 (by decide) ?_
                    refine q_ild_n cx dX8_append_3 rfl (lv_at hl 0 rfl) ?_
                    refine q_iflt (tgt := 55) cx ⟨by decide, by decide⟩ dX8_append_4 (by decide) (fun c130 => ?_) (fun c130 => ?_)
                    · exact absurd c130 (by omega)
                    · refine q_ald_n cx dX8_append_7 rfl (lv_at hl 1 rfl) ?_
                      refine q_gX8_19 cx hB hv kv z128 dX8_append_8 (fun lb131 ub131 => ?_)
                      refine q_iflt (tgt := 49) cx ⟨by omega, by omega⟩ dX8_append_11 (by decide) (fun c132 => ?_) (fun c132 => ?_)
                      · exact absurd c132 (by omega)
                      · refine q_ald_n cx dX8_append_14 rfl (lv_at hl 1 rfl) ?_
                        refine q_gX8_19 cx hB hv kv z128 dX8_append_15 (fun lb133 ub133 => ?_)
                        refine q_ald_n cx dX8_append_18 rfl (lv_at hl 1 rfl) ?_
                        refine q_gX8_11 cx hB hv kv z129 dX8_append_19 (fun hb134 kb134 => ?_)
                        refine q_alen (n := 600) cx hB hb80 kb80 (by decide) rfl 0 rfl rfl dX8_append_22 ?_
                        refine q_icge (tgt := 49) cx ⟨by omega, by omega⟩ ⟨by decide, by decide⟩ dX8_append_23 (by decide) (fun c135 => ?_) (fun c135 => ?_)
                        · exact absurd c135 (by omega)
                        · refine q_ald_n cx dX8_append_26 rfl (lv_at hl 1 rfl) ?_
                          refine q_gX8_11 cx hB hv kv z129 dX8_append_27 (fun hb136 kb136 => ?_)
                          refine q_ald_n cx dX8_append_30 rfl (lv_at hl 1 rfl) ?_
                          refine q_gX8_19 cx hB hv kv z128 dX8_append_31 (fun lb137 ub137 => ?_)
                          refine q_ild_n cx dX8_append_34 rfl (lv_at hl 2 rfl) ?_
                          refine q_ild_n cx dX8_append_35 rfl (lv_at hl 0 rfl) ?_
                          refine q_ishr cx dX8_append_36 (fun y138 ry138 ey138 => ?_)
                          refine q_i2b cx dX8_append_37 (fun y139 ly139 uy139 ey139 => ?_)
                          refine q_bast (lo := (-128)) (hi := 127) (n := 600) cx hB hb80 kb80 (by decide) rfl rfl (by omega) (by omega) (by decide) rfl ⟨by omega, by omega⟩ (by omega) (by omega) (by omega) (by omega) (q_inWi (lo := 3) (hi := 599) (by decide) (by omega) (by omega)) dX8_append_38 (fun H locs f140 ef140 z141 hB => ?_)
                          have z142 : q_is (q_z f140 v 1) (((xn + 1) + 1) + 1) := by rw [ef140, q_setz (Or.inl (fun q => by rw [q, kb80] at kv; exact absurd kv (by decide)))]; exact z128
                          have z143 : q_ir (q_r f140 v 0) p79 := by rw [ef140, q_setr (Or.inl (fun q => by rw [q, kb80] at kv; exact absurd kv (by decide)))]; exact z129
                          refine q_ald_n cx dX8_append_39 rfl (lv_at hl 1 rfl) ?_
                          refine lv_dup cx.1 cx.2.1 dX8_append_40 rfl ?_
                          refine q_gX8_19 cx hB hv kv z142 dX8_append_41 (fun lb144 ub144 => ?_)
                          refine q_iconst cx dX8_append_44 ?_
                          refine q_iadd cx dX8_append_45 ?_
                          refine q_pX8_19 cx hB hv kv ⟨by omega, by omega⟩ (by omega) (by omega) rfl dX8_append_46 (fun H locs f145 ef145 z146 hB => ?_)
                          have z147 : q_ir (q_r f145 v 0) p79 := by rw [ef145, q_setr (Or.inr (by decide))]; exact z143
                          refine q_iinc (lv' := [(2, .int (q_i ((((24 + (-8)) + (-8)) + (-8)) + (-8)))), (0, .ref v), (1, .int (q_i p0))]) cx dX8_append_49 hl (k := 0) rfl (by decide) rfl (fun ls hl => ?_)
                          refine lv_goto (tgt := 3) cx.1 cx.2.1 dX8_append_52 (by decide) ?_
                          refine q_ild_n cx dX8_append_3 rfl (lv_at hl 0 rfl) ?_
                          refine q_iflt (tgt := 55) cx ⟨by decide, by decide⟩ dX8_append_4 (by decide) (fun c148 => ?_) (fun c148 => ?_)
                          · refine q_vret cx hr hlk hB dX8_append_55 ?_
                            exact (Eq.trans z146 (by omega))
                          · exact absurd c148 (by omega)
set_option maxHeartbeats 4000000 in
set_option maxRecDepth 100000 in
theorem g_isWord_0 (l : Launch) (g : q_G) (ad : Nat → Nat) {K : Nat → Nat} {L : List Nat} (hN : L.Nodup) {f : Nat → va_E} (hT : q_Ty g K L f) (hfl : l.stackTraces = false) (v : Nat) (hv : v ∈ L) (kv : K v = 8) : q_Xt l g ad K L yX8_isWord cX8_isWord 3 (some .boolean) 4 85 0 0 [.ref v, .ref (ad 0)] f [] (q_Pi (fun (z : Int) (f1 : Nat → va_E) => f = f1 ∧ 0 ≤ z ∧ z ≤ 1)) (fun (_ : String) (_ : Nat → va_E) => False) := by
  refine q_xofb (by decide +kernel) hN hT (Nat.le_of_ble_eq_true rfl) ?_
  intro p e s m below meth c ls cx hr hlk htab hX hB hl
  have hl : lv_has ls 3 [(0, .ref v), (1, .ref (ad 0))] := hl
  obtain ⟨H, hH⟩ : ∃ H : Heap, H = s.heap := ⟨_, rfl⟩
  obtain ⟨locs, hlocs⟩ : ∃ z : List Loc, z = [] := ⟨_, rfl⟩
  rw [← hH, ← hlocs] at hB
  rw [← hH, ← hlocs]
  refine q_ald_n cx dX8_isWord_0 rfl (lv_at hl 0 rfl) ?_
  obtain ⟨x61, ex61⟩ : ∃ zz, q_is (q_z f v 6) zz := ⟨_, q_isr _⟩
  refine q_gX8_40 cx hB hv kv ex61 dX8_isWord_1 (fun lb62 ub62 => ?_)
  refine q_iconst cx dX8_isWord_4 ?_
  refine q_iceq (tgt := 10) cx ⟨by omega, by omega⟩ ⟨by decide, by decide⟩ dX8_isWord_5 (by decide) (fun c63 => ?_) (fun c63 => ?_)
  · refine q_iconst cx dX8_isWord_10 ?_
    refine lv_istore_n (lv' := [(2, .int (q_i 0)), (0, .ref v), (1, .ref (ad 0))]) cx.1 cx.2.1 dX8_isWord_11 rfl hl (by decide) rfl (fun ls hl => ?_)
    refine q_ild_n cx dX8_isWord_12 rfl (lv_at hl 0 rfl) ?_
    refine q_bipush cx dX8_isWord_13 rfl ?_
    refine q_icge (tgt := 54) cx ⟨by decide, by decide⟩ ⟨by decide, by decide⟩ dX8_isWord_15 (by decide) (fun c64 => ?_) (fun c64 => ?_)
    · exact absurd c64 (by omega)
    · refine q_ald_n cx dX8_isWord_18 rfl (lv_at hl 1 rfl) ?_
      obtain ⟨j65, ej65⟩ : ∃ zz, q_j f v 4 = zz := ⟨_, rfl⟩
      refine q_gX8_56 cx hB hv kv ej65 dX8_isWord_19 ?_
      refine q_ild_n cx dX8_isWord_22 rfl (lv_at hl 0 rfl) ?_
      refine q_cSi (As := [.long j65, .int (q_i 0)]) (rest := []) cx hB (fun _ h => h) hN (g_X8_letterOf l g hN hB.2.1 j65 0 (by decide) (by decide)) q_cX8_63 q_dX8_letterOf (by decide) rfl rfl hl.1 rfl (Nat.le_of_ble_eq_true rfl) dX8_isWord_23 (fun y67 H locs f66 ry67 h68 hF hB => ?_)
      obtain rfl := h68
      refine q_ild_n cx dX8_isWord_26 rfl (lv_at hl 0 rfl) ?_
      refine q_ald_n cx dX8_isWord_27 rfl (lv_at hl 2 rfl) ?_
      refine q_cXT (As := []) (rest := [.int (q_i 0), .int (q_i y67)]) cx hX hB (fun _ h => h) (fun _ h _ => h) hN (q_srec hX (by decide) hB) (s_length l g ad hN hB.2.1 0 (by decide)) q_cX8_67 q_dJ0_length_8abf5 (by decide) rfl rfl hl.1 rfl (Nat.le_of_ble_eq_true rfl) dX8_isWord_28 (fun E9 ce9 q9 H locs fx hex hF hB hcell hcv hcl => ?_) (fun v9 H locs f1 h1 hF hB => ?_)
      · exact hex.elim
      obtain ⟨z9, rfl, -, rfl, h9⟩ := h1
      obtain rfl : z9 = 4 := h9.trans (by decide)
      refine W.eq (g2 := F0 m 31 ls [.int (q_i 4), .int (q_i 0), .int (q_i y67)]) rfl ?_
      refine q_icge (tgt := 42) cx ⟨by decide, by decide⟩ ⟨by decide, by decide⟩ dX8_isWord_31 (by decide) (fun c69 => ?_) (fun c69 => ?_)
      · exact absurd c69 (by omega)
      · refine q_ald_n cx dX8_isWord_34 rfl (lv_at hl 2 rfl) ?_
        refine q_ild_n cx dX8_isWord_35 rfl (lv_at hl 0 rfl) ?_
        refine q_cXT (As := [.int (q_i 0)]) (rest := [.int (q_i y67)]) cx hX hB (fun _ h => h) (fun _ h _ => h) hN (q_srec hX (by decide) hB) (s_charAt l g ad hN hB.2.1 0 (by decide) 0 (by decide) (by decide)) q_cX8_72 q_dJ0_charAt_5068e (by decide) rfl rfl hl.1 rfl (Nat.le_of_ble_eq_true rfl) dX8_isWord_36 (fun E9 ce9 q9 H locs fx hex hF hB hcell hcv hcl => ?_) (fun v9 H locs f1 h1 hF hB => ?_)
        · exact hex.elim
        obtain ⟨z9, rfl, -, rfl, h9⟩ := h1
        obtain rfl : z9 = 121 := h9.trans (by decide)
        refine W.eq (g2 := F0 m 39 ls [.int (q_i 121), .int (q_i y67)]) rfl ?_
        refine lv_goto (tgt := 43) cx.1 cx.2.1 dX8_isWord_39 (by decide) ?_
        refine q_iceq (tgt := 48) cx ⟨by omega, by omega⟩ ⟨by decide, by decide⟩ dX8_isWord_43 (by decide) (fun c70 => ?_) (fun c70 => ?_)
        · refine q_iinc (lv' := [(2, .int (q_i (0 + 1))), (0, .ref v), (1, .ref (ad 0))]) cx dX8_isWord_48 hl (k := 0) rfl (by decide) rfl (fun ls hl => ?_)
          refine lv_goto (tgt := 12) cx.1 cx.2.1 dX8_isWord_51 (by decide) ?_
          refine q_ild_n cx dX8_isWord_12 rfl (lv_at hl 0 rfl) ?_
          refine q_bipush cx dX8_isWord_13 rfl ?_
          refine q_icge (tgt := 54) cx ⟨by decide, by decide⟩ ⟨by decide, by decide⟩ dX8_isWord_15 (by decide) (fun c71 => ?_) (fun c71 => ?_)
          · exact absurd c71 (by omega)
          · refine q_ald_n cx dX8_isWord_18 rfl (lv_at hl 1 rfl) ?_
            obtain ⟨j72, ej72⟩ : ∃ zz, q_j f v 4 = zz := ⟨_, rfl⟩
            refine q_gX8_56 cx hB hv kv ej72 dX8_isWord_19 ?_
            refine q_ild_n cx dX8_isWord_22 rfl (lv_at hl 0 rfl) ?_
            refine q_cSi (As := [.long j72, .int (q_i (0 + 1))]) (rest := []) cx hB (fun _ h => h) hN (g_X8_letterOf l g hN hB.2.1 j72 (0 + 1) (by decide) (by decide)) q_cX8_63 q_dX8_letterOf (by decide) rfl rfl hl.1 rfl (Nat.le_of_ble_eq_true rfl) dX8_isWord_23 (fun y74 H locs f73 ry74 h75 hF hB => ?_)
            obtain rfl := h75
            refine q_ild_n cx dX8_isWord_26 rfl (lv_at hl 0 rfl) ?_
            refine q_ald_n cx dX8_isWord_27 rfl (lv_at hl 2 rfl) ?_
            refine q_cXT (As := []) (rest := [.int (q_i (0 + 1)), .int (q_i y74)]) cx hX hB (fun _ h => h) (fun _ h _ => h) hN (q_srec hX (by decide) hB) (s_length l g ad hN hB.2.1 0 (by decide)) q_cX8_67 q_dJ0_length_8abf5 (by decide) rfl rfl hl.1 rfl (Nat.le_of_ble_eq_true rfl) dX8_isWord_28 (fun E9 ce9 q9 H locs fx hex hF hB hcell hcv hcl => ?_) (fun v9 H locs f1 h1 hF hB => ?_)
            · exact hex.elim
            obtain ⟨z9, rfl, -, rfl, h9⟩ := h1
            obtain rfl : z9 = 4 := h9.trans (by decide)
            refine W.eq (g2 := F0 m 31 ls [.int (q_i 4), .int (q_i (0 + 1)), .int (q_i y74)]) rfl ?_
            refine q_icge (tgt := 42) cx ⟨by decide, by decide⟩ ⟨by decide, by decide⟩ dX8_isWord_31 (by decide) (fun c76 => ?_) (fun c76 => ?_)
            · exact absurd c76 (by omega)
            · refine q_ald_n cx dX8_isWord_34 rfl (lv_at hl 2 rfl) ?_
              refine q_ild_n cx dX8_isWord_35 rfl (lv_at hl 0 rfl) ?_
              refine q_cXT (As := [.int (q_i (0 + 1))]) (rest := [.int (q_i y74)]) cx hX hB (fun _ h => h) (fun _ h _ => h) hN (q_srec hX (by decide) hB) (s_charAt l g ad hN hB.2.1 0 (by decide) 1 (by decide) (by decide)) q_cX8_72 q_dJ0_charAt_5068e (by decide) rfl rfl hl.1 rfl (Nat.le_of_ble_eq_true rfl) dX8_isWord_36 (fun E9 ce9 q9 H locs fx hex hF hB hcell hcv hcl => ?_) (fun v9 H locs f1 h1 hF hB => ?_)
              · exact hex.elim
              obtain ⟨z9, rfl, -, rfl, h9⟩ := h1
              obtain rfl : z9 = 101 := h9.trans (by decide)
              refine W.eq (g2 := F0 m 39 ls [.int (q_i 101), .int (q_i y74)]) rfl ?_
              refine lv_goto (tgt := 43) cx.1 cx.2.1 dX8_isWord_39 (by decide) ?_
              refine q_iceq (tgt := 48) cx ⟨by omega, by omega⟩ ⟨by decide, by decide⟩ dX8_isWord_43 (by decide) (fun c77 => ?_) (fun c77 => ?_)
              · refine q_iinc (lv' := [(2, .int (q_i ((0 + 1) + 1))), (0, .ref v), (1, .ref (ad 0))]) cx dX8_isWord_48 hl (k := 0) rfl (by decide) rfl (fun ls hl => ?_)
                refine lv_goto (tgt := 12) cx.1 cx.2.1 dX8_isWord_51 (by decide) ?_
                refine q_ild_n cx dX8_isWord_12 rfl (lv_at hl 0 rfl) ?_
                refine q_bipush cx dX8_isWord_13 rfl ?_
                refine q_icge (tgt := 54) cx ⟨by decide, by decide⟩ ⟨by decide, by decide⟩ dX8_isWord_15 (by decide) (fun c78 => ?_) (fun c78 => ?_)
                · exact absurd c78 (by omega)
                · refine q_ald_n cx dX8_isWord_18 rfl (lv_at hl 1 rfl) ?_
                  obtain ⟨j79, ej79⟩ : ∃ zz, q_j f v 4 = zz := ⟨_, rfl⟩
                  refine q_gX8_56 cx hB hv kv ej79 dX8_isWord_19 ?_
                  refine q_ild_n cx dX8_isWord_22 rfl (lv_at hl 0 rfl) ?_
                  refine q_cSi (As := [.long j79, .int (q_i ((0 + 1) + 1))]) (rest := []) cx hB (fun _ h => h) hN (g_X8_letterOf l g hN hB.2.1 j79 ((0 + 1) + 1) (by decide) (by decide)) q_cX8_63 q_dX8_letterOf (by decide) rfl rfl hl.1 rfl (Nat.le_of_ble_eq_true rfl) dX8_isWord_23 (fun y81 H locs f80 ry81 h82 hF hB => ?_)
                  obtain rfl := h82
                  refine q_ild_n cx dX8_isWord_26 rfl (lv_at hl 0 rfl) ?_
                  refine q_ald_n cx dX8_isWord_27 rfl (lv_at hl 2 rfl) ?_
                  refine q_cXT (As := []) (rest := [.int (q_i ((0 + 1) + 1)), .int (q_i y81)]) cx hX hB (fun _ h => h) (fun _ h _ => h) hN (q_srec hX (by decide) hB) (s_length l g ad hN hB.2.1 0 (by decide)) q_cX8_67 q_dJ0_length_8abf5 (by decide) rfl rfl hl.1 rfl (Nat.le_of_ble_eq_true rfl) dX8_isWord_28 (fun E9 ce9 q9 H locs fx hex hF hB hcell hcv hcl => ?_) (fun v9 H locs f1 h1 hF hB => ?_)
                  · exact hex.elim
                  obtain ⟨z9, rfl, -, rfl, h9⟩ := h1
                  obtain rfl : z9 = 4 := h9.trans (by decide)
                  refine W.eq (g2 := F0 m 31 ls [.int (q_i 4), .int (q_i ((0 + 1) + 1)), .int (q_i y81)]) rfl ?_
                  refine q_icge (tgt := 42) cx ⟨by decide, by decide⟩ ⟨by decide, by decide⟩ dX8_isWord_31 (by decide) (fun c83 => ?_) (fun c83 => ?_)
                  · exact absurd c83 (by omega)
                  · refine q_ald_n cx dX8_isWord_34 rfl (lv_at hl 2 rfl) ?_
                    refine q_ild_n cx dX8_isWord_35 rfl (lv_at hl 0 rfl) ?_
                    refine q_cXT (As := [.int (q_i ((0 + 1) + 1))]) (rest := [.int (q_i y81)]) cx hX hB (fun _ h => h) (fun _ h _ => h) hN (q_srec hX (by decide) hB) (s_charAt l g ad hN hB.2.1 0 (by decide) 2 (by decide) (by decide)) q_cX8_72 q_dJ0_charAt_5068e (by decide) rfl rfl hl.1 rfl (Nat.le_of_ble_eq_true rfl) dX8_isWord_36 (fun E9 ce9 q9 H locs fx hex hF hB hcell hcv hcl => ?_) (fun v9 H locs f1 h1 hF hB => ?_)
                    · exact hex.elim
                    obtain ⟨z9, rfl, -, rfl, h9⟩ := h1
                    obtain rfl : z9 = 97 := h9.trans (by decide)
                    refine W.eq (g2 := F0 m 39 ls [.int (q_i 97), .int (q_i y81)]) rfl ?_
                    refine lv_goto (tgt := 43) cx.1 cx.2.1 dX8_isWord_39 (by decide) ?_
                    refine q_iceq (tgt := 48) cx ⟨by omega, by omega⟩ ⟨by decide, by decide⟩ dX8_isWord_43 (by decide) (fun c84 => ?_) (fun c84 => ?_)
                    · refine q_iinc (lv' := [(2, .int (q_i (((0 + 1) + 1) + 1))), (0, .ref v), (1, .ref (ad 0))]) cx dX8_isWord_48 hl (k := 0) rfl (by decide) rfl (fun ls hl => ?_)
                      refine lv_goto (tgt := 12) cx.1 cx.2.1 dX8_isWord_51 (by decide) ?_
                      refine q_ild_n cx dX8_isWord_12 rfl (lv_at hl 0 rfl) ?_
                      refine q_bipush cx dX8_isWord_13 rfl ?_
                      refine q_icge (tgt := 54) cx ⟨by decide, by decide⟩ ⟨by decide, by decide⟩ dX8_isWord_15 (by decide) (fun c85 => ?_) (fun c85 => ?_)
                      · exact absurd c85 (by omega)
                      · refine q_ald_n cx dX8_isWord_18 rfl (lv_at hl 1 rfl) ?_
                        obtain ⟨j86, ej86⟩ : ∃ zz, q_j f v 4 = zz := ⟨_, rfl⟩
                        refine q_gX8_56 cx hB hv kv ej86 dX8_isWord_19 ?_
                        refine q_ild_n cx dX8_isWord_22 rfl (lv_at hl 0 rfl) ?_
                        refine q_cSi (As := [.long j86, .int (q_i (((0 + 1) + 1) + 1))]) (rest := []) cx hB (fun _ h => h) hN (g_X8_letterOf l g hN hB.2.1 j86 (((0 + 1) + 1) + 1) (by decide) (by decide)) q_cX8_63 q_dX8_letterOf (by decide) rfl rfl hl.1 rfl (Nat.le_of_ble_eq_true rfl) dX8_isWord_23 (fun y88 H locs f87 ry88 h89 hF hB => ?_)
                        obtain rfl := h89
                        refine q_ild_n cx dX8_isWord_26 rfl (lv_at hl 0 rfl) ?_
                        refine q_ald_n cx dX8_isWord_27 rfl (lv_at hl 2 rfl) ?_
                        refine q_cXT (As := []) (rest := [.int (q_i (((0 + 1) + 1) + 1)), .int (q_i y88)]) cx hX hB (fun _ h => h) (fun _ h _ => h) hN (q_srec hX (by decide) hB) (s_length l g ad hN hB.2.1 0 (by decide)) q_cX8_67 q_dJ0_length_8abf5 (by decide) rfl rfl hl.1 rfl (Nat.le_of_ble_eq_true rfl) dX8_isWord_28 (fun E9 ce9 q9 H locs fx hex hF hB hcell hcv hcl => ?_) (fun v9 H locs f1 h1 hF hB => ?_)
                        · exact hex.elim
                        obtain ⟨z9, rfl, -, rfl, h9⟩ := h1
                        obtain rfl : z9 = 4 := h9.trans (by decide)
                        refine W.eq (g2 := F0 m 31 ls [.int (q_i 4), .int (q_i (((0 + 1) + 1) + 1)), .int (q_i y88)]) rfl ?_
                        refine q_icge (tgt := 42) cx ⟨by decide, by decide⟩ ⟨by decide, by decide⟩ dX8_isWord_31 (by decide) (fun c90 => ?_) (fun c90 => ?_)
                        · exact absurd c90 (by omega)
                        · refine q_ald_n cx dX8_isWord_34 rfl (lv_at hl 2 rfl) ?_
                          refine q_ild_n cx dX8_isWord_35 rfl (lv_at hl 0 rfl) ?_
                          refine q_cXT (As := [.int (q_i (((0 + 1) + 1) + 1))]) (rest := [.int (q_i y88)]) cx hX hB (fun _ h => h) (fun _ h _ => h) hN (q_srec hX (by decide) hB) (s_charAt l g ad hN hB.2.1 0 (by decide) 3 (by decide) (by decide)) q_cX8_72 q_dJ0_charAt_5068e (by decide) rfl rfl hl.1 rfl (Nat.le_of_ble_eq_true rfl) dX8_isWord_36 (fun E9 ce9 q9 H locs fx hex hF hB hcell hcv hcl => ?_) (fun v9 H locs f1 h1 hF hB => ?_)
                          · exact hex.elim
                          obtain ⟨z9, rfl, -, rfl, h9⟩ := h1
                          obtain rfl : z9 = 114 := h9.trans (by decide)
                          refine W.eq (g2 := F0 m 39 ls [.int (q_i 114), .int (q_i y88)]) rfl ?_
                          refine lv_goto (tgt := 43) cx.1 cx.2.1 dX8_isWord_39 (by decide) ?_
                          refine q_iceq (tgt := 48) cx ⟨by omega, by omega⟩ ⟨by decide, by decide⟩ dX8_isWord_43 (by decide) (fun c91 => ?_) (fun c91 => ?_)
                          · refine q_iinc (lv' := [(2, .int (q_i ((((0 + 1) + 1) + 1) + 1))), (0, .ref v), (1, .ref (ad 0))]) cx dX8_isWord_48 hl (k := 0) rfl (by decide) rfl (fun ls hl => ?_)
                            refine lv_goto (tgt := 12) cx.1 cx.2.1 dX8_isWord_51 (by decide) ?_
                            refine q_ild_n cx dX8_isWord_12 rfl (lv_at hl 0 rfl) ?_
                            refine q_bipush cx dX8_isWord_13 rfl ?_
                            refine q_icge (tgt := 54) cx ⟨by decide, by decide⟩ ⟨by decide, by decide⟩ dX8_isWord_15 (by decide) (fun c92 => ?_) (fun c92 => ?_)
                            · exact absurd c92 (by omega)
                            · refine q_ald_n cx dX8_isWord_18 rfl (lv_at hl 1 rfl) ?_
                              obtain ⟨j93, ej93⟩ : ∃ zz, q_j f v 4 = zz := ⟨_, rfl⟩
                              refine q_gX8_56 cx hB hv kv ej93 dX8_isWord_19 ?_
                              refine q_ild_n cx dX8_isWord_22 rfl (lv_at hl 0 rfl) ?_
                              refine q_cSi (As := [.long j93, .int (q_i ((((0 + 1) + 1) + 1) + 1))]) (rest := []) cx hB (fun _ h => h) hN (g_X8_letterOf l g hN hB.2.1 j93 ((((0 + 1) + 1) + 1) + 1) (by decide) (by decide)) q_cX8_63 q_dX8_letterOf (by decide) rfl rfl hl.1 rfl (Nat.le_of_ble_eq_true rfl) dX8_isWord_23 (fun y95 H locs f94 ry95 h96 hF hB => ?_)
                              obtain rfl := h96
                              refine q_ild_n cx dX8_isWord_26 rfl (lv_at hl 0 rfl) ?_
                              refine q_ald_n cx dX8_isWord_27 rfl (lv_at hl 2 rfl) ?_
                              refine q_cXT (As := []) (rest := [.int (q_i ((((0 + 1) + 1) + 1) + 1)), .int (q_i y95)]) cx hX hB (fun _ h => h) (fun _ h _ => h) hN (q_srec hX (by decide) hB) (s_length l g ad hN hB.2.1 0 (by decide)) q_cX8_67 q_dJ0_length_8abf5 (by decide) rfl rfl hl.1 rfl (Nat.le_of_ble_eq_true rfl) dX8_isWord_28 (fun E9 ce9 q9 H locs fx hex hF hB hcell hcv hcl => ?_) (fun v9 H locs f1 h1 hF hB => ?_)
                              · exact hex.elim
                              obtain ⟨z9, rfl, -, rfl, h9⟩ := h1
                              obtain rfl : z9 = 4 := h9.trans (by decide)
                              refine W.eq (g2 := F0 m 31 ls [.int (q_i 4), .int (q_i ((((0 + 1) + 1) + 1) + 1)), .int (q_i y95)]) rfl ?_
                              refine q_icge (tgt := 42) cx ⟨by decide, by decide⟩ ⟨by decide, by decide⟩ dX8_isWord_31 (by decide) (fun c97 => ?_) (fun c97 => ?_)
                              · refine q_iconst cx dX8_isWord_42 ?_
                                refine q_iceq (tgt := 48) cx ⟨by omega, by omega⟩ ⟨by decide, by decide⟩ dX8_isWord_43 (by decide) (fun c98 => ?_) (fun c98 => ?_)
                                · refine q_iinc (lv' := [(2, .int (q_i (((((0 + 1) + 1) + 1) + 1) + 1))), (0, .ref v), (1, .ref (ad 0))]) cx dX8_isWord_48 hl (k := 0) rfl (by decide) rfl (fun ls hl => ?_)
                                  refine lv_goto (tgt := 12) cx.1 cx.2.1 dX8_isWord_51 (by decide) ?_
                                  refine q_ild_n cx dX8_isWord_12 rfl (lv_at hl 0 rfl) ?_
                                  refine q_bipush cx dX8_isWord_13 rfl ?_
                                  refine q_icge (tgt := 54) cx ⟨by decide, by decide⟩ ⟨by decide, by decide⟩ dX8_isWord_15 (by decide) (fun c99 => ?_) (fun c99 => ?_)
                                  · exact absurd c99 (by omega)
                                  · refine q_ald_n cx dX8_isWord_18 rfl (lv_at hl 1 rfl) ?_
                                    obtain ⟨j100, ej100⟩ : ∃ zz, q_j f v 4 = zz := ⟨_, rfl⟩
                                    refine q_gX8_56 cx hB hv kv ej100 dX8_isWord_19 ?_
                                    refine q_ild_n cx dX8_isWord_22 rfl (lv_at hl 0 rfl) ?_
                                    refine q_cSi (As := [.long j100, .int (q_i (((((0 + 1) + 1) + 1) + 1) + 1))]) (rest := []) cx hB (fun _ h => h) hN (g_X8_letterOf l g hN hB.2.1 j100 (((((0 + 1) + 1) + 1) + 1) + 1) (by decide) (by decide)) q_cX8_63 q_dX8_letterOf (by decide) rfl rfl hl.1 rfl (Nat.le_of_ble_eq_true rfl) dX8_isWord_23 (fun y102 H locs f101 ry102 h103 hF hB => ?_)
                                    obtain rfl := h103
                                    refine q_ild_n cx dX8_isWord_26 rfl (lv_at hl 0 rfl) ?_
                                    refine q_ald_n cx dX8_isWord_27 rfl (lv_at hl 2 rfl) ?_
                                    refine q_cXT (As := []) (rest := [.int (q_i (((((0 + 1) + 1) + 1) + 1) + 1)), .int (q_i y102)]) cx hX hB (fun _ h => h) (fun _ h _ => h) hN (q_srec hX (by decide) hB) (s_length l g ad hN hB.2.1 0 (by decide)) q_cX8_67 q_dJ0_length_8abf5 (by decide) rfl rfl hl.1 rfl (Nat.le_of_ble_eq_true rfl) dX8_isWord_28 (fun E9 ce9 q9 H locs fx hex hF hB hcell hcv hcl => ?_) (fun v9 H locs f1 h1 hF hB => ?_)
                                    · exact hex.elim
                                    obtain ⟨z9, rfl, -, rfl, h9⟩ := h1
                                    obtain rfl : z9 = 4 := h9.trans (by decide)
                                    refine W.eq (g2 := F0 m 31 ls [.int (q_i 4), .int (q_i (((((0 + 1) + 1) + 1) + 1) + 1)), .int (q_i y102)]) rfl ?_
                                    refine q_icge (tgt := 42) cx ⟨by decide, by decide⟩ ⟨by decide, by decide⟩ dX8_isWord_31 (by decide) (fun c104 => ?_) (fun c104 => ?_)
                                    · refine q_iconst cx dX8_isWord_42 ?_
                                      refine q_iceq (tgt := 48) cx ⟨by omega, by omega⟩ ⟨by decide, by decide⟩ dX8_isWord_43 (by decide) (fun c105 => ?_) (fun c105 => ?_)
                                      · refine q_iinc (lv' := [(2, .int (q_i ((((((0 + 1) + 1) + 1) + 1) + 1) + 1))), (0, .ref v), (1, .ref (ad 0))]) cx dX8_isWord_48 hl (k := 0) rfl (by decide) rfl (fun ls hl => ?_)
                                        refine lv_goto (tgt := 12) cx.1 cx.2.1 dX8_isWord_51 (by decide) ?_
                                        refine q_ild_n cx dX8_isWord_12 rfl (lv_at hl 0 rfl) ?_
                                        refine q_bipush cx dX8_isWord_13 rfl ?_
                                        refine q_icge (tgt := 54) cx ⟨by decide, by decide⟩ ⟨by decide, by decide⟩ dX8_isWord_15 (by decide) (fun c106 => ?_) (fun c106 => ?_)
                                        · exact absurd c106 (by omega)
                                        · refine q_ald_n cx dX8_isWord_18 rfl (lv_at hl 1 rfl) ?_
                                          obtain ⟨j107, ej107⟩ : ∃ zz, q_j f v 4 = zz := ⟨_, rfl⟩
                                          refine q_gX8_56 cx hB hv kv ej107 dX8_isWord_19 ?_
                                          refine q_ild_n cx dX8_isWord_22 rfl (lv_at hl 0 rfl) ?_
                                          refine q_cSi (As := [.long j107, .int (q_i ((((((0 + 1) + 1) + 1) + 1) + 1) + 1))]) (rest := []) cx hB (fun _ h => h) hN (g_X8_letterOf l g hN hB.2.1 j107 ((((((0 + 1) + 1) + 1) + 1) + 1) + 1) (by decide) (by decide)) q_cX8_63 q_dX8_letterOf (by decide) rfl rfl hl.1 rfl (Nat.le_of_ble_eq_true rfl) dX8_isWord_23 (fun y109 H locs f108 ry109 h110 hF hB => ?_)
                                          obtain rfl := h110
                                          refine q_ild_n cx dX8_isWord_26 rfl (lv_at hl 0 rfl) ?_
                                          refine q_ald_n cx dX8_isWord_27 rfl (lv_at hl 2 rfl) ?_
                                          refine q_cXT (As := []) (rest := [.int (q_i ((((((0 + 1) + 1) + 1) + 1) + 1) + 1)), .int (q_i y109)]) cx hX hB (fun _ h => h) (fun _ h _ => h) hN (q_srec hX (by decide) hB) (s_length l g ad hN hB.2.1 0 (by decide)) q_cX8_67 q_dJ0_length_8abf5 (by decide) rfl rfl hl.1 rfl (Nat.le_of_ble_eq_true rfl) dX8_isWord_28 (fun E9 ce9 q9 H locs fx hex hF hB hcell hcv hcl => ?_) (fun v9 H locs f1 h1 hF hB => ?_)
                                          · exact hex.elim
                                          obtain ⟨z9, rfl, -, rfl, h9⟩ := h1
                                          obtain rfl : z9 = 4 := h9.trans (by decide)
                                          refine W.eq (g2 := F0 m 31 ls [.int (q_i 4), .int (q_i ((((((0 + 1) + 1) + 1) + 1) + 1) + 1)), .int (q_i y109)]) rfl ?_
                                          refine q_icge (tgt := 42) cx ⟨by decide, by decide⟩ ⟨by decide, by decide⟩ dX8_isWord_31 (by decide) (fun c111 => ?_) (fun c111 => ?_)
                                          · refine q_iconst cx dX8_isWord_42 ?_
                                            refine q_iceq (tgt := 48) cx ⟨by omega, by omega⟩ ⟨by decide, by decide⟩ dX8_isWord_43 (by decide) (fun c112 => ?_) (fun c112 => ?_)
                                            · refine q_iinc (lv' := [(2, .int (q_i (((((((0 + 1) + 1) + 1) + 1) + 1) + 1) + 1))), (0, .ref v), (1, .ref (ad 0))]) cx dX8_isWord_48 hl (k := 0) rfl (by decide) rfl (fun ls hl => ?_)
                                              refine lv_goto (tgt := 12) cx.1 cx.2.1 dX8_isWord_51 (by decide) ?_
                                              refine q_ild_n cx dX8_isWord_12 rfl (lv_at hl 0 rfl) ?_
                                              refine q_bipush cx dX8_isWord_13 rfl ?_
                                              refine q_icge (tgt := 54) cx ⟨by decide, by decide⟩ ⟨by decide, by decide⟩ dX8_isWord_15 (by decide) (fun c113 => ?_) (fun c113 => ?_)
                                              · exact absurd c113 (by omega)
                                              · refine q_ald_n cx dX8_isWord_18 rfl (lv_at hl 1 rfl) ?_
                                                obtain ⟨j114, ej114⟩ : ∃ zz, q_j f v 4 = zz := ⟨_, rfl⟩
                                                refine q_gX8_56 cx hB hv kv ej114 dX8_isWord_19 ?_
                                                refine q_ild_n cx dX8_isWord_22 rfl (lv_at hl 0 rfl) ?_
                                                refine q_cSi (As := [.long j114, .int (q_i (((((((0 + 1) + 1) + 1) + 1) + 1) + 1) + 1))]) (rest := []) cx hB (fun _ h => h) hN (g_X8_letterOf l g hN hB.2.1 j114 (((((((0 + 1) + 1) + 1) + 1) + 1) + 1) + 1) (by decide) (by decide)) q_cX8_63 q_dX8_letterOf (by decide) rfl rfl hl.1 rfl (Nat.le_of_ble_eq_true rfl) dX8_isWord_23 (fun y116 H locs f115 ry116 h117 hF hB => ?_)
                                                obtain rfl := h117
                                                refine q_ild_n cx dX8_isWord_26 rfl (lv_at hl 0 rfl) ?_
                                                refine q_ald_n cx dX8_isWord_27 rfl (lv_at hl 2 rfl) ?_
                                                refine q_cXT (As := []) (rest := [.int (q_i (((((((0 + 1) + 1) + 1) + 1) + 1) + 1) + 1)), .int (q_i y116)]) cx hX hB (fun _ h => h) (fun _ h _ => h) hN (q_srec hX (by decide) hB) (s_length l g ad hN hB.2.1 0 (by decide)) q_cX8_67 q_dJ0_length_8abf5 (by decide) rfl rfl hl.1 rfl (Nat.le_of_ble_eq_true rfl) dX8_isWord_28 (fun E9 ce9 q9 H locs fx hex hF hB hcell hcv hcl => ?_) (fun v9 H locs f1 h1 hF hB => ?_)
                                                · exact hex.elim
                                                obtain ⟨z9, rfl, -, rfl, h9⟩ := h1
                                                obtain rfl : z9 = 4 := h9.trans (by decide)
                                                refine W.eq (g2 := F0 m 31 ls [.int (q_i 4), .int (q_i (((((((0 + 1) + 1) + 1) + 1) + 1) + 1) + 1)), .int (q_i y116)]) rfl ?_
                                                refine q_icge (tgt := 42) cx ⟨by decide, by decide⟩ ⟨by decide, by decide⟩ dX8_isWord_31 (by decide) (fun c118 => ?_) (fun c118 => ?_)
                                                · refine q_iconst cx dX8_isWord_42 ?_
                                                  refine q_iceq (tgt := 48) cx ⟨by omega, by omega⟩ ⟨by decide, by decide⟩ dX8_isWord_43 (by decide) (fun c119 => ?_) (fun c119 => ?_)
                                                  · refine q_iinc (lv' := [(2, .int (q_i ((((((((0 + 1) + 1) + 1) + 1) + 1) + 1) + 1) + 1))), (0, .ref v), (1, .ref (ad 0))]) cx dX8_isWord_48 hl (k := 0) rfl (by decide) rfl (fun ls hl => ?_)
                                                    refine lv_goto (tgt := 12) cx.1 cx.2.1 dX8_isWord_51 (by decide) ?_
                                                    refine q_ild_n cx dX8_isWord_12 rfl (lv_at hl 0 rfl) ?_
                                                    refine q_bipush cx dX8_isWord_13 rfl ?_
                                                    refine q_icge (tgt := 54) cx ⟨by decide, by decide⟩ ⟨by decide, by decide⟩ dX8_isWord_15 (by decide) (fun c120 => ?_) (fun c120 => ?_)
                                                    · refine q_iconst cx dX8_isWord_54 ?_
                                                      refine W.widen (k := 0) (n := 0) (by decide) (by decide) ?_
                                                      refine vx_ret ?_
                                                      refine q_zret cx hr hlk hB dX8_isWord_55 (by decide) (by decide) ?_
                                                      exact ⟨rfl, (by decide), (by decide)⟩
                                                    · exact absurd c120 (by omega)
                                                  · refine q_iconst cx dX8_isWord_46 ?_
                                                    refine W.widen (k := 0) (n := 0) (by decide) (by decide) ?_
                                                    refine vx_ret ?_
                                                    refine q_zret cx hr hlk hB dX8_isWord_47 (by decide) (by decide) ?_
                                                    exact ⟨rfl, (by decide), (by decide)⟩
                                                · exact absurd c118 (by omega)
                                            · refine q_iconst cx dX8_isWord_46 ?_
                                              refine W.widen (k := 0) (n := 0) (by decide) (by decide) ?_
                                              refine vx_ret ?_
                                              refine q_zret cx hr hlk hB dX8_isWord_47 (by decide) (by decide) ?_
                                              exact ⟨rfl, (by decide), (by decide)⟩
                                          · exact absurd c111 (by omega)
                                      · refine q_iconst cx dX8_isWord_46 ?_
                                        refine W.widen (k := 0) (n := 0) (by decide) (by decide) ?_
                                        refine vx_ret ?_
                                        refine q_zret cx hr hlk hB dX8_isWord_47 (by decide) (by decide) ?_
                                        exact ⟨rfl, (by decide), (by decide)⟩
                                    · exact absurd c104 (by omega)
                                · refine q_iconst cx dX8_isWord_46 ?_
                                  refine W.widen (k := 0) (n := 0) (by decide) (by decide) ?_
                                  refine vx_ret ?_
                                  refine q_zret cx hr hlk hB dX8_isWord_47 (by decide) (by decide) ?_
                                  exact ⟨rfl, (by decide), (by decide)⟩
                              · exact absurd c97 (by omega)
                          · refine q_iconst cx dX8_isWord_46 ?_
                            refine W.widen (k := 0) (n := 0) (by decide) (by decide) ?_
                            refine vx_ret ?_
                            refine q_zret cx hr hlk hB dX8_isWord_47 (by decide) (by decide) ?_
                            exact ⟨rfl, (by decide), (by decide)⟩
                    · refine q_iconst cx dX8_isWord_46 ?_
                      refine W.widen (k := 0) (n := 0) (by decide) (by decide) ?_
                      refine vx_ret ?_
                      refine q_zret cx hr hlk hB dX8_isWord_47 (by decide) (by decide) ?_
                      exact ⟨rfl, (by decide), (by decide)⟩
              · refine q_iconst cx dX8_isWord_46 ?_
                refine W.widen (k := 0) (n := 0) (by decide) (by decide) ?_
                refine vx_ret ?_
                refine q_zret cx hr hlk hB dX8_isWord_47 (by decide) (by decide) ?_
                exact ⟨rfl, (by decide), (by decide)⟩
        · refine q_iconst cx dX8_isWord_46 ?_
          refine W.widen (k := 0) (n := 0) (by decide) (by decide) ?_
          refine vx_ret ?_
          refine q_zret cx hr hlk hB dX8_isWord_47 (by decide) (by decide) ?_
          exact ⟨rfl, (by decide), (by decide)⟩
  · refine q_iconst cx dX8_isWord_8 ?_
    refine W.widen (k := 0) (n := 0) (by decide) (by decide) ?_
    refine vx_ret ?_
    refine q_zret cx hr hlk hB dX8_isWord_9 (by decide) (by decide) ?_
    exact ⟨rfl, (by decide), (by decide)⟩
