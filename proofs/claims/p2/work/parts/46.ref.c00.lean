set_option maxHeartbeats 4000000 in
set_option maxRecDepth 100000 in
theorem r_tell (l : Launch) (g : q_G) {K : Nat → Nat} {L : List Nat} (hN : L.Nodup) {f : Nat → va_E} (hT : q_Ty g K L f) (mo : Nat) (hmo : mo ∈ L) (kmo : K mo = 12) (a0 : Int) (la0 : (-2147483648) ≤ a0) (ua0 : a0 ≤ 2147483647) (rp : Nat) (hrp : rp ∈ L) (krp : K rp = 167) (xr : Int) (lxr : 0 ≤ xr) (uxr : xr ≤ 479) (hf0 : q_is (q_z f mo 39) xr) (hr0 : q_ir (q_r f mo 38) rp) : q_Ct l g K L yX12_tell cX12_tell 2 none 0 0 [.ref mo, .int (q_i a0)] f [(12, 39, 39), (167, 0, 479)] (q_Pv (fun (f1 : Nat → va_E) => q_is (q_z f1 mo 39) (xr + 1))) := by
  refine q_ofb (by decide +kernel) hN hT (Nat.le_of_ble_eq_true rfl) ?_
  intro p e s m below meth c ls cx hr hlk hB hl
  have hl : lv_has ls 2 [(0, .ref mo), (1, .int (q_i a0))] := hl
  obtain ⟨H, hH⟩ : ∃ H : Heap, H = s.heap := ⟨_, rfl⟩
  obtain ⟨locs, hlocs⟩ : ∃ z : List Loc, z = [] := ⟨_, rfl⟩
  rw [← hH, ← hlocs] at hB
  rw [← hH, ← hlocs]
  refine q_ald_n cx dX12_tell_0 rfl (lv_at hl 0 rfl) ?_
  refine q_gX12_69 cx hB hmo kmo hr0 dX12_tell_1 (fun hb11 kb11 => ?_)
  refine q_ald_n cx dX12_tell_4 rfl (lv_at hl 0 rfl) ?_
  refine q_gX12_515 cx hB hmo kmo hf0 dX12_tell_5 (fun lb12 ub12 => ?_)
  refine q_ild_n cx dX12_tell_8 rfl (lv_at hl 1 rfl) ?_
  refine q_iast (lo := (-2147483648)) (hi := 2147483647) (n := 480) cx hB hrp krp (by decide) rfl rfl (by omega) (by omega) (by decide) rfl ⟨by omega, by omega⟩ (by omega) (by omega) (q_inWi (lo := 0) (hi := 479) (by decide) (by omega) (by omega)) dX12_tell_9 (fun H locs f13 ef13 z14 hB => ?_)
  have z15 : q_is (q_z f13 mo 39) xr := by rw [ef13, q_setz (Or.inl (fun q => by rw [q, krp] at kmo; exact absurd kmo (by decide)))]; exact hf0
  have z16 : q_ir (q_r f13 mo 38) rp := by rw [ef13, q_setr (Or.inl (fun q => by rw [q, krp] at kmo; exact absurd kmo (by decide)))]; exact hr0
  refine q_ald_n cx dX12_tell_10 rfl (lv_at hl 0 rfl) ?_
  refine lv_dup cx.1 cx.2.1 dX12_tell_11 rfl ?_
  refine q_gX12_515 cx hB hmo kmo z15 dX12_tell_12 (fun lb17 ub17 => ?_)
  refine q_iconst cx dX12_tell_15 ?_
  refine q_iadd cx dX12_tell_16 ?_
  refine q_pX12_515 cx hB hmo kmo ⟨by omega, by omega⟩ (by omega) (by omega) rfl dX12_tell_17 (fun H locs f18 ef18 z19 hB => ?_)
  have z20 : q_ir (q_r f18 mo 38) rp := by rw [ef18, q_setr (Or.inr (by decide))]; exact z16
  refine q_vret cx hr hlk hB dX12_tell_20 ?_
  exact z19
set_option maxHeartbeats 4000000 in
set_option maxRecDepth 100000 in
theorem r_tellNumber2 (l : Launch) (g : q_G) {K : Nat → Nat} {L : List Nat} (hN : L.Nodup) {f : Nat → va_E} (hT : q_Ty g K L f) (mo : Nat) (hmo : mo ∈ L) (kmo : K mo = 12) (a0 : Int) (la0 : 0 ≤ a0) (ua0 : a0 ≤ 99) (rp : Nat) (hrp : rp ∈ L) (krp : K rp = 167) (xr : Int) (lxr : 0 ≤ xr) (uxr : xr ≤ 478) (hf0 : q_is (q_z f mo 39) xr) (hr0 : q_ir (q_r f mo 38) rp) : q_Ct l g K L yX12_tellNumber cX12_tellNumber 4 none 1 21 [.ref mo, .int (q_i a0)] f [(12, 39, 39), (167, 0, 479)] (q_Pv (fun (f1 : Nat → va_E) => (∃ d9 : Int, 1 ≤ d9 ∧ d9 ≤ 2 ∧ q_is (q_z f1 mo 39) (xr + d9)))) := by
  refine q_ofb (by decide +kernel) hN hT (Nat.le_of_ble_eq_true rfl) ?_
  intro p e s m below meth c ls cx hr hlk hB hl
  have hl : lv_has ls 4 [(0, .ref mo), (1, .int (q_i a0))] := hl
  obtain ⟨H, hH⟩ : ∃ H : Heap, H = s.heap := ⟨_, rfl⟩
  obtain ⟨locs, hlocs⟩ : ∃ z : List Loc, z = [] := ⟨_, rfl⟩
  rw [← hH, ← hlocs] at hB
  rw [← hH, ← hlocs]
  refine q_iconst cx dX12_tellNumber_0 ?_
  refine lv_istore_n (lv' := [(2, .int (q_i 1)), (0, .ref mo), (1, .int (q_i a0))]) cx.1 cx.2.1 dX12_tellNumber_1 rfl hl (by decide) rfl (fun ls hl => ?_)
  refine q_ild_n cx dX12_tellNumber_2 rfl (lv_at hl 2 rfl) ?_
  refine q_ild_n cx dX12_tellNumber_3 rfl (lv_at hl 0 rfl) ?_
  refine q_idiv cx ⟨by omega, by omega⟩ ⟨by decide, by decide⟩ (by omega) dX12_tellNumber_4 ?_
  obtain ⟨y34, ey34⟩ : ∃ zz, Int.tdiv a0 1 = zz := ⟨_, rfl⟩
  obtain ⟨ly34, my34, uy34⟩ := q_tdb (x := a0) (y := 1) (by omega) (by decide)
  rw [ey34] at ly34 my34 uy34
  rw [ey34]
  refine q_bipush cx dX12_tellNumber_5 rfl ?_
  refine q_icle (tgt := 18) cx ⟨by omega, by omega⟩ ⟨by decide, by decide⟩ dX12_tellNumber_7 (by decide) (fun c35 => ?_) (fun c35 => ?_)
  · refine q_ild_n cx dX12_tellNumber_18 rfl (lv_at hl 0 rfl) ?_
    refine lv_istore_n (lv' := [(3, .int (q_i 1)), (2, .int (q_i 1)), (0, .ref mo), (1, .int (q_i a0))]) cx.1 cx.2.1 dX12_tellNumber_19 rfl hl (by decide) rfl (fun ls hl => ?_)
    refine q_ild_n cx dX12_tellNumber_20 rfl (lv_at hl 0 rfl) ?_
    refine q_ifle (tgt := 45) cx ⟨by decide, by decide⟩ dX12_tellNumber_21 (by decide) (fun c36 => ?_) (fun c36 => ?_)
    · exact absurd c36 (by omega)
    · refine q_ald_n cx dX12_tellNumber_24 rfl (lv_at hl 2 rfl) ?_
      refine q_bipush cx dX12_tellNumber_25 rfl ?_
      refine q_ild_n cx dX12_tellNumber_27 rfl (lv_at hl 3 rfl) ?_
      refine q_ild_n cx dX12_tellNumber_28 rfl (lv_at hl 0 rfl) ?_
      refine q_idiv cx ⟨by omega, by omega⟩ ⟨by decide, by decide⟩ (by omega) dX12_tellNumber_29 ?_
      obtain ⟨y37, ey37⟩ : ∃ zz, Int.tdiv a0 1 = zz := ⟨_, rfl⟩
      obtain ⟨ly37, my37, uy37⟩ := q_tdb (x := a0) (y := 1) (by omega) (by decide)
      rw [ey37] at ly37 my37 uy37
      rw [ey37]
      refine q_bipush cx dX12_tellNumber_30 rfl ?_
      refine q_irem cx ⟨by omega, by omega⟩ ⟨by decide, by decide⟩ (by omega) dX12_tellNumber_32 (fun y38 ey38 ay38 by38 ny38 => ?_)
      refine q_iadd cx dX12_tellNumber_33 ?_
      refine q_cVv (As := [.int (q_i (48 + y38))]) (rest := []) cx hB (fun _ h => h) hN hmo kmo (by decide) rfl (r_tell l g hN hB.2.1 mo hmo kmo (48 + y38) (by omega) (by omega) rp hrp krp xr (by omega) (by omega) hf0 hr0) q_cX12_518 q_dX12_tell (by decide) rfl rfl hl.1 rfl (Nat.le_of_ble_eq_true rfl) dX12_tellNumber_34 (fun H locs f39 h41 hF hB => ?_)
      have z42 := h41
      have z43 : q_ir (q_r f39 mo 38) rp := Eq.trans (hF.r hmo (by rw [kmo]; rfl)) hr0
      refine q_ild_n cx dX12_tellNumber_37 rfl (lv_at hl 0 rfl) ?_
      refine q_bipush cx dX12_tellNumber_38 rfl ?_
      refine q_idiv cx ⟨by decide, by decide⟩ ⟨by decide, by decide⟩ (by omega) dX12_tellNumber_40 ?_
      rw [show Int.tdiv 1 10 = 0 from by decide]
      refine lv_istore_n (lv' := [(3, .int (q_i 0)), (2, .int (q_i 1)), (0, .ref mo), (1, .int (q_i a0))]) cx.1 cx.2.1 dX12_tellNumber_41 rfl hl (by decide) rfl (fun ls hl => ?_)
      refine lv_goto (tgt := 20) cx.1 cx.2.1 dX12_tellNumber_42 (by decide) ?_
      refine q_ild_n cx dX12_tellNumber_20 rfl (lv_at hl 0 rfl) ?_
      refine q_ifle (tgt := 45) cx ⟨by decide, by decide⟩ dX12_tellNumber_21 (by decide) (fun c45 => ?_) (fun c45 => ?_)
      · refine q_vret cx hr hlk hB dX12_tellNumber_45 ?_
        exact ⟨(xr + 1) - xr, by omega, by omega, (Eq.trans z42 (by omega))⟩
      · exact absurd c45 (by omega)
  · refine q_ild_n cx dX12_tellNumber_10 rfl (lv_at hl 0 rfl) ?_
    refine q_bipush cx dX12_tellNumber_11 rfl ?_
    refine q_imul cx dX12_tellNumber_13 ?_
    refine lv_istore_n (lv' := [(2, .int (q_i (1 * 10))), (0, .ref mo), (1, .int (q_i a0))]) cx.1 cx.2.1 dX12_tellNumber_14 rfl hl (by decide) rfl (fun ls hl => ?_)
    refine lv_goto (tgt := 2) cx.1 cx.2.1 dX12_tellNumber_15 (by decide) ?_
    refine q_ild_n cx dX12_tellNumber_2 rfl (lv_at hl 2 rfl) ?_
    refine q_ild_n cx dX12_tellNumber_3 rfl (lv_at hl 0 rfl) ?_
    refine q_idiv cx ⟨by omega, by omega⟩ ⟨by decide, by decide⟩ (by omega) dX12_tellNumber_4 ?_
    obtain ⟨y46, ey46⟩ : ∃ zz, Int.tdiv a0 (1 * 10) = zz := ⟨_, rfl⟩
    obtain ⟨ly46, my46, uy46⟩ := q_tdb (x := a0) (y := (1 * 10)) (by omega) (by decide)
    rw [ey46] at ly46 my46 uy46
    rw [ey46]
    refine q_bipush cx dX12_tellNumber_5 rfl ?_
    refine q_icle (tgt := 18) cx ⟨by omega, by omega⟩ ⟨by decide, by decide⟩ dX12_tellNumber_7 (by decide) (fun c47 => ?_) (fun c47 => ?_)
    · refine q_ild_n cx dX12_tellNumber_18 rfl (lv_at hl 0 rfl) ?_
      refine lv_istore_n (lv' := [(3, .int (q_i (1 * 10))), (2, .int (q_i (1 * 10))), (0, .ref mo), (1, .int (q_i a0))]) cx.1 cx.2.1 dX12_tellNumber_19 rfl hl (by decide) rfl (fun ls hl => ?_)
      refine q_ild_n cx dX12_tellNumber_20 rfl (lv_at hl 0 rfl) ?_
      refine q_ifle (tgt := 45) cx ⟨by decide, by decide⟩ dX12_tellNumber_21 (by decide) (fun c48 => ?_) (fun c48 => ?_)
      · exact absurd c48 (by omega)
      · refine q_ald_n cx dX12_tellNumber_24 rfl (lv_at hl 2 rfl) ?_
        refine q_bipush cx dX12_tellNumber_25 rfl ?_
        refine q_ild_n cx dX12_tellNumber_27 rfl (lv_at hl 3 rfl) ?_
        refine q_ild_n cx dX12_tellNumber_28 rfl (lv_at hl 0 rfl) ?_
        refine q_idiv cx ⟨by omega, by omega⟩ ⟨by decide, by decide⟩ (by omega) dX12_tellNumber_29 ?_
        obtain ⟨y49, ey49⟩ : ∃ zz, Int.tdiv a0 (1 * 10) = zz := ⟨_, rfl⟩
        obtain ⟨ly49, my49, uy49⟩ := q_tdb (x := a0) (y := (1 * 10)) (by omega) (by decide)
        rw [ey49] at ly49 my49 uy49
        rw [ey49]
        refine q_bipush cx dX12_tellNumber_30 rfl ?_
        refine q_irem cx ⟨by omega, by omega⟩ ⟨by decide, by decide⟩ (by omega) dX12_tellNumber_32 (fun y50 ey50 ay50 by50 ny50 => ?_)
        refine q_iadd cx dX12_tellNumber_33 ?_
        refine q_cVv (As := [.int (q_i (48 + y50))]) (rest := []) cx hB (fun _ h => h) hN hmo kmo (by decide) rfl (r_tell l g hN hB.2.1 mo hmo kmo (48 + y50) (by omega) (by omega) rp hrp krp xr (by omega) (by omega) hf0 hr0) q_cX12_518 q_dX12_tell (by decide) rfl rfl hl.1 rfl (Nat.le_of_ble_eq_true rfl) dX12_tellNumber_34 (fun H locs f51 h53 hF hB => ?_)
        have z54 := h53
        have z55 : q_ir (q_r f51 mo 38) rp := Eq.trans (hF.r hmo (by rw [kmo]; rfl)) hr0
        refine q_ild_n cx dX12_tellNumber_37 rfl (lv_at hl 0 rfl) ?_
        refine q_bipush cx dX12_tellNumber_38 rfl ?_
        refine q_idiv cx ⟨by decide, by decide⟩ ⟨by decide, by decide⟩ (by omega) dX12_tellNumber_40 ?_
        rw [show Int.tdiv (1 * 10) 10 = 1 from by decide]
        refine lv_istore_n (lv' := [(3, .int (q_i 1)), (2, .int (q_i (1 * 10))), (0, .ref mo), (1, .int (q_i a0))]) cx.1 cx.2.1 dX12_tellNumber_41 rfl hl (by decide) rfl (fun ls hl => ?_)
        refine lv_goto (tgt := 20) cx.1 cx.2.1 dX12_tellNumber_42 (by decide) ?_
        refine q_ild_n cx dX12_tellNumber_20 rfl (lv_at hl 0 rfl) ?_
        refine q_ifle (tgt := 45) cx ⟨by decide, by decide⟩ dX12_tellNumber_21 (by decide) (fun c57 => ?_) (fun c57 => ?_)
        · exact absurd c57 (by omega)
        · refine q_ald_n cx dX12_tellNumber_24 rfl (lv_at hl 2 rfl) ?_
          refine q_bipush cx dX12_tellNumber_25 rfl ?_
          refine q_ild_n cx dX12_tellNumber_27 rfl (lv_at hl 3 rfl) ?_
          refine q_ild_n cx dX12_tellNumber_28 rfl (lv_at hl 0 rfl) ?_
          refine q_idiv cx ⟨by omega, by omega⟩ ⟨by decide, by decide⟩ (by omega) dX12_tellNumber_29 ?_
          obtain ⟨y58, ey58⟩ : ∃ zz, Int.tdiv a0 1 = zz := ⟨_, rfl⟩
          obtain ⟨ly58, my58, uy58⟩ := q_tdb (x := a0) (y := 1) (by omega) (by decide)
          rw [ey58] at ly58 my58 uy58
          rw [ey58]
          refine q_bipush cx dX12_tellNumber_30 rfl ?_
          refine q_irem cx ⟨by omega, by omega⟩ ⟨by decide, by decide⟩ (by omega) dX12_tellNumber_32 (fun y59 ey59 ay59 by59 ny59 => ?_)
          refine q_iadd cx dX12_tellNumber_33 ?_
          refine q_cVv (As := [.int (q_i (48 + y59))]) (rest := []) cx hB (fun _ h => h) hN hmo kmo (by decide) rfl (r_tell l g hN hB.2.1 mo hmo kmo (48 + y59) (by omega) (by omega) rp hrp krp (xr + 1) (by omega) (by omega) z54 z55) q_cX12_518 q_dX12_tell (by decide) rfl rfl hl.1 rfl (Nat.le_of_ble_eq_true rfl) dX12_tellNumber_34 (fun H locs f60 h62 hF hB => ?_)
          have z63 := h62
          have z64 : q_ir (q_r f60 mo 38) rp := Eq.trans (hF.r hmo (by rw [kmo]; rfl)) z55
          refine q_ild_n cx dX12_tellNumber_37 rfl (lv_at hl 0 rfl) ?_
          refine q_bipush cx dX12_tellNumber_38 rfl ?_
          refine q_idiv cx ⟨by decide, by decide⟩ ⟨by decide, by decide⟩ (by omega) dX12_tellNumber_40 ?_
          rw [show Int.tdiv 1 10 = 0 from by decide]
          refine lv_istore_n (lv' := [(3, .int (q_i 0)), (2, .int (q_i (1 * 10))), (0, .ref mo), (1, .int (q_i a0))]) cx.1 cx.2.1 dX12_tellNumber_41 rfl hl (by decide) rfl (fun ls hl => ?_)
          refine lv_goto (tgt := 20) cx.1 cx.2.1 dX12_tellNumber_42 (by decide) ?_
          refine q_ild_n cx dX12_tellNumber_20 rfl (lv_at hl 0 rfl) ?_
          refine q_ifle (tgt := 45) cx ⟨by decide, by decide⟩ dX12_tellNumber_21 (by decide) (fun c66 => ?_) (fun c66 => ?_)
          · refine q_vret cx hr hlk hB dX12_tellNumber_45 ?_
            exact ⟨((xr + 1) + 1) - xr, by omega, by omega, (Eq.trans z63 (by omega))⟩
          · exact absurd c66 (by omega)
    · exact absurd c47 (by omega)
set_option maxHeartbeats 4000000 in
set_option maxRecDepth 100000 in
theorem r_tellNumber4 (l : Launch) (g : q_G) {K : Nat → Nat} {L : List Nat} (hN : L.Nodup) {f : Nat → va_E} (hT : q_Ty g K L f) (mo : Nat) (hmo : mo ∈ L) (kmo : K mo = 12) (a0 : Int) (la0 : 100 ≤ a0) (ua0 : a0 ≤ 9999) (rp : Nat) (hrp : rp ∈ L) (krp : K rp = 167) (xr : Int) (lxr : 0 ≤ xr) (uxr : xr ≤ 476) (hf0 : q_is (q_z f mo 39) xr) (hr0 : q_ir (q_r f mo 38) rp) : q_Ct l g K L yX12_tellNumber cX12_tellNumber 4 none 1 21 [.ref mo, .int (q_i a0)] f [(12, 39, 39), (167, 0, 479)] (q_Pv (fun (f1 : Nat → va_E) => (∃ d9 : Int, 1 ≤ d9 ∧ d9 ≤ 4 ∧ q_is (q_z f1 mo 39) (xr + d9)))) := by
  refine q_ofb (by decide +kernel) hN hT (Nat.le_of_ble_eq_true rfl) ?_
  intro p e s m below meth c ls cx hr hlk hB hl
  have hl : lv_has ls 4 [(0, .ref mo), (1, .int (q_i a0))] := hl
  obtain ⟨H, hH⟩ : ∃ H : Heap, H = s.heap := ⟨_, rfl⟩
  obtain ⟨locs, hlocs⟩ : ∃ z : List Loc, z = [] := ⟨_, rfl⟩
  rw [← hH, ← hlocs] at hB
  rw [← hH, ← hlocs]
  refine q_iconst cx dX12_tellNumber_0 ?_
  refine lv_istore_n (lv' := [(2, .int (q_i 1)), (0, .ref mo), (1, .int (q_i a0))]) cx.1 cx.2.1 dX12_tellNumber_1 rfl hl (by decide) rfl (fun ls hl => ?_)
  refine q_ild_n cx dX12_tellNumber_2 rfl (lv_at hl 2 rfl) ?_
  refine q_ild_n cx dX12_tellNumber_3 rfl (lv_at hl 0 rfl) ?_
  refine q_idiv cx ⟨by omega, by omega⟩ ⟨by decide, by decide⟩ (by omega) dX12_tellNumber_4 ?_
  obtain ⟨y74, ey74⟩ : ∃ zz, Int.tdiv a0 1 = zz := ⟨_, rfl⟩
  obtain ⟨ly74, my74, uy74⟩ := q_tdb (x := a0) (y := 1) (by omega) (by decide)
  rw [ey74] at ly74 my74 uy74
  rw [ey74]
  refine q_bipush cx dX12_tellNumber_5 rfl ?_
  refine q_icle (tgt := 18) cx ⟨by omega, by omega⟩ ⟨by decide, by decide⟩ dX12_tellNumber_7 (by decide) (fun c75 => ?_) (fun c75 => ?_)
  · exact absurd c75 (by omega)
  · refine q_ild_n cx dX12_tellNumber_10 rfl (lv_at hl 0 rfl) ?_
    refine q_bipush cx dX12_tellNumber_11 rfl ?_
    refine q_imul cx dX12_tellNumber_13 ?_
    refine lv_istore_n (lv' := [(2, .int (q_i (1 * 10))), (0, .ref mo), (1, .int (q_i a0))]) cx.1 cx.2.1 dX12_tellNumber_14 rfl hl (by decide) rfl (fun ls hl => ?_)
    refine lv_goto (tgt := 2) cx.1 cx.2.1 dX12_tellNumber_15 (by decide) ?_
    refine q_ild_n cx dX12_tellNumber_2 rfl (lv_at hl 2 rfl) ?_
    refine q_ild_n cx dX12_tellNumber_3 rfl (lv_at hl 0 rfl) ?_
    refine q_idiv cx ⟨by omega, by omega⟩ ⟨by decide, by decide⟩ (by omega) dX12_tellNumber_4 ?_
    obtain ⟨y76, ey76⟩ : ∃ zz, Int.tdiv a0 (1 * 10) = zz := ⟨_, rfl⟩
    obtain ⟨ly76, my76, uy76⟩ := q_tdb (x := a0) (y := (1 * 10)) (by omega) (by decide)
    rw [ey76] at ly76 my76 uy76
    rw [ey76]
    refine q_bipush cx dX12_tellNumber_5 rfl ?_
    refine q_icle (tgt := 18) cx ⟨by omega, by omega⟩ ⟨by decide, by decide⟩ dX12_tellNumber_7 (by decide) (fun c77 => ?_) (fun c77 => ?_)
    · exact absurd c77 (by omega)
    · refine q_ild_n cx dX12_tellNumber_10 rfl (lv_at hl 0 rfl) ?_
      refine q_bipush cx dX12_tellNumber_11 rfl ?_
      refine q_imul cx dX12_tellNumber_13 ?_
      refine lv_istore_n (lv' := [(2, .int (q_i ((1 * 10) * 10))), (0, .ref mo), (1, .int (q_i a0))]) cx.1 cx.2.1 dX12_tellNumber_14 rfl hl (by decide) rfl (fun ls hl => ?_)
      refine lv_goto (tgt := 2) cx.1 cx.2.1 dX12_tellNumber_15 (by decide) ?_
      refine q_ild_n cx dX12_tellNumber_2 rfl (lv_at hl 2 rfl) ?_
      refine q_ild_n cx dX12_tellNumber_3 rfl (lv_at hl 0 rfl) ?_
      refine q_idiv cx ⟨by omega, by omega⟩ ⟨by decide, by decide⟩ (by omega) dX12_tellNumber_4 ?_
      obtain ⟨y78, ey78⟩ : ∃ zz, Int.tdiv a0 ((1 * 10) * 10) = zz := ⟨_, rfl⟩
      obtain ⟨ly78, my78, uy78⟩ := q_tdb (x := a0) (y := ((1 * 10) * 10)) (by omega) (by decide)
      rw [ey78] at ly78 my78 uy78
      rw [ey78]
      refine q_bipush cx dX12_tellNumber_5 rfl ?_
      refine q_icle (tgt := 18) cx ⟨by omega, by omega⟩ ⟨by decide, by decide⟩ dX12_tellNumber_7 (by decide) (fun c79 => ?_) (fun c79 => ?_)
      · refine q_ild_n cx dX12_tellNumber_18 rfl (lv_at hl 0 rfl) ?_
        refine lv_istore_n (lv' := [(3, .int (q_i ((1 * 10) * 10))), (2, .int (q_i ((1 * 10) * 10))), (0, .ref mo), (1, .int (q_i a0))]) cx.1 cx.2.1 dX12_tellNumber_19 rfl hl (by decide) rfl (fun ls hl => ?_)
        refine q_ild_n cx dX12_tellNumber_20 rfl (lv_at hl 0 rfl) ?_
        refine q_ifle (tgt := 45) cx ⟨by decide, by decide⟩ dX12_tellNumber_21 (by decide) (fun c80 => ?_) (fun c80 => ?_)
        · exact absurd c80 (by omega)
        · refine q_ald_n cx dX12_tellNumber_24 rfl (lv_at hl 2 rfl) ?_
          refine q_bipush cx dX12_tellNumber_25 rfl ?_
          refine q_ild_n cx dX12_tellNumber_27 rfl (lv_at hl 3 rfl) ?_
          refine q_ild_n cx dX12_tellNumber_28 rfl (lv_at hl 0 rfl) ?_
          refine q_idiv cx ⟨by omega, by omega⟩ ⟨by decide, by decide⟩ (by omega) dX12_tellNumber_29 ?_
          obtain ⟨y81, ey81⟩ : ∃ zz, Int.tdiv a0 ((1 * 10) * 10) = zz := ⟨_, rfl⟩
          obtain ⟨ly81, my81, uy81⟩ := q_tdb (x := a0) (y := ((1 * 10) * 10)) (by omega) (by decide)
          rw [ey81] at ly81 my81 uy81
          rw [ey81]
          refine q_bipush cx dX12_tellNumber_30 rfl ?_
          refine q_irem cx ⟨by omega, by omega⟩ ⟨by decide, by decide⟩ (by omega) dX12_tellNumber_32 (fun y82 ey82 ay82 by82 ny82 => ?_)
          refine q_iadd cx dX12_tellNumber_33 ?_
          refine q_cVv (As := [.int (q_i (48 + y82))]) (rest := []) cx hB (fun _ h => h) hN hmo kmo (by decide) rfl (r_tell l g hN hB.2.1 mo hmo kmo (48 + y82) (by omega) (by omega) rp hrp krp xr (by omega) (by omega) hf0 hr0) q_cX12_518 q_dX12_tell (by decide) rfl rfl hl.1 rfl (Nat.le_of_ble_eq_true rfl) dX12_tellNumber_34 (fun H locs f83 h85 hF hB => ?_)
          have z86 := h85
          have z87 : q_ir (q_r f83 mo 38) rp := Eq.trans (hF.r hmo (by rw [kmo]; rfl)) hr0
          refine q_ild_n cx dX12_tellNumber_37 rfl (lv_at hl 0 rfl) ?_
          refine q_bipush cx dX12_tellNumber_38 rfl ?_
          refine q_idiv cx ⟨by decide, by decide⟩ ⟨by decide, by decide⟩ (by omega) dX12_tellNumber_40 ?_
          rw [show Int.tdiv ((1 * 10) * 10) 10 = 10 from by decide]
          refine lv_istore_n (lv' := [(3, .int (q_i 10)), (2, .int (q_i ((1 * 10) * 10))), (0, .ref mo), (1, .int (q_i a0))]) cx.1 cx.2.1 dX12_tellNumber_41 rfl hl (by decide) rfl (fun ls hl => ?_)
          refine lv_goto (tgt := 20) cx.1 cx.2.1 dX12_tellNumber_42 (by decide) ?_
          refine q_ild_n cx dX12_tellNumber_20 rfl (lv_at hl 0 rfl) ?_
          refine q_ifle (tgt := 45) cx ⟨by decide, by decide⟩ dX12_tellNumber_21 (by decide) (fun c89 => ?_) (fun c89 => ?_)
          · exact absurd c89 (by omega)
          · refine q_ald_n cx dX12_tellNumber_24 rfl (lv_at hl 2 rfl) ?_
            refine q_bipush cx dX12_tellNumber_25 rfl ?_
            refine q_ild_n cx dX12_tellNumber_27 rfl (lv_at hl 3 rfl) ?_
            refine q_ild_n cx dX12_tellNumber_28 rfl (lv_at hl 0 rfl) ?_
            refine q_idiv cx ⟨by omega, by omega⟩ ⟨by decide, by decide⟩ (by omega) dX12_tellNumber_29 ?_
            obtain ⟨y90, ey90⟩ : ∃ zz, Int.tdiv a0 10 = zz := ⟨_, rfl⟩
            obtain ⟨ly90, my90, uy90⟩ := q_tdb (x := a0) (y := 10) (by omega) (by decide)
            rw [ey90] at ly90 my90 uy90
            rw [ey90]
            refine q_bipush cx dX12_tellNumber_30 rfl ?_
            refine q_irem cx ⟨by omega, by omega⟩ ⟨by decide, by decide⟩ (by omega) dX12_tellNumber_32 (fun y91 ey91 ay91 by91 ny91 => ?_)
            refine q_iadd cx dX12_tellNumber_33 ?_
            refine q_cVv (As := [.int (q_i (48 + y91))]) (rest := []) cx hB (fun _ h => h) hN hmo kmo (by decide) rfl (r_tell l g hN hB.2.1 mo hmo kmo (48 + y91) (by omega) (by omega) rp hrp krp (xr + 1) (by omega) (by omega) z86 z87) q_cX12_518 q_dX12_tell (by decide) rfl rfl hl.1 rfl (Nat.le_of_ble_eq_true rfl) dX12_tellNumber_34 (fun H locs f92 h94 hF hB => ?_)
            have z95 := h94
            have z96 : q_ir (q_r f92 mo 38) rp := Eq.trans (hF.r hmo (by rw [kmo]; rfl)) z87
            refine q_ild_n cx dX12_tellNumber_37 rfl (lv_at hl 0 rfl) ?_
            refine q_bipush cx dX12_tellNumber_38 rfl ?_
            refine q_idiv cx ⟨by decide, by decide⟩ ⟨by decide, by decide⟩ (by omega) dX12_tellNumber_40 ?_
            rw [show Int.tdiv 10 10 = 1 from by decide]
            refine lv_istore_n (lv' := [(3, .int (q_i 1)), (2, .int (q_i ((1 * 10) * 10))), (0, .ref mo), (1, .int (q_i a0))]) cx.1 cx.2.1 dX12_tellNumber_41 rfl hl (by decide) rfl (fun ls hl => ?_)
            refine lv_goto (tgt := 20) cx.1 cx.2.1 dX12_tellNumber_42 (by decide) ?_
            refine q_ild_n cx dX12_tellNumber_20 rfl (lv_at hl 0 rfl) ?_
            refine q_ifle (tgt := 45) cx ⟨by decide, by decide⟩ dX12_tellNumber_21 (by decide) (fun c98 => ?_) (fun c98 => ?_)
            · exact absurd c98 (by omega)
            · refine q_ald_n cx dX12_tellNumber_24 rfl (lv_at hl 2 rfl) ?_
              refine q_bipush cx dX12_tellNumber_25 rfl ?_
              refine q_ild_n cx dX12_tellNumber_27 rfl (lv_at hl 3 rfl) ?_
              refine q_ild_n cx dX12_tellNumber_28 rfl (lv_at hl 0 rfl) ?_
              refine q_idiv cx ⟨by omega, by omega⟩ ⟨by decide, by decide⟩ (by omega) dX12_tellNumber_29 ?_
              obtain ⟨y99, ey99⟩ : ∃ zz, Int.tdiv a0 1 = zz := ⟨_, rfl⟩
              obtain ⟨ly99, my99, uy99⟩ := q_tdb (x := a0) (y := 1) (by omega) (by decide)
              rw [ey99] at ly99 my99 uy99
              rw [ey99]
              refine q_bipush cx dX12_tellNumber_30 rfl ?_
              refine q_irem cx ⟨by omega, by omega⟩ ⟨by decide, by decide⟩ (by omega) dX12_tellNumber_32 (fun y100 ey100 ay100 by100 ny100 => ?_)
              refine q_iadd cx dX12_tellNumber_33 ?_
              refine q_cVv (As := [.int (q_i (48 + y100))]) (rest := []) cx hB (fun _ h => h) hN hmo kmo (by decide) rfl (r_tell l g hN hB.2.1 mo hmo kmo (48 + y100) (by omega) (by omega) rp hrp krp ((xr + 1) + 1) (by omega) (by omega) z95 z96) q_cX12_518 q_dX12_tell (by decide) rfl rfl hl.1 rfl (Nat.le_of_ble_eq_true rfl) dX12_tellNumber_34 (fun H locs f101 h103 hF hB => ?_)
              have z104 := h103
              have z105 : q_ir (q_r f101 mo 38) rp := Eq.trans (hF.r hmo (by rw [kmo]; rfl)) z96
              refine q_ild_n cx dX12_tellNumber_37 rfl (lv_at hl 0 rfl) ?_
              refine q_bipush cx dX12_tellNumber_38 rfl ?_
              refine q_idiv cx ⟨by decide, by decide⟩ ⟨by decide, by decide⟩ (by omega) dX12_tellNumber_40 ?_
              rw [show Int.tdiv 1 10 = 0 from by decide]
              refine lv_istore_n (lv' := [(3, .int (q_i 0)), (2, .int (q_i ((1 * 10) * 10))), (0, .ref mo), (1, .int (q_i a0))]) cx.1 cx.2.1 dX12_tellNumber_41 rfl hl (by decide) rfl (fun ls hl => ?_)
              refine lv_goto (tgt := 20) cx.1 cx.2.1 dX12_tellNumber_42 (by decide) ?_
              refine q_ild_n cx dX12_tellNumber_20 rfl (lv_at hl 0 rfl) ?_
              refine q_ifle (tgt := 45) cx ⟨by decide, by decide⟩ dX12_tellNumber_21 (by decide) (fun c107 => ?_) (fun c107 => ?_)
              · refine q_vret cx hr hlk hB dX12_tellNumber_45 ?_
                exact ⟨(((xr + 1) + 1) + 1) - xr, by omega, by omega, (Eq.trans z104 (by omega))⟩
              · exact absurd c107 (by omega)
      · refine q_ild_n cx dX12_tellNumber_10 rfl (lv_at hl 0 rfl) ?_
        refine q_bipush cx dX12_tellNumber_11 rfl ?_
        refine q_imul cx dX12_tellNumber_13 ?_
        refine lv_istore_n (lv' := [(2, .int (q_i (((1 * 10) * 10) * 10))), (0, .ref mo), (1, .int (q_i a0))]) cx.1 cx.2.1 dX12_tellNumber_14 rfl hl (by decide) rfl (fun ls hl => ?_)
        refine lv_goto (tgt := 2) cx.1 cx.2.1 dX12_tellNumber_15 (by decide) ?_
        refine q_ild_n cx dX12_tellNumber_2 rfl (lv_at hl 2 rfl) ?_
        refine q_ild_n cx dX12_tellNumber_3 rfl (lv_at hl 0 rfl) ?_
        refine q_idiv cx ⟨by omega, by omega⟩ ⟨by decide, by decide⟩ (by omega) dX12_tellNumber_4 ?_
        obtain ⟨y108, ey108⟩ : ∃ zz, Int.tdiv a0 (((1 * 10) * 10) * 10) = zz := ⟨_, rfl⟩
        obtain ⟨ly108, my108, uy108⟩ := q_tdb (x := a0) (y := (((1 * 10) * 10) * 10)) (by omega) (by decide)
        rw [ey108] at ly108 my108 uy108
        rw [ey108]
        refine q_bipush cx dX12_tellNumber_5 rfl ?_
        refine q_icle (tgt := 18) cx ⟨by omega, by omega⟩ ⟨by decide, by decide⟩ dX12_tellNumber_7 (by decide) (fun c109 => ?_) (fun c109 => ?_)
        · refine q_ild_n cx dX12_tellNumber_18 rfl (lv_at hl 0 rfl) ?_
          refine lv_istore_n (lv' := [(3, .int (q_i (((1 * 10) * 10) * 10))), (2, .int (q_i (((1 * 10) * 10) * 10))), (0, .ref mo), (1, .int (q_i a0))]) cx.1 cx.2.1 dX12_tellNumber_19 rfl hl (by decide) rfl (fun ls hl => ?_)
          refine q_ild_n cx dX12_tellNumber_20 rfl (lv_at hl 0 rfl) ?_
          refine q_ifle (tgt := 45) cx ⟨by decide, by decide⟩ dX12_tellNumber_21 (by decide) (fun c110 => ?_) (fun c110 => ?_)
          · exact absurd c110 (by omega)
          · refine q_ald_n cx dX12_tellNumber_24 rfl (lv_at hl 2 rfl) ?_
            refine q_bipush cx dX12_tellNumber_25 rfl ?_
            refine q_ild_n cx dX12_tellNumber_27 rfl (lv_at hl 3 rfl) ?_
            refine q_ild_n cx dX12_tellNumber_28 rfl (lv_at hl 0 rfl) ?_
            refine q_idiv cx ⟨by omega, by omega⟩ ⟨by decide, by decide⟩ (by omega) dX12_tellNumber_29 ?_
            obtain ⟨y111, ey111⟩ : ∃ zz, Int.tdiv a0 (((1 * 10) * 10) * 10) = zz := ⟨_, rfl⟩
            obtain ⟨ly111, my111, uy111⟩ := q_tdb (x := a0) (y := (((1 * 10) * 10) * 10)) (by omega) (by decide)
            rw [ey111] at ly111 my111 uy111
            rw [ey111]
            refine q_bipush cx dX12_tellNumber_30 rfl ?_
            refine q_irem cx ⟨by omega, by omega⟩ ⟨by decide, by decide⟩ (by omega) dX12_tellNumber_32 (fun y112 ey112 ay112 by112 ny112 => ?_)
            refine q_iadd cx dX12_tellNumber_33 ?_
            refine q_cVv (As := [.int (q_i (48 + y112))]) (rest := []) cx hB (fun _ h => h) hN hmo kmo (by decide) rfl (r_tell l g hN hB.2.1 mo hmo kmo (48 + y112) (by omega) (by omega) rp hrp krp xr (by omega) (by omega) hf0 hr0) q_cX12_518 q_dX12_tell (by decide) rfl rfl hl.1 rfl (Nat.le_of_ble_eq_true rfl) dX12_tellNumber_34 (fun H locs f113 h115 hF hB => ?_)
            have z116 := h115
            have z117 : q_ir (q_r f113 mo 38) rp := Eq.trans (hF.r hmo (by rw [kmo]; rfl)) hr0
            refine q_ild_n cx dX12_tellNumber_37 rfl (lv_at hl 0 rfl) ?_
            refine q_bipush cx dX12_tellNumber_38 rfl ?_
            refine q_idiv cx ⟨by decide, by decide⟩ ⟨by decide, by decide⟩ (by omega) dX12_tellNumber_40 ?_
            rw [show Int.tdiv (((1 * 10) * 10) * 10) 10 = 100 from by decide]
            refine lv_istore_n (lv' := [(3, .int (q_i 100)), (2, .int (q_i (((1 * 10) * 10) * 10))), (0, .ref mo), (1, .int (q_i a0))]) cx.1 cx.2.1 dX12_tellNumber_41 rfl hl (by decide) rfl (fun ls hl => ?_)
            refine lv_goto (tgt := 20) cx.1 cx.2.1 dX12_tellNumber_42 (by decide) ?_
            refine q_ild_n cx dX12_tellNumber_20 rfl (lv_at hl 0 rfl) ?_
            refine q_ifle (tgt := 45) cx ⟨by decide, by decide⟩ dX12_tellNumber_21 (by decide) (fun c119 => ?_) (fun c119 => ?_)
            · exact absurd c119 (by omega)
            · refine q_ald_n cx dX12_tellNumber_24 rfl (lv_at hl 2 rfl) ?_
              refine q_bipush cx dX12_tellNumber_25 rfl ?_
              refine q_ild_n cx dX12_tellNumber_27 rfl (lv_at hl 3 rfl) ?_
              refine q_ild_n cx dX12_tellNumber_28 rfl (lv_at hl 0 rfl) ?_
              refine q_idiv cx ⟨by omega, by omega⟩ ⟨by decide, by decide⟩ (by omega) dX12_tellNumber_29 ?_
              obtain ⟨y120, ey120⟩ : ∃ zz, Int.tdiv a0 100 = zz := ⟨_, rfl⟩
              obtain ⟨ly120, my120, uy120⟩ := q_tdb (x := a0) (y := 100) (by omega) (by decide)
              rw [ey120] at ly120 my120 uy120
              rw [ey120]
              refine q_bipush cx dX12_tellNumber_30 rfl ?_
              refine q_irem cx ⟨by omega, by omega⟩ ⟨by decide, by decide⟩ (by omega) dX12_tellNumber_32 (fun y121 ey121 ay121 by121 ny121 => ?_)
              refine q_iadd cx dX12_tellNumber_33 ?_
              refine q_cVv (As := [.int (q_i (48 + y121))]) (rest := []) cx hB (fun _ h => h) hN hmo kmo (by decide) rfl (r_tell l g hN hB.2.1 mo hmo kmo (48 + y121) (by omega) (by omega) rp hrp krp (xr + 1) (by omega) (by omega) z116 z117) q_cX12_518 q_dX12_tell (by decide) rfl rfl hl.1 rfl (Nat.le_of_ble_eq_true rfl) dX12_tellNumber_34 (fun H locs f122 h124 hF hB => ?_)
              have z125 := h124
              have z126 : q_ir (q_r f122 mo 38) rp := Eq.trans (hF.r hmo (by rw [kmo]; rfl)) z117
              refine q_ild_n cx dX12_tellNumber_37 rfl (lv_at hl 0 rfl) ?_
              refine q_bipush cx dX12_tellNumber_38 rfl ?_
              refine q_idiv cx ⟨by decide, by decide⟩ ⟨by decide, by decide⟩ (by omega) dX12_tellNumber_40 ?_
              rw [show Int.tdiv 100 10 = 10 from by decide]
              refine lv_istore_n (lv' := [(3, .int (q_i 10)), (2, .int (q_i (((1 * 10) * 10) * 10))), (0, .ref mo), (1, .int (q_i a0))]) cx.1 cx.2.1 dX12_tellNumber_41 rfl hl (by decide) rfl (fun ls hl => ?_)
              refine lv_goto (tgt := 20) cx.1 cx.2.1 dX12_tellNumber_42 (by decide) ?_
              refine q_ild_n cx dX12_tellNumber_20 rfl (lv_at hl 0 rfl) ?_
              refine q_ifle (tgt := 45) cx ⟨by decide, by decide⟩ dX12_tellNumber_21 (by decide) (fun c128 => ?_) (fun c128 => ?_)
              · exact absurd c128 (by omega)
              · refine q_ald_n cx dX12_tellNumber_24 rfl (lv_at hl 2 rfl) ?_
                refine q_bipush cx dX12_tellNumber_25 rfl ?_
                refine q_ild_n cx dX12_tellNumber_27 rfl (lv_at hl 3 rfl) ?_
                refine q_ild_n cx dX12_tellNumber_28 rfl (lv_at hl 0 rfl) ?_
                refine q_idiv cx ⟨by omega, by omega⟩ ⟨by decide, by decide⟩ (by omega) dX12_tellNumber_29 ?_
                obtain ⟨y129, ey129⟩ : ∃ zz, Int.tdiv a0 10 = zz := ⟨_, rfl⟩
                obtain ⟨ly129, my129, uy129⟩ := q_tdb (x := a0) (y := 10) (by omega) (by decide)
                rw [ey129] at ly129 my129 uy129
                rw [ey129]
                refine q_bipush cx dX12_tellNumber_30 rfl ?_
                refine q_irem cx ⟨by omega, by omega⟩ ⟨by decide, by decide⟩ (by omega) dX12_tellNumber_32 (fun y130 ey130 ay130 by130 ny130 => ?_)
                refine q_iadd cx dX12_tellNumber_33 ?_
                refine q_cVv (As := [.int (q_i (48 + y130))]) (rest := []) cx hB (fun _ h => h) hN hmo kmo (by decide) rfl (r_tell l g hN hB.2.1 mo hmo kmo (48 + y130) (by omega) (by omega) rp hrp krp ((xr + 1) + 1) (by omega) (by omega) z125 z126) q_cX12_518 q_dX12_tell (by decide) rfl rfl hl.1 rfl (Nat.le_of_ble_eq_true rfl) dX12_tellNumber_34 (fun H locs f131 h133 hF hB => ?_)
                have z134 := h133
                have z135 : q_ir (q_r f131 mo 38) rp := Eq.trans (hF.r hmo (by rw [kmo]; rfl)) z126
                refine q_ild_n cx dX12_tellNumber_37 rfl (lv_at hl 0 rfl) ?_
                refine q_bipush cx dX12_tellNumber_38 rfl ?_
                refine q_idiv cx ⟨by decide, by decide⟩ ⟨by decide, by decide⟩ (by omega) dX12_tellNumber_40 ?_
                rw [show Int.tdiv 10 10 = 1 from by decide]
                refine lv_istore_n (lv' := [(3, .int (q_i 1)), (2, .int (q_i (((1 * 10) * 10) * 10))), (0, .ref mo), (1, .int (q_i a0))]) cx.1 cx.2.1 dX12_tellNumber_41 rfl hl (by decide) rfl (fun ls hl => ?_)
                refine lv_goto (tgt := 20) cx.1 cx.2.1 dX12_tellNumber_42 (by decide) ?_
                refine q_ild_n cx dX12_tellNumber_20 rfl (lv_at hl 0 rfl) ?_
                refine q_ifle (tgt := 45) cx ⟨by decide, by decide⟩ dX12_tellNumber_21 (by decide) (fun c137 => ?_) (fun c137 => ?_)
                · exact absurd c137 (by omega)
                · refine q_ald_n cx dX12_tellNumber_24 rfl (lv_at hl 2 rfl) ?_
                  refine q_bipush cx dX12_tellNumber_25 rfl ?_
                  refine q_ild_n cx dX12_tellNumber_27 rfl (lv_at hl 3 rfl) ?_
                  refine q_ild_n cx dX12_tellNumber_28 rfl (lv_at hl 0 rfl) ?_
                  refine q_idiv cx ⟨by omega, by omega⟩ ⟨by decide, by decide⟩ (by omega) dX12_tellNumber_29 ?_
                  obtain ⟨y138, ey138⟩ : ∃ zz, Int.tdiv a0 1 = zz := ⟨_, rfl⟩
                  obtain ⟨ly138, my138, uy138⟩ := q_tdb (x := a0) (y := 1) (by omega) (by decide)
                  rw [ey138] at ly138 my138 uy138
                  rw [ey138]
                  refine q_bipush cx dX12_tellNumber_30 rfl ?_
                  refine q_irem cx ⟨by omega, by omega⟩ ⟨by decide, by decide⟩ (by omega) dX12_tellNumber_32 (fun y139 ey139 ay139 by139 ny139 => ?_)
                  refine q_iadd cx dX12_tellNumber_33 ?_
                  refine q_cVv (As := [.int (q_i (48 + y139))]) (rest := []) cx hB (fun _ h => h) hN hmo kmo (by decide) rfl (r_tell l g hN hB.2.1 mo hmo kmo (48 + y139) (by omega) (by omega) rp hrp krp (((xr + 1) + 1) + 1) (by omega) (by omega) z134 z135) q_cX12_518 q_dX12_tell (by decide) rfl rfl hl.1 rfl (Nat.le_of_ble_eq_true rfl) dX12_tellNumber_34 (fun H locs f140 h142 hF hB => ?_)
                  have z143 := h142
                  have z144 : q_ir (q_r f140 mo 38) rp := Eq.trans (hF.r hmo (by rw [kmo]; rfl)) z135
                  refine q_ild_n cx dX12_tellNumber_37 rfl (lv_at hl 0 rfl) ?_
                  refine q_bipush cx dX12_tellNumber_38 rfl ?_
                  refine q_idiv cx ⟨by decide, by decide⟩ ⟨by decide, by decide⟩ (by omega) dX12_tellNumber_40 ?_
                  rw [show Int.tdiv 1 10 = 0 from by decide]
                  refine lv_istore_n (lv' := [(3, .int (q_i 0)), (2, .int (q_i (((1 * 10) * 10) * 10))), (0, .ref mo), (1, .int (q_i a0))]) cx.1 cx.2.1 dX12_tellNumber_41 rfl hl (by decide) rfl (fun ls hl => ?_)
                  refine lv_goto (tgt := 20) cx.1 cx.2.1 dX12_tellNumber_42 (by decide) ?_
                  refine q_ild_n cx dX12_tellNumber_20 rfl (lv_at hl 0 rfl) ?_
                  refine q_ifle (tgt := 45) cx ⟨by decide, by decide⟩ dX12_tellNumber_21 (by decide) (fun c146 => ?_) (fun c146 => ?_)
                  · refine q_vret cx hr hlk hB dX12_tellNumber_45 ?_
                    exact ⟨((((xr + 1) + 1) + 1) + 1) - xr, by omega, by omega, (Eq.trans z143 (by omega))⟩
                  · exact absurd c146 (by omega)
        · exact absurd c109 (by omega)
set_option maxHeartbeats 4000000 in
set_option maxRecDepth 100000 in
theorem r_tellNumbern (l : Launch) (g : q_G) {K : Nat → Nat} {L : List Nat} (hN : L.Nodup) {f : Nat → va_E} (hT : q_Ty g K L f) (mo : Nat) (hmo : mo ∈ L) (kmo : K mo = 12) (a0 : Int) (la0 : (-198) ≤ a0) (ua0 : a0 ≤ (-1)) (rp : Nat) (hrp : rp ∈ L) (krp : K rp = 167) (xr : Int) (lxr : 0 ≤ xr) (uxr : xr ≤ 479) (hf0 : q_is (q_z f mo 39) xr) (hr0 : q_ir (q_r f mo 38) rp) : q_Ct l g K L yX12_tellNumber cX12_tellNumber 4 none 1 21 [.ref mo, .int (q_i a0)] f [(12, 39, 39), (167, 0, 479)] (q_Pv (fun (f1 : Nat → va_E) => (∃ d9 : Int, 1 ≤ d9 ∧ d9 ≤ 1 ∧ q_is (q_z f1 mo 39) (xr + d9)))) := by
  refine q_ofb (by decide +kernel) hN hT (Nat.le_of_ble_eq_true rfl) ?_
  intro p e s m below meth c ls cx hr hlk hB hl
  have hl : lv_has ls 4 [(0, .ref mo), (1, .int (q_i a0))] := hl
  obtain ⟨H, hH⟩ : ∃ H : Heap, H = s.heap := ⟨_, rfl⟩
  obtain ⟨locs, hlocs⟩ : ∃ z : List Loc, z = [] := ⟨_, rfl⟩
  rw [← hH, ← hlocs] at hB
  rw [← hH, ← hlocs]
  refine q_iconst cx dX12_tellNumber_0 ?_
  refine lv_istore_n (lv' := [(2, .int (q_i 1)), (0, .ref mo), (1, .int (q_i a0))]) cx.1 cx.2.1 dX12_tellNumber_1 rfl hl (by decide) rfl (fun ls hl => ?_)
  refine q_ild_n cx dX12_tellNumber_2 rfl (lv_at hl 2 rfl) ?_
  refine q_ild_n cx dX12_tellNumber_3 rfl (lv_at hl 0 rfl) ?_
  refine q_idiv cx ⟨by omega, by omega⟩ ⟨by decide, by decide⟩ (by omega) dX12_tellNumber_4 ?_
  obtain ⟨y13, ey13⟩ : ∃ zz, Int.tdiv a0 1 = zz := ⟨_, rfl⟩
  obtain ⟨ly13, uy13⟩ := q_tdn (x := a0) (y := 1) (by omega) (by decide)
  rw [ey13] at ly13 uy13
  rw [ey13]
  refine q_bipush cx dX12_tellNumber_5 rfl ?_
  refine q_icle (tgt := 18) cx ⟨by omega, by omega⟩ ⟨by decide, by decide⟩ dX12_tellNumber_7 (by decide) (fun c14 => ?_) (fun c14 => ?_)
  · refine q_ild_n cx dX12_tellNumber_18 rfl (lv_at hl 0 rfl) ?_
    refine lv_istore_n (lv' := [(3, .int (q_i 1)), (2, .int (q_i 1)), (0, .ref mo), (1, .int (q_i a0))]) cx.1 cx.2.1 dX12_tellNumber_19 rfl hl (by decide) rfl (fun ls hl => ?_)
    refine q_ild_n cx dX12_tellNumber_20 rfl (lv_at hl 0 rfl) ?_
    refine q_ifle (tgt := 45) cx ⟨by decide, by decide⟩ dX12_tellNumber_21 (by decide) (fun c15 => ?_) (fun c15 => ?_)
    · exact absurd c15 (by omega)
    · refine q_ald_n cx dX12_tellNumber_24 rfl (lv_at hl 2 rfl) ?_
      refine q_bipush cx dX12_tellNumber_25 rfl ?_
      refine q_ild_n cx dX12_tellNumber_27 rfl (lv_at hl 3 rfl) ?_
      refine q_ild_n cx dX12_tellNumber_28 rfl (lv_at hl 0 rfl) ?_
      refine q_idiv cx ⟨by omega, by omega⟩ ⟨by decide, by decide⟩ (by omega) dX12_tellNumber_29 ?_
      obtain ⟨y16, ey16⟩ : ∃ zz, Int.tdiv a0 1 = zz := ⟨_, rfl⟩
      obtain ⟨ly16, uy16⟩ := q_tdn (x := a0) (y := 1) (by omega) (by decide)
      rw [ey16] at ly16 uy16
      rw [ey16]
      refine q_bipush cx dX12_tellNumber_30 rfl ?_
      refine q_irem cx ⟨by omega, by omega⟩ ⟨by decide, by decide⟩ (by omega) dX12_tellNumber_32 (fun y17 ey17 ay17 by17 ny17 => ?_)
      refine q_iadd cx dX12_tellNumber_33 ?_
      refine q_cVv (As := [.int (q_i (48 + y17))]) (rest := []) cx hB (fun _ h => h) hN hmo kmo (by decide) rfl (r_tell l g hN hB.2.1 mo hmo kmo (48 + y17) (by omega) (by omega) rp hrp krp xr (by omega) (by omega) hf0 hr0) q_cX12_518 q_dX12_tell (by decide) rfl rfl hl.1 rfl (Nat.le_of_ble_eq_true rfl) dX12_tellNumber_34 (fun H locs f18 h20 hF hB => ?_)
      have z21 := h20
      have z22 : q_ir (q_r f18 mo 38) rp := Eq.trans (hF.r hmo (by rw [kmo]; rfl)) hr0
      refine q_ild_n cx dX12_tellNumber_37 rfl (lv_at hl 0 rfl) ?_
      refine q_bipush cx dX12_tellNumber_38 rfl ?_
      refine q_idiv cx ⟨by decide, by decide⟩ ⟨by decide, by decide⟩ (by omega) dX12_tellNumber_40 ?_
      rw [show Int.tdiv 1 10 = 0 from by decide]
      refine lv_istore_n (lv' := [(3, .int (q_i 0)), (2, .int (q_i 1)), (0, .ref mo), (1, .int (q_i a0))]) cx.1 cx.2.1 dX12_tellNumber_41 rfl hl (by decide) rfl (fun ls hl => ?_)
      refine lv_goto (tgt := 20) cx.1 cx.2.1 dX12_tellNumber_42 (by decide) ?_
      refine q_ild_n cx dX12_tellNumber_20 rfl (lv_at hl 0 rfl) ?_
      refine q_ifle (tgt := 45) cx ⟨by decide, by decide⟩ dX12_tellNumber_21 (by decide) (fun c24 => ?_) (fun c24 => ?_)
      · refine q_vret cx hr hlk hB dX12_tellNumber_45 ?_
        exact ⟨(xr + 1) - xr, by omega, by omega, (Eq.trans z21 (by omega))⟩
      · exact absurd c24 (by omega)
  · exact absurd c14 (by omega)
set_option maxHeartbeats 4000000 in
set_option maxRecDepth 100000 in
theorem r_tellNode (l : Launch) (g : q_G) {K : Nat → Nat} {L : List Nat} (hN : L.Nodup) {f : Nat → va_E} (hT : q_Ty g K L f) (mo : Nat) (hmo : mo ∈ L) (kmo : K mo = 12) (a0 : Int) (la0 : 0 ≤ a0) (ua0 : a0 ≤ 9) (sr : Nat) (hsr : sr ∈ L) (ksr : K sr = 151) (nm : Nat) (hnm : nm ∈ L) (knm : K nm = 156) (rp : Nat) (hrp : rp ∈ L) (krp : K rp = 167) (xr : Int) (lxr : 0 ≤ xr) (uxr : xr ≤ 447) (hf0 : q_is (q_z f mo 39) xr) (hr0 : q_ir (q_r f mo 13) sr) (hr1 : q_ir (q_r f mo 18) nm) (hr2 : q_ir (q_r f mo 38) rp) (hp0 : xr ≤ 23 * a0 + 4 * k_cl f sr a0 60) (hgr : q_gr f sr) : q_Ct l g K L yX12_tellNode cX12_tellNode 3 none 6 133 [.ref mo, .int (q_i a0)] f [(12, 39, 39), (167, 0, 479)] (q_Pv (fun (f1 : Nat → va_E) => 0 ≤ q_z f1 mo 39 ∧ q_z f1 mo 39 ≤ 480 ∧ (q_z f1 mo 39 ≤ 23 * (a0 + 1) + 4 * k_cl f1 sr (a0 + 1) 60))) := by
  refine q_ofb (by decide +kernel) hN hT (Nat.le_of_ble_eq_true rfl) ?_
  intro p e s m below meth c ls cx hr hlk hB hl
  have hl : lv_has ls 3 [(0, .ref mo), (1, .int (q_i a0))] := hl
  have J82 : ∀ (n : Nat) (f82 : Nat → va_E) (v82_2 : Int) (lv82_2 : 0 ≤ v82_2) (uv82_2 : v82_2 ≤ 61) (w82_mo_39 : Int) (lw82_mo_39 : 0 ≤ w82_mo_39) (uw82_mo_39 : w82_mo_39 ≤ 480) (hj_mo_39 : q_is (q_z f82 mo 39) w82_mo_39) (hq_mo_13 : q_ir (q_r f82 mo 13) sr) (hq_mo_18 : q_ir (q_r f82 mo 18) nm) (hq_mo_38 : q_ir (q_r f82 mo 38) rp) (hgr82 : q_gr f82 sr) (hct : w82_mo_39 ≤ xr + 22 + 4 * k_ct f sr a0 (Int.toNat v82_2)) (hmu : (Int.toNat (2147483647 - v82_2)) < n) (H : Heap) (locs : List Loc) (hB : q_B g K L (fun q => q ∈ L) [(12, 39, 39), (167, 0, 479)] f f82 s H locs) (ls : Array Slot) (hl : lv_has ls 3 [(0, .ref mo), (1, .int (q_i a0)), (2, .int (q_i v82_2))]), W p l e { frames := 6, cells := 0, slots := 0, locals := 133 } s m ([.ref mo, .int (q_i a0)] : List Value).toArray below meth c H locs 0 0 (MQ below (q_Q g K L [(12, 39, 39), (167, 0, 479)] f (q_Pv (fun (f1 : Nat → va_E) => 0 ≤ q_z f1 mo 39 ∧ q_z f1 mo 39 ≤ 480 ∧ (q_z f1 mo 39 ≤ 23 * (a0 + 1) + 4 * k_cl f1 sr (a0 + 1) 60)))) ([.ref mo, .int (q_i a0)] : List Value).toArray s 0 0 (fun q => q ∈ L)) (F0 m 82 ls []) := by
    intro n
    induction n with
    | zero =>
      intro f82 v82_2 lv82_2 uv82_2 w82_mo_39 lw82_mo_39 uw82_mo_39 hj_mo_39 hq_mo_13 hq_mo_18 hq_mo_38 hgr82 hct hmu
      exact absurd hmu (Nat.not_lt_zero _)
    | succ n ih82 =>
      intro f82 v82_2 lv82_2 uv82_2 w82_mo_39 lw82_mo_39 uw82_mo_39 hj_mo_39 hq_mo_13 hq_mo_18 hq_mo_38 hgr82 hct hmu H locs hB ls hl
      refine q_ild_n cx dX12_tellNode_82 rfl (lv_at hl 2 rfl) ?_
      refine q_ald_n cx dX12_tellNode_83 rfl (lv_at hl 0 rfl) ?_
      refine q_gX12_20 cx hB hmo kmo hq_mo_13 dX12_tellNode_84 (fun hb1205 kb1205 => ?_)
      refine q_iconst cx dX12_tellNode_87 ?_
      obtain ⟨x1206, ex1206⟩ : ∃ zz, q_is (q_z f82 sr (Int.toNat 4)) zz := ⟨_, q_isr _⟩
      refine q_sald cx hB hsr ksr (by decide) (by decide) ex1206 dX12_tellNode_88 (fun rx1206 => ?_)
      obtain ⟨lx1206, ux1206⟩ : 0 ≤ x1206 ∧ x1206 ≤ 61 := q_isb ex1206 (q_gr_at hgr82 (by decide) rfl)
      refine q_icge (tgt := 137) cx ⟨by omega, by omega⟩ ⟨by omega, by omega⟩ dX12_tellNode_89 (by decide) (fun c1208 => ?_) (fun c1208 => ?_)
      · have hq9 := k_ct_le f sr a0 (m := Int.toNat v82_2) (m2 := 60) (by omega)
        have h7 := hp0
        have h8 := k_cl_1 (f := f) (sr := sr) (n := a0) 60
        have h9 := k_cl_le (f := f) (sr := sr) (n := a0 + 1) 60
        have hend : w82_mo_39 + 1 ≤ 23 * (a0 + 1) + 4 * k_cl f sr (a0 + 1) 60 := by omega
        have hw9 : w82_mo_39 ≤ 469 := by omega
        refine q_ald_n cx dX12_tellNode_137 rfl (lv_at hl 0 rfl) ?_
        refine q_bipush cx dX12_tellNode_138 rfl ?_
        refine q_cVv (As := [.int (q_i 10)]) (rest := []) cx hB (fun _ h => h) hN hmo kmo (by decide) rfl (r_tell l g hN hB.2.1 mo hmo kmo 10 (by decide) (by decide) rp hrp krp w82_mo_39 (by omega) (by omega) hj_mo_39 hq_mo_38) q_cX12_518 q_dX12_tell (by decide) rfl rfl hl.1 rfl (Nat.le_of_ble_eq_true rfl) dX12_tellNode_140 (fun H locs f1209 h1211 hF hB => ?_)
        have z1212 := h1211
        have z1213 : q_is (q_z f1209 sr 4) x1206 := Eq.trans (hF.z hsr (by rw [ksr]; rfl)) ex1206
        have z1214 : q_ir (q_r f1209 mo 13) sr := Eq.trans (hF.r hmo (by rw [kmo]; rfl)) hq_mo_13
        have z1215 : q_ir (q_r f1209 mo 18) nm := Eq.trans (hF.r hmo (by rw [kmo]; rfl)) hq_mo_18
        have z1216 : q_ir (q_r f1209 mo 38) rp := Eq.trans (hF.r hmo (by rw [kmo]; rfl)) hq_mo_38
        have g1217 : q_gr f1209 sr := q_gr_fr hgr82 (fun i9 _ => hF.z hsr (by rw [ksr]; rfl))
        refine q_vret cx hr hlk hB dX12_tellNode_143 ?_
        exact ⟨(q_isl z1212 (by omega)), (q_isu z1212 (by omega)), (q_isu z1212 (by rw [k_cl_fr (fun i => hB.2.2.z hsr (by rw [ksr]; rfl))]; omega))⟩
      · refine q_ald_n cx dX12_tellNode_92 rfl (lv_at hl 0 rfl) ?_
        refine q_ild_n cx dX12_tellNode_93 rfl (lv_at hl 2 rfl) ?_
        refine q_ild_n cx dX12_tellNode_94 rfl (lv_at hl 1 rfl) ?_
        refine q_cVi (As := [.int (q_i v82_2), .int (q_i a0)]) (rest := []) cx hB (fun _ h => h) hN hmo kmo (by decide) rfl (r_isUnderWayAt l g hN hB.2.1 mo hmo kmo v82_2 (by omega) (by omega) a0 (by omega) (by omega) sr hsr ksr hq_mo_13 hgr82) q_cX12_352 q_dX12_isUnderWayAt (by decide) rfl rfl hl.1 rfl (Nat.le_of_ble_eq_true rfl) dX12_tellNode_95 (fun y1219 H locs f1218 ry1219 h1220 hF hB => ?_)
        rcases h1220 with h1221 | h1222
        · obtain ⟨rfl, qy1219, t1223⟩ := h1221
          subst qy1219
          refine q_ifne (tgt := 104) cx ⟨by decide, by decide⟩ dX12_tellNode_98 (by decide) (fun c1224 => ?_) (fun c1224 => ?_)
          · have hu : k_uw f sr v82_2 a0 := k_uw_fr t1223 (fun i => hB.2.2.z hsr (by rw [ksr]; rfl))
            have hs9 := k_ct_1 hu (by omega)
            have hq9 := k_ct_le f sr a0 (m := Int.toNat (v82_2 + 1)) (m2 := 60) (by omega)
            have h7 := hp0
            have h8 := k_cl_1 (f := f) (sr := sr) (n := a0) 60
            have h9 := k_cl_le (f := f) (sr := sr) (n := a0 + 1) 60
            have hw9 : w82_mo_39 ≤ 465 := by omega
            refine q_ald_n cx dX12_tellNode_104 rfl (lv_at hl 0 rfl) ?_
            refine q_bipush cx dX12_tellNode_105 rfl ?_
            refine q_cVv (As := [.int (q_i 32)]) (rest := []) cx hB (fun _ h => h) hN hmo kmo (by decide) rfl (r_tell l g hN hB.2.1 mo hmo kmo 32 (by decide) (by decide) rp hrp krp w82_mo_39 (by omega) (by omega) hj_mo_39 hq_mo_38) q_cX12_518 q_dX12_tell (by decide) rfl rfl hl.1 rfl (Nat.le_of_ble_eq_true rfl) dX12_tellNode_107 (fun H locs f1225 h1227 hF hB => ?_)
            have z1228 := h1227
            have z1229 : q_is (q_z f1225 sr 4) x1206 := Eq.trans (hF.z hsr (by rw [ksr]; rfl)) ex1206
            have z1230 : q_ir (q_r f1225 mo 13) sr := Eq.trans (hF.r hmo (by rw [kmo]; rfl)) hq_mo_13
            have z1231 : q_ir (q_r f1225 mo 18) nm := Eq.trans (hF.r hmo (by rw [kmo]; rfl)) hq_mo_18
            have z1232 : q_ir (q_r f1225 mo 38) rp := Eq.trans (hF.r hmo (by rw [kmo]; rfl)) hq_mo_38
            have g1233 : q_gr f1225 sr := q_gr_fr hgr82 (fun i9 _ => hF.z hsr (by rw [ksr]; rfl))
            refine q_ald_n cx dX12_tellNode_110 rfl (lv_at hl 0 rfl) ?_
            refine q_ild_n cx dX12_tellNode_111 rfl (lv_at hl 2 rfl) ?_
            refine q_cVv (As := [.int (q_i v82_2)]) (rest := []) cx hB (fun _ h => h) hN hmo kmo (by decide) rfl (r_tellNumber2 l g hN hB.2.1 mo hmo kmo v82_2 (by omega) (by omega) rp hrp krp (w82_mo_39 + 1) (by omega) (by omega) z1228 z1232) q_cX12_521 q_dX12_tellNumber (by decide) rfl rfl hl.1 rfl (Nat.le_of_ble_eq_true rfl) dX12_tellNode_112 (fun H locs f1234 h1236 hF hB => ?_)
            obtain ⟨dz1237, lz1237, uz1237, z1237⟩ := h1236
            have z1238 : q_is (q_z f1234 sr 4) x1206 := Eq.trans (hF.z hsr (by rw [ksr]; rfl)) z1229
            have z1239 : q_ir (q_r f1234 mo 13) sr := Eq.trans (hF.r hmo (by rw [kmo]; rfl)) z1230
            have z1240 : q_ir (q_r f1234 mo 18) nm := Eq.trans (hF.r hmo (by rw [kmo]; rfl)) z1231
            have z1241 : q_ir (q_r f1234 mo 38) rp := Eq.trans (hF.r hmo (by rw [kmo]; rfl)) z1232
            have g1242 : q_gr f1234 sr := q_gr_fr g1233 (fun i9 _ => hF.z hsr (by rw [ksr]; rfl))
            refine q_ald_n cx dX12_tellNode_115 rfl (lv_at hl 0 rfl) ?_
            refine q_ild_n cx dX12_tellNode_116 rfl (lv_at hl 2 rfl) ?_
            refine q_iconst cx dX12_tellNode_117 ?_
            refine q_cVi (As := [.int (q_i v82_2), .int (q_i 5)]) (rest := []) cx hB (fun _ h => h) hN hmo kmo (by decide) rfl (r_ofMessage5 l g hN hB.2.1 mo hmo kmo v82_2 (by omega) (by omega) 5 (by decide) (by decide) sr hsr ksr z1239 g1242) q_cX12_308 q_dX12_ofMessage (by decide) rfl rfl hl.1 rfl (Nat.le_of_ble_eq_true rfl) dX12_tellNode_118 (fun y1244 H locs f1243 ry1244 h1245 hF hB => ?_)
            obtain ⟨rfl, ly1244, uy1244⟩ := h1245
            refine q_iconst cx dX12_tellNode_121 ?_
            refine q_icne (tgt := 131) cx ⟨by omega, by omega⟩ ⟨by decide, by decide⟩ dX12_tellNode_122 (by decide) (fun c1246 => ?_) (fun c1246 => ?_)
            · refine q_iinc (lv' := [(2, .int (q_i (v82_2 + 1))), (0, .ref mo), (1, .int (q_i a0))]) cx dX12_tellNode_131 hl (k := 2) rfl (by decide) rfl (fun ls hl => ?_)
              refine lv_goto (tgt := 82) cx.1 cx.2.1 dX12_tellNode_134 (by decide) ?_
              exact ih82 f1234 (v82_2 + 1) (by omega) (by omega) ((w82_mo_39 + 1) + dz1237) (by omega) (by omega) z1237 z1239 z1240 z1241 g1242 (by omega) (by omega) H locs hB ls (lv_sub hl [1, 2, 0] rfl)
            · refine q_ald_n cx dX12_tellNode_125 rfl (lv_at hl 0 rfl) ?_
              refine q_bipush cx dX12_tellNode_126 rfl ?_
              refine q_cVv (As := [.int (q_i 33)]) (rest := []) cx hB (fun _ h => h) hN hmo kmo (by decide) rfl (r_tell l g hN hB.2.1 mo hmo kmo 33 (by decide) (by decide) rp hrp krp ((w82_mo_39 + 1) + dz1237) (by omega) (by omega) z1237 z1241) q_cX12_518 q_dX12_tell (by decide) rfl rfl hl.1 rfl (Nat.le_of_ble_eq_true rfl) dX12_tellNode_128 (fun H locs f1247 h1249 hF hB => ?_)
              have z1250 := h1249
              have z1251 : q_is (q_z f1247 sr 4) x1206 := Eq.trans (hF.z hsr (by rw [ksr]; rfl)) z1238
              have z1252 : q_ir (q_r f1247 mo 13) sr := Eq.trans (hF.r hmo (by rw [kmo]; rfl)) z1239
              have z1253 : q_ir (q_r f1247 mo 18) nm := Eq.trans (hF.r hmo (by rw [kmo]; rfl)) z1240
              have z1254 : q_ir (q_r f1247 mo 38) rp := Eq.trans (hF.r hmo (by rw [kmo]; rfl)) z1241
              have g1255 : q_gr f1247 sr := q_gr_fr g1242 (fun i9 _ => hF.z hsr (by rw [ksr]; rfl))
              refine q_iinc (lv' := [(2, .int (q_i (v82_2 + 1))), (0, .ref mo), (1, .int (q_i a0))]) cx dX12_tellNode_131 hl (k := 2) rfl (by decide) rfl (fun ls hl => ?_)
              refine lv_goto (tgt := 82) cx.1 cx.2.1 dX12_tellNode_134 (by decide) ?_
              exact ih82 f1247 (v82_2 + 1) (by omega) (by omega) (((w82_mo_39 + 1) + dz1237) + 1) (by omega) (by omega) z1250 z1252 z1253 z1254 g1255 (by omega) (by omega) H locs hB ls (lv_sub hl [1, 2, 0] rfl)
          · exact absurd c1224 (by omega)
        · obtain ⟨rfl, qy1219⟩ := h1222
          subst qy1219
          refine q_ifne (tgt := 104) cx ⟨by decide, by decide⟩ dX12_tellNode_98 (by decide) (fun c1256 => ?_) (fun c1256 => ?_)
          · exact absurd c1256 (by omega)
          · refine lv_goto (tgt := 131) cx.1 cx.2.1 dX12_tellNode_101 (by decide) ?_
            refine q_iinc (lv' := [(2, .int (q_i (v82_2 + 1))), (0, .ref mo), (1, .int (q_i a0))]) cx dX12_tellNode_131 hl (k := 2) rfl (by decide) rfl (fun ls hl => ?_)
            refine lv_goto (tgt := 82) cx.1 cx.2.1 dX12_tellNode_134 (by decide) ?_
            exact ih82 f82 (v82_2 + 1) (by omega) (by omega) w82_mo_39 (by omega) (by omega) hj_mo_39 hq_mo_13 hq_mo_18 hq_mo_38 hgr82 (k_rb1 hct (by omega)) (by omega) H locs hB ls (lv_sub hl [1, 2, 0] rfl)
  have J2 : ∀ (n : Nat) (f2 : Nat → va_E) (v2_2 : Int) (lv2_2 : 0 ≤ v2_2) (uv2_2 : v2_2 ≤ 13) (w2_mo_39 : Int) (lw2_mo_39 : 0 ≤ w2_mo_39) (uw2_mo_39 : w2_mo_39 ≤ 460) (hj_mo_39 : q_is (q_z f2 mo 39) w2_mo_39) (hq_mo_13 : q_ir (q_r f2 mo 13) sr) (hq_mo_18 : q_ir (q_r f2 mo 18) nm) (hq_mo_38 : q_ir (q_r f2 mo 38) rp) (hgr2 : q_gr f2 sr) (hrl2_0 : 0 ≤ 1 * w2_mo_39 + -1 * xr + -1 * v2_2 + 0 ∧ 1 * w2_mo_39 + -1 * xr + -1 * v2_2 + 0 ≤ 0) (hmu : (Int.toNat (14 - v2_2)) < n) (H : Heap) (locs : List Loc) (hB : q_B g K L (fun q => q ∈ L) [(12, 39, 39), (167, 0, 479)] f f2 s H locs) (ls : Array Slot) (hl : lv_has ls 3 [(0, .ref mo), (1, .int (q_i a0)), (2, .int (q_i v2_2))]), W p l e { frames := 6, cells := 0, slots := 0, locals := 133 } s m ([.ref mo, .int (q_i a0)] : List Value).toArray below meth c H locs 0 0 (MQ below (q_Q g K L [(12, 39, 39), (167, 0, 479)] f (q_Pv (fun (f1 : Nat → va_E) => 0 ≤ q_z f1 mo 39 ∧ q_z f1 mo 39 ≤ 480 ∧ (q_z f1 mo 39 ≤ 23 * (a0 + 1) + 4 * k_cl f1 sr (a0 + 1) 60)))) ([.ref mo, .int (q_i a0)] : List Value).toArray s 0 0 (fun q => q ∈ L)) (F0 m 2 ls []) := by
    intro n
    induction n with
    | zero =>
      intro f2 v2_2 lv2_2 uv2_2 w2_mo_39 lw2_mo_39 uw2_mo_39 hj_mo_39 hq_mo_13 hq_mo_18 hq_mo_38 hgr2 hrl2_0 hmu
      exact absurd hmu (Nat.not_lt_zero _)
    | succ n ih2 =>
      intro f2 v2_2 lv2_2 uv2_2 w2_mo_39 lw2_mo_39 uw2_mo_39 hj_mo_39 hq_mo_13 hq_mo_18 hq_mo_38 hgr2 hrl2_0 hmu H locs hB ls hl
      refine q_ild_n cx dX12_tellNode_2 rfl (lv_at hl 2 rfl) ?_
      refine q_ald_n cx dX12_tellNode_3 rfl (lv_at hl 0 rfl) ?_
      refine q_gX12_35 cx hB hmo kmo hq_mo_18 dX12_tellNode_4 (fun hb1257 kb1257 => ?_)
      refine q_ild_n cx dX12_tellNode_7 rfl (lv_at hl 1 rfl) ?_
      obtain ⟨j1258, ej1258⟩ : ∃ zz, q_j f2 nm (Int.toNat a0) = zz := ⟨_, rfl⟩
      refine q_lald (n := 10) cx hB hnm knm (by decide) rfl rfl (by omega) (by omega) (by decide) rfl ej1258 dX12_tellNode_8 ?_
      refine q_cSi (As := [.long j1258]) (rest := [.int (q_i v2_2)]) cx hB (fun _ h => h) hN (r_lettersOf l g hN hB.2.1 j1258) q_cX12_378 q_dX12_lettersOf (by decide) rfl rfl hl.1 rfl (Nat.le_of_ble_eq_true rfl) dX12_tellNode_9 (fun y1260 H locs f1259 ry1260 h1261 hF hB => ?_)
      obtain ⟨rfl, ly1260, uy1260⟩ := h1261
      refine q_icge (tgt := 35) cx ⟨by omega, by omega⟩ ⟨by omega, by omega⟩ dX12_tellNode_12 (by decide) (fun c1262 => ?_) (fun c1262 => ?_)
      · refine q_ald_n cx dX12_tellNode_35 rfl (lv_at hl 0 rfl) ?_
        refine q_bipush cx dX12_tellNode_36 rfl ?_
        refine q_cVv (As := [.int (q_i 32)]) (rest := []) cx hB (fun _ h => h) hN hmo kmo (by decide) rfl (r_tell l g hN hB.2.1 mo hmo kmo 32 (by decide) (by decide) rp hrp krp w2_mo_39 (by omega) (by omega) hj_mo_39 hq_mo_38) q_cX12_518 q_dX12_tell (by decide) rfl rfl hl.1 rfl (Nat.le_of_ble_eq_true rfl) dX12_tellNode_38 (fun H locs f1263 h1265 hF hB => ?_)
        have z1266 := h1265
        have z1267 : q_ir (q_r f1263 mo 13) sr := Eq.trans (hF.r hmo (by rw [kmo]; rfl)) hq_mo_13
        have z1268 : q_ir (q_r f1263 mo 18) nm := Eq.trans (hF.r hmo (by rw [kmo]; rfl)) hq_mo_18
        have z1269 : q_ir (q_r f1263 mo 38) rp := Eq.trans (hF.r hmo (by rw [kmo]; rfl)) hq_mo_38
        have g1270 : q_gr f1263 sr := q_gr_fr hgr2 (fun i9 _ => hF.z hsr (by rw [ksr]; rfl))
        refine q_ald_n cx dX12_tellNode_41 rfl (lv_at hl 0 rfl) ?_
        refine q_ald_n cx dX12_tellNode_42 rfl (lv_at hl 0 rfl) ?_
        refine q_ild_n cx dX12_tellNode_43 rfl (lv_at hl 1 rfl) ?_
        refine q_cVi (As := [.int (q_i a0)]) (rest := [.ref mo]) cx hB (fun _ h => h) hN hmo kmo (by decide) rfl (r_dayOf l g hN hB.2.1 mo hmo kmo a0 (by omega) (by omega) sr hsr ksr z1267 g1270) q_cX12_289 q_dX12_dayOf (by decide) rfl rfl hl.1 rfl (Nat.le_of_ble_eq_true rfl) dX12_tellNode_44 (fun y1272 H locs f1271 ry1272 h1273 hF hB => ?_)
        obtain ⟨rfl, ly1272, uy1272⟩ := h1273
        refine q_cVv (As := [.int (q_i y1272)]) (rest := []) cx hB (fun _ h => h) hN hmo kmo (by decide) rfl (r_tellNumber2 l g hN hB.2.1 mo hmo kmo y1272 (by omega) (by omega) rp hrp krp (w2_mo_39 + 1) (by omega) (by omega) z1266 z1269) q_cX12_521 q_dX12_tellNumber (by decide) rfl rfl hl.1 rfl (Nat.le_of_ble_eq_true rfl) dX12_tellNode_47 (fun H locs f1274 h1276 hF hB => ?_)
        obtain ⟨dz1277, lz1277, uz1277, z1277⟩ := h1276
        have z1278 : q_ir (q_r f1274 mo 13) sr := Eq.trans (hF.r hmo (by rw [kmo]; rfl)) z1267
        have z1279 : q_ir (q_r f1274 mo 18) nm := Eq.trans (hF.r hmo (by rw [kmo]; rfl)) z1268
        have z1280 : q_ir (q_r f1274 mo 38) rp := Eq.trans (hF.r hmo (by rw [kmo]; rfl)) z1269
        have g1281 : q_gr f1274 sr := q_gr_fr g1270 (fun i9 _ => hF.z hsr (by rw [ksr]; rfl))
        refine q_ald_n cx dX12_tellNode_50 rfl (lv_at hl 0 rfl) ?_
        refine q_bipush cx dX12_tellNode_51 rfl ?_
        refine q_cVv (As := [.int (q_i 47)]) (rest := []) cx hB (fun _ h => h) hN hmo kmo (by decide) rfl (r_tell l g hN hB.2.1 mo hmo kmo 47 (by decide) (by decide) rp hrp krp ((w2_mo_39 + 1) + dz1277) (by omega) (by omega) z1277 z1280) q_cX12_518 q_dX12_tell (by decide) rfl rfl hl.1 rfl (Nat.le_of_ble_eq_true rfl) dX12_tellNode_53 (fun H locs f1282 h1284 hF hB => ?_)
        have z1285 := h1284
        have z1286 : q_ir (q_r f1282 mo 13) sr := Eq.trans (hF.r hmo (by rw [kmo]; rfl)) z1278
        have z1287 : q_ir (q_r f1282 mo 18) nm := Eq.trans (hF.r hmo (by rw [kmo]; rfl)) z1279
        have z1288 : q_ir (q_r f1282 mo 38) rp := Eq.trans (hF.r hmo (by rw [kmo]; rfl)) z1280
        have g1289 : q_gr f1282 sr := q_gr_fr g1281 (fun i9 _ => hF.z hsr (by rw [ksr]; rfl))
        refine q_ald_n cx dX12_tellNode_56 rfl (lv_at hl 0 rfl) ?_
        refine q_ald_n cx dX12_tellNode_57 rfl (lv_at hl 0 rfl) ?_
        refine q_ild_n cx dX12_tellNode_58 rfl (lv_at hl 1 rfl) ?_
        refine q_iconst cx dX12_tellNode_59 ?_
        refine q_cVi (As := [.int (q_i a0), .int (q_i 2)]) (rest := [.ref mo]) cx hB (fun _ h => h) hN hmo kmo (by decide) rfl (r_ofNode2 l g hN hB.2.1 mo hmo kmo a0 (by omega) (by omega) 2 (by decide) (by decide) sr hsr ksr z1286 g1289) q_cX12_256 q_dX12_ofNode (by decide) rfl rfl hl.1 rfl (Nat.le_of_ble_eq_true rfl) dX12_tellNode_60 (fun y1291 H locs f1290 ry1291 h1292 hF hB => ?_)
        obtain ⟨rfl, ly1291, uy1291, t1293⟩ := h1292
        by_cases c1294 : y1291 ≤ (-1)
        · refine q_cVv (As := [.int (q_i y1291)]) (rest := []) cx hB (fun _ h => h) hN hmo kmo (by decide) rfl (r_tellNumbern l g hN hB.2.1 mo hmo kmo y1291 (by omega) (by omega) rp hrp krp (((w2_mo_39 + 1) + dz1277) + 1) (by omega) (by omega) z1285 z1288) q_cX12_521 q_dX12_tellNumber (by decide) rfl rfl hl.1 rfl (Nat.le_of_ble_eq_true rfl) dX12_tellNode_63 (fun H locs f1295 h1297 hF hB => ?_)
          obtain ⟨dz1298, lz1298, uz1298, z1298⟩ := h1297
          have z1299 : q_ir (q_r f1295 mo 13) sr := Eq.trans (hF.r hmo (by rw [kmo]; rfl)) z1286
          have z1300 : q_ir (q_r f1295 mo 18) nm := Eq.trans (hF.r hmo (by rw [kmo]; rfl)) z1287
          have z1301 : q_ir (q_r f1295 mo 38) rp := Eq.trans (hF.r hmo (by rw [kmo]; rfl)) z1288
          have g1302 : q_gr f1295 sr := q_gr_fr g1289 (fun i9 _ => hF.z hsr (by rw [ksr]; rfl))
          refine q_ald_n cx dX12_tellNode_66 rfl (lv_at hl 0 rfl) ?_
          refine q_ild_n cx dX12_tellNode_67 rfl (lv_at hl 1 rfl) ?_
          refine q_cVi (As := [.int (q_i a0)]) (rest := []) cx hB (fun _ h => h) hN hmo kmo (by decide) rfl (r_isAwakeNow l g hN hB.2.1 mo hmo kmo a0 (by omega) (by omega) sr hsr ksr z1299 g1302) q_cX12_362 q_dX12_isAwakeNow (by decide) rfl rfl hl.1 rfl (Nat.le_of_ble_eq_true rfl) dX12_tellNode_68 (fun y1304 H locs f1303 ry1304 h1305 hF hB => ?_)
          obtain ⟨rfl, ly1304, uy1304⟩ := h1305
          refine q_ifeq (tgt := 80) cx ⟨by omega, by omega⟩ dX12_tellNode_71 (by decide) (fun c1306 => ?_) (fun c1306 => ?_)
          · refine q_iconst cx dX12_tellNode_80 ?_
            refine lv_istore_n (lv' := [(2, .int (q_i 0)), (0, .ref mo), (1, .int (q_i a0))]) cx.1 cx.2.1 dX12_tellNode_81 rfl hl (by decide) rfl (fun ls hl => ?_)
            exact J82 ((Int.toNat (2147483647 - 0)) + 1) f1295 0 (by decide) (by decide) ((((w2_mo_39 + 1) + dz1277) + 1) + dz1298) (by omega) (by omega) z1298 z1299 z1300 z1301 g1302 (k_rb0 (by omega)) (Nat.lt_succ_self _) H locs hB ls (lv_sub hl [1, 2, 0] rfl)
          · refine q_ald_n cx dX12_tellNode_74 rfl (lv_at hl 0 rfl) ?_
            refine q_bipush cx dX12_tellNode_75 rfl ?_
            refine q_cVv (As := [.int (q_i 42)]) (rest := []) cx hB (fun _ h => h) hN hmo kmo (by decide) rfl (r_tell l g hN hB.2.1 mo hmo kmo 42 (by decide) (by decide) rp hrp krp ((((w2_mo_39 + 1) + dz1277) + 1) + dz1298) (by omega) (by omega) z1298 z1301) q_cX12_518 q_dX12_tell (by decide) rfl rfl hl.1 rfl (Nat.le_of_ble_eq_true rfl) dX12_tellNode_77 (fun H locs f1307 h1309 hF hB => ?_)
            have z1310 := h1309
            have z1311 : q_ir (q_r f1307 mo 13) sr := Eq.trans (hF.r hmo (by rw [kmo]; rfl)) z1299
            have z1312 : q_ir (q_r f1307 mo 18) nm := Eq.trans (hF.r hmo (by rw [kmo]; rfl)) z1300
            have z1313 : q_ir (q_r f1307 mo 38) rp := Eq.trans (hF.r hmo (by rw [kmo]; rfl)) z1301
            have g1314 : q_gr f1307 sr := q_gr_fr g1302 (fun i9 _ => hF.z hsr (by rw [ksr]; rfl))
            refine q_iconst cx dX12_tellNode_80 ?_
            refine lv_istore_n (lv' := [(2, .int (q_i 0)), (0, .ref mo), (1, .int (q_i a0))]) cx.1 cx.2.1 dX12_tellNode_81 rfl hl (by decide) rfl (fun ls hl => ?_)
            exact J82 ((Int.toNat (2147483647 - 0)) + 1) f1307 0 (by decide) (by decide) (((((w2_mo_39 + 1) + dz1277) + 1) + dz1298) + 1) (by omega) (by omega) z1310 z1311 z1312 z1313 g1314 (k_rb0 (by omega)) (Nat.lt_succ_self _) H locs hB ls (lv_sub hl [1, 2, 0] rfl)
        · by_cases c1315 : y1291 ≤ 99
          · refine q_cVv (As := [.int (q_i y1291)]) (rest := []) cx hB (fun _ h => h) hN hmo kmo (by decide) rfl (r_tellNumber2 l g hN hB.2.1 mo hmo kmo y1291 (by omega) (by omega) rp hrp krp (((w2_mo_39 + 1) + dz1277) + 1) (by omega) (by omega) z1285 z1288) q_cX12_521 q_dX12_tellNumber (by decide) rfl rfl hl.1 rfl (Nat.le_of_ble_eq_true rfl) dX12_tellNode_63 (fun H locs f1316 h1318 hF hB => ?_)
            obtain ⟨dz1319, lz1319, uz1319, z1319⟩ := h1318
            have z1320 : q_ir (q_r f1316 mo 13) sr := Eq.trans (hF.r hmo (by rw [kmo]; rfl)) z1286
            have z1321 : q_ir (q_r f1316 mo 18) nm := Eq.trans (hF.r hmo (by rw [kmo]; rfl)) z1287
            have z1322 : q_ir (q_r f1316 mo 38) rp := Eq.trans (hF.r hmo (by rw [kmo]; rfl)) z1288
            have g1323 : q_gr f1316 sr := q_gr_fr g1289 (fun i9 _ => hF.z hsr (by rw [ksr]; rfl))
            refine q_ald_n cx dX12_tellNode_66 rfl (lv_at hl 0 rfl) ?_
            refine q_ild_n cx dX12_tellNode_67 rfl (lv_at hl 1 rfl) ?_
            refine q_cVi (As := [.int (q_i a0)]) (rest := []) cx hB (fun _ h => h) hN hmo kmo (by decide) rfl (r_isAwakeNow l g hN hB.2.1 mo hmo kmo a0 (by omega) (by omega) sr hsr ksr z1320 g1323) q_cX12_362 q_dX12_isAwakeNow (by decide) rfl rfl hl.1 rfl (Nat.le_of_ble_eq_true rfl) dX12_tellNode_68 (fun y1325 H locs f1324 ry1325 h1326 hF hB => ?_)
            obtain ⟨rfl, ly1325, uy1325⟩ := h1326
            refine q_ifeq (tgt := 80) cx ⟨by omega, by omega⟩ dX12_tellNode_71 (by decide) (fun c1327 => ?_) (fun c1327 => ?_)
            · refine q_iconst cx dX12_tellNode_80 ?_
              refine lv_istore_n (lv' := [(2, .int (q_i 0)), (0, .ref mo), (1, .int (q_i a0))]) cx.1 cx.2.1 dX12_tellNode_81 rfl hl (by decide) rfl (fun ls hl => ?_)
              exact J82 ((Int.toNat (2147483647 - 0)) + 1) f1316 0 (by decide) (by decide) ((((w2_mo_39 + 1) + dz1277) + 1) + dz1319) (by omega) (by omega) z1319 z1320 z1321 z1322 g1323 (k_rb0 (by omega)) (Nat.lt_succ_self _) H locs hB ls (lv_sub hl [1, 2, 0] rfl)
            · refine q_ald_n cx dX12_tellNode_74 rfl (lv_at hl 0 rfl) ?_
              refine q_bipush cx dX12_tellNode_75 rfl ?_
              refine q_cVv (As := [.int (q_i 42)]) (rest := []) cx hB (fun _ h => h) hN hmo kmo (by decide) rfl (r_tell l g hN hB.2.1 mo hmo kmo 42 (by decide) (by decide) rp hrp krp ((((w2_mo_39 + 1) + dz1277) + 1) + dz1319) (by omega) (by omega) z1319 z1322) q_cX12_518 q_dX12_tell (by decide) rfl rfl hl.1 rfl (Nat.le_of_ble_eq_true rfl) dX12_tellNode_77 (fun H locs f1328 h1330 hF hB => ?_)
              have z1331 := h1330
              have z1332 : q_ir (q_r f1328 mo 13) sr := Eq.trans (hF.r hmo (by rw [kmo]; rfl)) z1320
              have z1333 : q_ir (q_r f1328 mo 18) nm := Eq.trans (hF.r hmo (by rw [kmo]; rfl)) z1321
              have z1334 : q_ir (q_r f1328 mo 38) rp := Eq.trans (hF.r hmo (by rw [kmo]; rfl)) z1322
              have g1335 : q_gr f1328 sr := q_gr_fr g1323 (fun i9 _ => hF.z hsr (by rw [ksr]; rfl))
              refine q_iconst cx dX12_tellNode_80 ?_
              refine lv_istore_n (lv' := [(2, .int (q_i 0)), (0, .ref mo), (1, .int (q_i a0))]) cx.1 cx.2.1 dX12_tellNode_81 rfl hl (by decide) rfl (fun ls hl => ?_)
              exact J82 ((Int.toNat (2147483647 - 0)) + 1) f1328 0 (by decide) (by decide) (((((w2_mo_39 + 1) + dz1277) + 1) + dz1319) + 1) (by omega) (by omega) z1331 z1332 z1333 z1334 g1335 (k_rb0 (by omega)) (Nat.lt_succ_self _) H locs hB ls (lv_sub hl [1, 2, 0] rfl)
          · refine q_cVv (As := [.int (q_i y1291)]) (rest := []) cx hB (fun _ h => h) hN hmo kmo (by decide) rfl (r_tellNumber4 l g hN hB.2.1 mo hmo kmo y1291 (by omega) (by omega) rp hrp krp (((w2_mo_39 + 1) + dz1277) + 1) (by omega) (by omega) z1285 z1288) q_cX12_521 q_dX12_tellNumber (by decide) rfl rfl hl.1 rfl (Nat.le_of_ble_eq_true rfl) dX12_tellNode_63 (fun H locs f1336 h1338 hF hB => ?_)
            obtain ⟨dz1339, lz1339, uz1339, z1339⟩ := h1338
            have z1340 : q_ir (q_r f1336 mo 13) sr := Eq.trans (hF.r hmo (by rw [kmo]; rfl)) z1286
            have z1341 : q_ir (q_r f1336 mo 18) nm := Eq.trans (hF.r hmo (by rw [kmo]; rfl)) z1287
            have z1342 : q_ir (q_r f1336 mo 38) rp := Eq.trans (hF.r hmo (by rw [kmo]; rfl)) z1288
            have g1343 : q_gr f1336 sr := q_gr_fr g1289 (fun i9 _ => hF.z hsr (by rw [ksr]; rfl))
            refine q_ald_n cx dX12_tellNode_66 rfl (lv_at hl 0 rfl) ?_
            refine q_ild_n cx dX12_tellNode_67 rfl (lv_at hl 1 rfl) ?_
            refine q_cVi (As := [.int (q_i a0)]) (rest := []) cx hB (fun _ h => h) hN hmo kmo (by decide) rfl (r_isAwakeNow l g hN hB.2.1 mo hmo kmo a0 (by omega) (by omega) sr hsr ksr z1340 g1343) q_cX12_362 q_dX12_isAwakeNow (by decide) rfl rfl hl.1 rfl (Nat.le_of_ble_eq_true rfl) dX12_tellNode_68 (fun y1345 H locs f1344 ry1345 h1346 hF hB => ?_)
            obtain ⟨rfl, ly1345, uy1345⟩ := h1346
            refine q_ifeq (tgt := 80) cx ⟨by omega, by omega⟩ dX12_tellNode_71 (by decide) (fun c1347 => ?_) (fun c1347 => ?_)
            · refine q_iconst cx dX12_tellNode_80 ?_
              refine lv_istore_n (lv' := [(2, .int (q_i 0)), (0, .ref mo), (1, .int (q_i a0))]) cx.1 cx.2.1 dX12_tellNode_81 rfl hl (by decide) rfl (fun ls hl => ?_)
              exact J82 ((Int.toNat (2147483647 - 0)) + 1) f1336 0 (by decide) (by decide) ((((w2_mo_39 + 1) + dz1277) + 1) + dz1339) (by omega) (by omega) z1339 z1340 z1341 z1342 g1343 (k_rb0 (by omega)) (Nat.lt_succ_self _) H locs hB ls (lv_sub hl [1, 2, 0] rfl)
            · refine q_ald_n cx dX12_tellNode_74 rfl (lv_at hl 0 rfl) ?_
              refine q_bipush cx dX12_tellNode_75 rfl ?_
              refine q_cVv (As := [.int (q_i 42)]) (rest := []) cx hB (fun _ h => h) hN hmo kmo (by decide) rfl (r_tell l g hN hB.2.1 mo hmo kmo 42 (by decide) (by decide) rp hrp krp ((((w2_mo_39 + 1) + dz1277) + 1) + dz1339) (by omega) (by omega) z1339 z1342) q_cX12_518 q_dX12_tell (by decide) rfl rfl hl.1 rfl (Nat.le_of_ble_eq_true rfl) dX12_tellNode_77 (fun H locs f1348 h1350 hF hB => ?_)
              have z1351 := h1350
              have z1352 : q_ir (q_r f1348 mo 13) sr := Eq.trans (hF.r hmo (by rw [kmo]; rfl)) z1340
              have z1353 : q_ir (q_r f1348 mo 18) nm := Eq.trans (hF.r hmo (by rw [kmo]; rfl)) z1341
              have z1354 : q_ir (q_r f1348 mo 38) rp := Eq.trans (hF.r hmo (by rw [kmo]; rfl)) z1342
              have g1355 : q_gr f1348 sr := q_gr_fr g1343 (fun i9 _ => hF.z hsr (by rw [ksr]; rfl))
              refine q_iconst cx dX12_tellNode_80 ?_
              refine lv_istore_n (lv' := [(2, .int (q_i 0)), (0, .ref mo), (1, .int (q_i a0))]) cx.1 cx.2.1 dX12_tellNode_81 rfl hl (by decide) rfl (fun ls hl => ?_)
              exact J82 ((Int.toNat (2147483647 - 0)) + 1) f1348 0 (by decide) (by decide) (((((w2_mo_39 + 1) + dz1277) + 1) + dz1339) + 1) (by omega) (by omega) z1351 z1352 z1353 z1354 g1355 (k_rb0 (by omega)) (Nat.lt_succ_self _) H locs hB ls (lv_sub hl [1, 2, 0] rfl)
      · refine q_ald_n cx dX12_tellNode_15 rfl (lv_at hl 0 rfl) ?_
        refine q_ald_n cx dX12_tellNode_16 rfl (lv_at hl 0 rfl) ?_
        refine q_gX12_35 cx hB hmo kmo hq_mo_18 dX12_tellNode_17 (fun hb1356 kb1356 => ?_)
        refine q_ild_n cx dX12_tellNode_20 rfl (lv_at hl 1 rfl) ?_
        obtain ⟨j1357, ej1357⟩ : ∃ zz, q_j f2 nm (Int.toNat a0) = zz := ⟨_, rfl⟩
        refine q_lald (n := 10) cx hB hnm knm (by decide) rfl rfl (by omega) (by omega) (by decide) rfl ej1357 dX12_tellNode_21 ?_
        refine q_ild_n cx dX12_tellNode_22 rfl (lv_at hl 2 rfl) ?_
        refine q_cSi (As := [.long j1357, .int (q_i v2_2)]) (rest := [.ref mo]) cx hB (fun _ h => h) hN (r_letterOf l g hN hB.2.1 j1357 v2_2 (by omega) (by omega)) q_cX12_384 q_dX12_letterOf (by decide) rfl rfl hl.1 rfl (Nat.le_of_ble_eq_true rfl) dX12_tellNode_23 (fun y1359 H locs f1358 ry1359 h1360 hF hB => ?_)
        obtain rfl := h1360
        refine q_cVv (As := [.int (q_i y1359)]) (rest := []) cx hB (fun _ h => h) hN hmo kmo (by decide) rfl (r_tell l g hN hB.2.1 mo hmo kmo y1359 (by omega) (by omega) rp hrp krp w2_mo_39 (by omega) (by omega) hj_mo_39 hq_mo_38) q_cX12_518 q_dX12_tell (by decide) rfl rfl hl.1 rfl (Nat.le_of_ble_eq_true rfl) dX12_tellNode_26 (fun H locs f1361 h1363 hF hB => ?_)
        have z1364 := h1363
        have z1365 : q_ir (q_r f1361 mo 13) sr := Eq.trans (hF.r hmo (by rw [kmo]; rfl)) hq_mo_13
        have z1366 : q_ir (q_r f1361 mo 18) nm := Eq.trans (hF.r hmo (by rw [kmo]; rfl)) hq_mo_18
        have z1367 : q_ir (q_r f1361 mo 38) rp := Eq.trans (hF.r hmo (by rw [kmo]; rfl)) hq_mo_38
        have g1368 : q_gr f1361 sr := q_gr_fr hgr2 (fun i9 _ => hF.z hsr (by rw [ksr]; rfl))
        refine q_iinc (lv' := [(2, .int (q_i (v2_2 + 1))), (0, .ref mo), (1, .int (q_i a0))]) cx dX12_tellNode_29 hl (k := 2) rfl (by decide) rfl (fun ls hl => ?_)
        refine lv_goto (tgt := 2) cx.1 cx.2.1 dX12_tellNode_32 (by decide) ?_
        exact ih2 f1361 (v2_2 + 1) (by omega) (by omega) (w2_mo_39 + 1) (by omega) (by omega) z1364 z1365 z1366 z1367 g1368 (by omega) (by omega) H locs hB ls (lv_sub hl [1, 2, 0] rfl)
  obtain ⟨H, hH⟩ : ∃ H : Heap, H = s.heap := ⟨_, rfl⟩
  obtain ⟨locs, hlocs⟩ : ∃ z : List Loc, z = [] := ⟨_, rfl⟩
  rw [← hH, ← hlocs] at hB
  rw [← hH, ← hlocs]
  refine q_iconst cx dX12_tellNode_0 ?_
  refine lv_istore_n (lv' := [(2, .int (q_i 0)), (0, .ref mo), (1, .int (q_i a0))]) cx.1 cx.2.1 dX12_tellNode_1 rfl hl (by decide) rfl (fun ls hl => ?_)
  exact J2 ((Int.toNat (14 - 0)) + 1) f 0 (by decide) (by decide) xr (by omega) (by omega) hf0 hr0 hr1 hr2 hgr (by omega) (Nat.lt_succ_self _) H locs hB ls (lv_sub hl [1, 2, 0] rfl)
