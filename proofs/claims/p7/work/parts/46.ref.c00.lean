set_option maxHeartbeats 4000000 in
set_option maxRecDepth 100000 in
theorem r_tell (l : Launch) (g : q_G) {K : Nat → Nat} {L : List Nat} (hN : L.Nodup) {f : Nat → va_E} (hT : q_Ty g K L f) (mo : Nat) (hmo : mo ∈ L) (kmo : K mo = 12) (a0 : Int) (la0 : (-2147483648) ≤ a0) (ua0 : a0 ≤ 2147483647) (rp : Nat) (hrp : rp ∈ L) (krp : K rp = 167) (xr : Int) (lxr : 0 ≤ xr) (uxr : xr ≤ 479) (hf0 : q_is (q_z f mo 39) xr) (hr0 : q_ir (q_r f mo 38) rp) : q_Ct l g K L yX12_tell cX12_tell 2 none 0 0 [.ref mo, .int (q_i a0)] f [(12, 39, 39), (167, 0, 479)] (q_Pv (fun (f1 : Nat → va_E) => q_is (q_z f1 mo 39) (xr + 1))) := by
  refine q_ofb (by decide +kernel) hN hT (Nat.le_of_ble_eq_true rfl) ?_
  intro p e s m below meth c ls cx hr hlk hB hl
  have hl : lv_has ls 2 [(0, .ref mo), (1, .int (q_i a0))] := hl
  obtain ⟨H, hH⟩ : ∃ H : Heap, H = s.heap := ⟨_, rfl⟩
  obtain ⟨locs, hlocs⟩ : ∃ z : List Loc, z = [] := ⟨_, rfl⟩
  rw [← hH, ← hlocs] at hB
  rw [← hH, ← hlocs]
  refine q_ald_n cx dX12_tell_0 rfl (lv_at hl 0 rfl) ?_
  refine q_gX12_69 cx hB hmo kmo hr0 dX12_tell_1 (fun hb11 kb11 => ?_)
  refine q_ald_n cx dX12_tell_4 rfl (lv_at hl 0 rfl) ?_
  refine q_gX12_515 cx hB hmo kmo hf0 dX12_tell_5 (fun lb12 ub12 => ?_)
  refine q_ild_n cx dX12_tell_8 rfl (lv_at hl 1 rfl) ?_
  refine q_iast (lo := (-2147483648)) (hi := 2147483647) (n := 480) cx hB hrp krp (by decide) rfl rfl (by omega) (by omega) (by decide) rfl ⟨by omega, by omega⟩ (by omega) (by omega) (q_inWi (lo := 0) (hi := 479) (by decide) (by omega) (by omega)) dX12_tell_9 (fun H locs f13 ef13 z14 hB => ?_)
  have z15 : q_is (q_z f13 mo 39) xr := by rw [ef13, q_setz (Or.inl (fun q => by rw [q, krp] at kmo; exact absurd kmo (by decide)))]; exact hf0
  have z16 : q_ir (q_r f13 mo 38) rp := by rw [ef13, q_setr (Or.inl (fun q => by rw [q, krp] at kmo; exact absurd kmo (by decide)))]; exact hr0
  refine q_ald_n cx dX12_tell_10 rfl (lv_at hl 0 rfl) ?_
  refine lv_dup cx.1 cx.2.1 dX12_tell_11 rfl ?_
  refine q_gX12_515 cx hB hmo kmo z15 dX12_tell_12 (fun lb17 ub17 => ?_)
  refine q_iconst cx dX12_tell_15 ?_
  refine q_iadd cx dX12_tell_16 ?_
  refine q_pX12_515 cx hB hmo kmo ⟨by omega, by omega⟩ (by omega) (by omega) rfl dX12_tell_17 (fun H locs f18 ef18 z19 hB => ?_)
  have z20 : q_ir (q_r f18 mo 38) rp := by rw [ef18, q_setr (Or.inr (by decide))]; exact z16
  refine q_vret cx hr hlk hB dX12_tell_20 ?_
  exact z19
set_option maxHeartbeats 4000000 in
set_option maxRecDepth 100000 in
theorem r_tellNumber2 (l : Launch) (g : q_G) {K : Nat → Nat} {L : List Nat} (hN : L.Nodup) {f : Nat → va_E} (hT : q_Ty g K L f) (mo : Nat) (hmo : mo ∈ L) (kmo : K mo = 12) (a0 : Int) (la0 : 0 ≤ a0) (ua0 : a0 ≤ 99) (rp : Nat) (hrp : rp ∈ L) (krp : K rp = 167) (xr : Int) (lxr : 0 ≤ xr) (uxr : xr ≤ 478) (hf0 : q_is (q_z f mo 39) xr) (hr0 : q_ir (q_r f mo 38) rp) : q_Ct l g K L yX12_tellNumber cX12_tellNumber 4 none 1 21 [.ref mo, .int (q_i a0)] f [(12, 39, 39), (167, 0, 479)] (q_Pv (fun (f1 : Nat → va_E) => (∃ d9 : Int, 1 ≤ d9 ∧ d9 ≤ 2 ∧ q_is (q_z f1 mo 39) (xr + d9)))) := by
  refine q_ofb (by decide +kernel) hN hT (Nat.le_of_ble_eq_true rfl) ?_
  intro p e s m below meth c ls cx hr hlk hB hl
  have hl : lv_has ls 4 [(0, .ref mo), (1, .int (q_i a0))] := hl
  obtain ⟨H, hH⟩ : ∃ H : Heap, H = s.heap := ⟨_, rfl⟩
  obtain ⟨locs, hlocs⟩ : ∃ z : List Loc, z = [] := ⟨_, rfl⟩
  rw [← hH, ← hlocs] at hB
  rw [← hH, ← hlocs]
  refine q_iconst cx dX12_tellNumber_0 ?_
  refine lv_istore_n (lv' := [(2, .int (q_i 1)), (0, .ref mo), (1, .int (q_i a0))]) cx.1 cx.2.1 dX12_tellNumber_1 rfl hl (by decide) rfl (fun ls hl => ?_)
  refine q_ild_n cx dX12_tellNumber_2 rfl (lv_at hl 2 rfl) ?_
  refine q_ild_n cx dX12_tellNumber_3 rfl (lv_at hl 0 rfl) ?_
  refine q_idiv cx ⟨by omega, by omega⟩ ⟨by decide, by decide⟩ (by omega) dX12_tellNumber_4 ?_
  obtain ⟨y34, ey34⟩ : ∃ zz, Int.tdiv a0 1 = zz := ⟨_, rfl⟩
  obtain ⟨ly34, my34, uy34⟩ := q_tdb (x := a0) (y := 1) (by omega) (by decide)
  rw [ey34] at ly34 my34 uy34
  rw [ey34]
  refine q_bipush cx dX12_tellNumber_5 rfl ?_
  refine q_icle (tgt := 18) cx ⟨by omega, by omega⟩ ⟨by decide, by decide⟩ dX12_tellNumber_7 (by decide) (fun c35 => ?_) (fun c35 => ?_)
  · refine q_ild_n cx dX12_tellNumber_18 rfl (lv_at hl 0 rfl) ?_
    refine lv_istore_n (lv' := [(3, .int (q_i 1)), (2, .int (q_i 1)), (0, .ref mo), (1, .int (q_i a0))]) cx.1 cx.2.1 dX12_tellNumber_19 rfl hl (by decide) rfl (fun ls hl => ?_)
    refine q_ild_n cx dX12_tellNumber_20 rfl (lv_at hl 0 rfl) ?_
    refine q_ifle (tgt := 45) cx ⟨by decide, by decide⟩ dX12_tellNumber_21 (by decide) (fun c36 => ?_) (fun c36 => ?_)
    · exact absurd c36 (by omega)
    · refine q_ald_n cx dX12_tellNumber_24 rfl (lv_at hl 2 rfl) ?_
      refine q_bipush cx dX12_tellNumber_25 rfl ?_
      refine q_ild_n cx dX12_tellNumber_27 rfl (lv_at hl 3 rfl) ?_
      refine q_ild_n cx dX12_tellNumber_28 rfl (lv_at hl 0 rfl) ?_
      refine q_idiv cx ⟨by omega, by omega⟩ ⟨by decide, by decide⟩ (by omega) dX12_tellNumber_29 ?_
      obtain ⟨y37, ey37⟩ : ∃ zz, Int.tdiv a0 1 = zz := ⟨_, rfl⟩
      obtain ⟨ly37, my37, uy37⟩ := q_tdb (x := a0) (y := 1) (by omega) (by decide)
      rw [ey37] at ly37 my37 uy37
      rw [ey37]
      refine q_bipush cx dX12_tellNumber_30 rfl ?_
      refine q_irem cx ⟨by omega, by omega⟩ ⟨by decide, by decide⟩ (by omega) dX12_tellNumber_32 (fun y38 ey38 ay38 by38 ny38 => ?_)
      refine q_iadd cx dX12_tellNumber_33 ?_
      refine q_cVv (As := [.int (q_i (48 + y38))]) (rest := []) cx hB (fun _ h => h) hN hmo kmo (by decide) rfl (r_tell l g hN hB.2.1 mo hmo kmo (48 + y38) (by omega) (by omega) rp hrp krp xr (by omega) (by omega) hf0 hr0) q_cX12_518 q_dX12_tell (by decide) rfl rfl hl.1 rfl (Nat.le_of_ble_eq_true rfl) dX12_tellNumber_34 (fun H locs f39 h41 hF hB => ?_)
      have z42 := h41
      have z43 : q_ir (q_r f39 mo 38) rp := Eq.trans (hF.r hmo (by rw [kmo]; rfl)) hr0
      refine q_ild_n cx dX12_tellNumber_37 rfl (lv_at hl 0 rfl) ?_
      refine q_bipush cx dX12_tellNumber_38 rfl ?_
      refine q_idiv cx ⟨by decide, by decide⟩ ⟨by decide, by decide⟩ (by omega) dX12_tellNumber_40 ?_
      rw [show Int.tdiv 1 10 = 0 from by decide]
      refine lv_istore_n (lv' := [(3, .int (q_i 0)), (2, .int (q_i 1)), (0, .ref mo), (1, .int (q_i a0))]) cx.1 cx.2.1 dX12_tellNumber_41 rfl hl (by decide) rfl (fun ls hl => ?_)
      refine lv_goto (tgt := 20) cx.1 cx.2.1 dX12_tellNumber_42 (by decide) ?_
      refine q_ild_n cx dX12_tellNumber_20 rfl (lv_at hl 0 rfl) ?_
      refine q_ifle (tgt := 45) cx ⟨by decide, by decide⟩ dX12_tellNumber_21 (by decide) (fun c45 => ?_) (fun c45 => ?_)
      · refine q_vret cx hr hlk hB dX12_tellNumber_45 ?_
        exact ⟨(xr + 1) - xr, by omega, by omega, (Eq.trans z42 (by omega))⟩
      · exact absurd c45 (by omega)
  · refine q_ild_n cx dX12_tellNumber_10 rfl (lv_at hl 0 rfl) ?_
    refine q_bipush cx dX12_tellNumber_11 rfl ?_
    refine q_imul cx dX12_tellNumber_13 ?_
    refine lv_istore_n (lv' := [(2, .int (q_i (1 * 10))), (0, .ref mo), (1, .int (q_i a0))]) cx.1 cx.2.1 dX12_tellNumber_14 rfl hl (by decide) rfl (fun ls hl => ?_)
    refine lv_goto (tgt := 2) cx.1 cx.2.1 dX12_tellNumber_15 (by decide) ?_
    refine q_ild_n cx dX12_tellNumber_2 rfl (lv_at hl 2 rfl) ?_
    refine q_ild_n cx dX12_tellNumber_3 rfl (lv_at hl 0 rfl) ?_
    refine q_idiv cx ⟨by omega, by omega⟩ ⟨by decide, by decide⟩ (by omega) dX12_tellNumber_4 ?_
    obtain ⟨y46, ey46⟩ : ∃ zz, Int.tdiv a0 (1 * 10) = zz := ⟨_, rfl⟩
    obtain ⟨ly46, my46, uy46⟩ := q_tdb (x := a0) (y := (1 * 10)) (by omega) (by decide)
    rw [ey46] at ly46 my46 uy46
    rw [ey46]
    refine q_bipush cx dX12_tellNumber_5 rfl ?_
    refine q_icle (tgt := 18) cx ⟨by omega, by omega⟩ ⟨by decide, by decide⟩ dX12_tellNumber_7 (by decide) (fun c47 => ?_) (fun c47 => ?_)
    · refine q_ild_n cx dX12_tellNumber_18 rfl (lv_at hl 0 rfl) ?_
      refine lv_istore_n (lv' := [(3, .int (q_i (1 * 10))), (2, .int (q_i (1 * 10))), (0, .ref mo), (1, .int (q_i a0))]) cx.1 cx.2.1 dX12_tellNumber_19 rfl hl (by decide) rfl (fun ls hl => ?_)
      refine q_ild_n cx dX12_tellNumber_20 rfl (lv_at hl 0 rfl) ?_
      refine q_ifle (tgt := 45) cx ⟨by decide, by decide⟩ dX12_tellNumber_21 (by decide) (fun c48 => ?_) (fun c48 => ?_)
      · exact absurd c48 (by omega)
      · refine q_ald_n cx dX12_tellNumber_24 rfl (lv_at hl 2 rfl) ?_
        refine q_bipush cx dX12_tellNumber_25 rfl ?_
        refine q_ild_n cx dX12_tellNumber_27 rfl (lv_at hl 3 rfl) ?_
        refine q_ild_n cx dX12_tellNumber_28 rfl (lv_at hl 0 rfl) ?_
        refine q_idiv cx ⟨by omega, by omega⟩ ⟨by decide, by decide⟩ (by omega) dX12_tellNumber_29 ?_
        obtain ⟨y49, ey49⟩ : ∃ zz, Int.tdiv a0 (1 * 10) = zz := ⟨_, rfl⟩
        obtain ⟨ly49, my49, uy49⟩ := q_tdb (x := a0) (y := (1 * 10)) (by omega) (by decide)
        rw [ey49] at ly49 my49 uy49
        rw [ey49]
        refine q_bipush cx dX12_tellNumber_30 rfl ?_
        refine q_irem cx ⟨by omega, by omega⟩ ⟨by decide, by decide⟩ (by omega) dX12_tellNumber_32 (fun y50 ey50 ay50 by50 ny50 => ?_)
        refine q_iadd cx dX12_tellNumber_33 ?_
        refine q_cVv (As := [.int (q_i (48 + y50))]) (rest := []) cx hB (fun _ h => h) hN hmo kmo (by decide) rfl (r_tell l g hN hB.2.1 mo hmo kmo (48 + y50) (by omega) (by omega) rp hrp krp xr (by omega) (by omega) hf0 hr0) q_cX12_518 q_dX12_tell (by decide) rfl rfl hl.1 rfl (Nat.le_of_ble_eq_true rfl) dX12_tellNumber_34 (fun H locs f51 h53 hF hB => ?_)
        have z54 := h53
        have z55 : q_ir (q_r f51 mo 38) rp := Eq.trans (hF.r hmo (by rw [kmo]; rfl)) hr0
        refine q_ild_n cx dX12_tellNumber_37 rfl (lv_at hl 0 rfl) ?_
        refine q_bipush cx dX12_tellNumber_38 rfl ?_
        refine q_idiv cx ⟨by decide, by decide⟩ ⟨by decide, by decide⟩ (by omega) dX12_tellNumber_40 ?_
        rw [show Int.tdiv (1 * 10) 10 = 1 from by decide]
        refine lv_istore_n (lv' := [(3, .int (q_i 1)), (2, .int (q_i (1 * 10))), (0, .ref mo), (1, .int (q_i a0))]) cx.1 cx.2.1 dX12_tellNumber_41 rfl hl (by decide) rfl (fun ls hl => ?_)
        refine lv_goto (tgt := 20) cx.1 cx.2.1 dX12_tellNumber_42 (by decide) ?_
        refine q_ild_n cx dX12_tellNumber_20 rfl (lv_at hl 0 rfl) ?_
        refine q_ifle (tgt := 45) cx ⟨by decide, by decide⟩ dX12_tellNumber_21 (by decide) (fun c57 => ?_) (fun c57 => ?_)
        · exact absurd c57 (by omega)
        · refine q_ald_n cx dX12_tellNumber_24 rfl (lv_at hl 2 rfl) ?_
          refine q_bipush cx dX12_tellNumber_25 rfl ?_
          refine q_ild_n cx dX12_tellNumber_27 rfl (lv_at hl 3 rfl) ?_
          refine q_ild_n cx dX12_tellNumber_28 rfl (lv_at hl 0 rfl) ?_
          refine q_idiv cx ⟨by omega, by omega⟩ ⟨by decide, by decide⟩ (by omega) dX12_tellNumber_29 ?_
          obtain ⟨y58, ey58⟩ : ∃ zz, Int.tdiv a0 1 = zz := ⟨_, rfl⟩
          obtain ⟨ly58, my58, uy58⟩ := q_tdb (x := a0) (y := 1) (by omega) (by decide)
          rw [ey58] at ly58 my58 uy58
          rw [ey58]
          refine q_bipush cx dX12_tellNumber_30 rfl ?_
          refine q_irem cx ⟨by omega, by omega⟩ ⟨by decide, by decide⟩ (by omega) dX12_tellNumber_32 (fun y59 ey59 ay59 by59 ny59 => ?_)
          refine q_iadd cx dX12_tellNumber_33 ?_
          refine q_cVv (As := [.int (q_i (48 + y59))]) (rest := []) cx hB (fun _ h => h) hN hmo kmo (by decide) rfl (r_tell l g hN hB.2.1 mo hmo kmo (48 + y59) (by omega) (by omega) rp hrp krp (xr + 1) (by omega) (by omega) z54 z55) q_cX12_518 q_dX12_tell (by decide) rfl rfl hl.1 rfl (Nat.le_of_ble_eq_true rfl) dX12_tellNumber_34 (fun H locs f60 h62 hF hB => ?_)
          have z63 := h62
          have z64 : q_ir (q_r f60 mo 38) rp := Eq.trans (hF.r hmo (by rw [kmo]; rfl)) z55
          refine q_ild_n cx dX12_tellNumber_37 rfl (lv_at hl 0 rfl) ?_
          refine q_bipush cx dX12_tellNumber_38 rfl ?_
          refine q_idiv cx ⟨by decide, by decide⟩ ⟨by decide, by decide⟩ (by omega) dX12_tellNumber_40 ?_
          rw [show Int.tdiv 1 10 = 0 from by decide]
          refine lv_istore_n (lv' := [(3, .int (q_i 0)), (2, .int (q_i (1 * 10))), (0, .ref mo), (1, .int (q_i a0))]) cx.1 cx.2.1 dX12_tellNumber_41 rfl hl (by decide) rfl (fun ls hl => ?_)
          refine lv_goto (tgt := 20) cx.1 cx.2.1 dX12_tellNumber_42 (by decide) ?_
          refine q_ild_n cx dX12_tellNumber_20 rfl (lv_at hl 0 rfl) ?_
          refine q_ifle (tgt := 45) cx ⟨by decide, by decide⟩ dX12_tellNumber_21 (by decide) (fun c66 => ?_) (fun c66 => ?_)
          · refine q_vret cx hr hlk hB dX12_tellNumber_45 ?_
            exact ⟨((xr + 1) + 1) - xr, by omega, by omega, (Eq.trans z63 (by omega))⟩
          · exact absurd c66 (by omega)
    · exact absurd c47 (by omega)
set_option maxHeartbeats 4000000 in
set_option maxRecDepth 100000 in
theorem r_tellNumber4 (l : Launch) (g : q_G) {K : Nat → Nat} {L : List Nat} (hN : L.Nodup) {f : Nat → va_E} (hT : q_Ty g K L f) (mo : Nat) (hmo : mo ∈ L) (kmo : K mo = 12) (a0 : Int) (la0 : 100 ≤ a0) (ua0 : a0 ≤ 9999) (rp : Nat) (hrp : rp ∈ L) (krp : K rp = 167) (xr : Int) (lxr : 0 ≤ xr) (uxr : xr ≤ 476) (hf0 : q_is (q_z f mo 39) xr) (hr0 : q_ir (q_r f mo 38) rp) : q_Ct l g K L yX12_tellNumber cX12_tellNumber 4 none 1 21 [.ref mo, .int (q_i a0)] f [(12, 39, 39), (167, 0, 479)] (q_Pv (fun (f1 : Nat → va_E) => (∃ d9 : Int, 1 ≤ d9 ∧ d9 ≤ 4 ∧ q_is (q_z f1 mo 39) (xr + d9)))) := by
  refine q_ofb (by decide +kernel) hN hT (Nat.le_of_ble_eq_true rfl) ?_
  intro p e s m below meth c ls cx hr hlk hB hl
  have hl : lv_has ls 4 [(0, .ref mo), (1, .int (q_i a0))] := hl
  obtain ⟨H, hH⟩ : ∃ H : Heap, H = s.heap := ⟨_, rfl⟩
  obtain ⟨locs, hlocs⟩ : ∃ z : List Loc, z = [] := ⟨_, rfl⟩
  rw [← hH, ← hlocs] at hB
  rw [← hH, ← hlocs]
  refine q_iconst cx dX12_tellNumber_0 ?_
  refine lv_istore_n (lv' := [(2, .int (q_i 1)), (0, .ref mo), (1, .int (q_i a0))]) cx.1 cx.2.1 dX12_tellNumber_1 rfl hl (by decide) rfl (fun ls hl => ?_)
  refine q_ild_n cx dX12_tellNumber_2 rfl (lv_at hl 2 rfl) ?_
  refine q_ild_n cx dX12_tellNumber_3 rfl (lv_at hl 0 rfl) ?_
  refine q_idiv cx ⟨by omega, by omega⟩ ⟨by decide, by decide⟩ (by omega) dX12_tellNumber_4 ?_
  obtain ⟨y74, ey74⟩ : ∃ zz, Int.tdiv a0 1 = zz := ⟨_, rfl⟩
  obtain ⟨ly74, my74, uy74⟩ := q_tdb (x := a0) (y := 1) (by omega) (by decide)
  rw [ey74] at ly74 my74 uy74
  rw [ey74]
  refine q_bipush cx dX12_tellNumber_5 rfl ?_
  refine q_icle (tgt := 18) cx ⟨by omega, by omega⟩ ⟨by decide, by decide⟩ dX12_tellNumber_7 (by decide) (fun c75 => ?_) (fun c75 => ?_)
  · exact absurd c75 (by omega)
  · refine q_ild_n cx dX12_tellNumber_10 rfl (lv_at hl 0 rfl) ?_
    refine q_bipush cx dX12_tellNumber_11 rfl ?_
    refine q_imul cx dX12_tellNumber_13 ?_
    refine lv_istore_n (lv' := [(2, .int (q_i (1 * 10))), (0, .ref mo), (1, .int (q_i a0))]) cx.1 cx.2.1 dX12_tellNumber_14 rfl hl (by decide) rfl (fun ls hl => ?_)
    refine lv_goto (tgt := 2) cx.1 cx.2.1 dX12_tellNumber_15 (by decide) ?_
    refine q_ild_n cx dX12_tellNumber_2 rfl (lv_at hl 2 rfl) ?_
    refine q_ild_n cx dX12_tellNumber_3 rfl (lv_at hl 0 rfl) ?_
    refine q_idiv cx ⟨by omega, by omega⟩ ⟨by decide, by decide⟩ (by omega) dX12_tellNumber_4 ?_
    obtain ⟨y76, ey76⟩ : ∃ zz, Int.tdiv a0 (1 * 10) = zz := ⟨_, rfl⟩
    obtain ⟨ly76, my76, uy76⟩ := q_tdb (x := a0) (y := (1 * 10)) (by omega) (by decide)
    rw [ey76] at ly76 my76 uy76
    rw [ey76]
    refine q_bipush cx dX12_tellNumber_5 rfl ?_
    refine q_icle (tgt := 18) cx ⟨by omega, by omega⟩ ⟨by decide, by decide⟩ dX12_tellNumber_7 (by decide) (fun c77 => ?_) (fun c77 => ?_)
    · exact absurd c77 (by omega)
    · refine q_ild_n cx dX12_tellNumber_10 rfl (lv_at hl 0 rfl) ?_
      refine q_bipush cx dX12_tellNumber_11 rfl ?_
      refine q_imul cx dX12_tellNumber_13 ?_
      refine lv_istore_n (lv' := [(2, .int (q_i ((1 * 10) * 10))), (0, .ref mo), (1, .int (q_i a0))]) cx.1 cx.2.1 dX12_tellNumber_14 rfl hl (by decide) rfl (fun ls hl => ?_)
      refine lv_goto (tgt := 2) cx.1 cx.2.1 dX12_tellNumber_15 (by decide) ?_
      refine q_ild_n cx dX12_tellNumber_2 rfl (lv_at hl 2 rfl) ?_
      refine q_ild_n cx dX12_tellNumber_3 rfl (lv_at hl 0 rfl) ?_
      refine q_idiv cx ⟨by omega, by omega⟩ ⟨by decide, by decide⟩ (by omega) dX12_tellNumber_4 ?_
      obtain ⟨y78, ey78⟩ : ∃ zz, Int.tdiv a0 ((1 * 10) * 10) = zz := ⟨_, rfl⟩
      obtain ⟨ly78, my78, uy78⟩ := q_tdb (x := a0) (y := ((1 * 10) * 10)) (by omega) (by decide)
      rw [ey78] at ly78 my78 uy78
      rw [ey78]
      refine q_bipush cx dX12_tellNumber_5 rfl ?_
      refine q_icle (tgt := 18) cx ⟨by omega, by omega⟩ ⟨by decide, by decide⟩ dX12_tellNumber_7 (by decide) (fun c79 => ?_) (fun c79 => ?_)
      · refine q_ild_n cx dX12_tellNumber_18 rfl (lv_at hl 0 rfl) ?_
        refine lv_istore_n (lv' := [(3, .int (q_i ((1 * 10) * 10))), (2, .int (q_i ((1 * 10) * 10))), (0, .ref mo), (1, .int (q_i a0))]) cx.1 cx.2.1 dX12_tellNumber_19 rfl hl (by decide) rfl (fun ls hl => ?_)
        refine q_ild_n cx dX12_tellNumber_20 rfl (lv_at hl 0 rfl) ?_
        refine q_ifle (tgt := 45) cx ⟨by decide, by decide⟩ dX12_tellNumber_21 (by decide) (fun c80 => ?_) (fun c80 => ?_)
        · exact absurd c80 (by omega)
        · refine q_ald_n cx dX12_tellNumber_24 rfl (lv_at hl 2 rfl) ?_
          refine q_bipush cx dX12_tellNumber_25 rfl ?_
          refine q_ild_n cx dX12_tellNumber_27 rfl (lv_at hl 3 rfl) ?_
          refine q_ild_n cx dX12_tellNumber_28 rfl (lv_at hl 0 rfl) ?_
          refine q_idiv cx ⟨by omega, by omega⟩ ⟨by decide, by decide⟩ (by omega) dX12_tellNumber_29 ?_
          obtain ⟨y81, ey81⟩ : ∃ zz, Int.tdiv a0 ((1 * 10) * 10) = zz := ⟨_, rfl⟩
          obtain ⟨ly81, my81, uy81⟩ := q_tdb (x := a0) (y := ((1 * 10) * 10)) (by omega) (by decide)
          rw [ey81] at ly81 my81 uy81
          rw [ey81]
          refine q_bipush cx dX12_tellNumber_30 rfl ?_
          refine q_irem cx ⟨by omega, by omega⟩ ⟨by decide, by decide⟩ (by omega) dX12_tellNumber_32 (fun y82 ey82 ay82 by82 ny82 => ?_)
          refine q_iadd cx dX12_tellNumber_33 ?_
          refine q_cVv (As := [.int (q_i (48 + y82))]) (rest := []) cx hB (fun _ h => h) hN hmo kmo (by decide) rfl (r_tell l g hN hB.2.1 mo hmo kmo (48 + y82) (by omega) (by omega) rp hrp krp xr (by omega) (by omega) hf0 hr0) q_cX12_518 q_dX12_tell (by decide) rfl rfl hl.1 rfl (Nat.le_of_ble_eq_true rfl) dX12_tellNumber_34 (fun H locs f83 h85 hF hB => ?_)
          have z86 := h85
          have z87 : q_ir (q_r f83 mo 38) rp := Eq.trans (hF.r hmo (by rw [kmo]; rfl)) hr0
          refine q_ild_n cx dX12_tellNumber_37 rfl (lv_at hl 0 rfl) ?_
          refine q_bipush cx dX12_tellNumber_38 rfl ?_
          refine q_idiv cx ⟨by decide, by decide⟩ ⟨by decide, by decide⟩ (by omega) dX12_tellNumber_40 ?_
          rw [show Int.tdiv ((1 * 10) * 10) 10 = 10 from by decide]
          refine lv_istore_n (lv' := [(3, .int (q_i 10)), (2, .int (q_i ((1 * 10) * 10))), (0, .ref mo), (1, .int (q_i a0))]) cx.1 cx.2.1 dX12_tellNumber_41 rfl hl (by decide) rfl (fun ls hl => ?_)
          refine lv_goto (tgt := 20) cx.1 cx.2.1 dX12_tellNumber_42 (by decide) ?_
          refine q_ild_n cx dX12_tellNumber_20 rfl (lv_at hl 0 rfl) ?_
          refine q_ifle (tgt := 45) cx ⟨by decide, by decide⟩ dX12_tellNumber_21 (by decide) (fun c89 => ?_) (fun c89 => ?_)
          · exact absurd c89 (by omega)
          · refine q_ald_n cx dX12_tellNumber_24 rfl (lv_at hl 2 rfl) ?_
            refine q_bipush cx dX12_tellNumber_25 rfl ?_
            refine q_ild_n cx dX12_tellNumber_27 rfl (lv_at hl 3 rfl) ?_
            refine q_ild_n cx dX12_tellNumber_28 rfl (lv_at hl 0 rfl) ?_
            refine q_idiv cx ⟨by omega, by omega⟩ ⟨by decide, by decide⟩ (by omega) dX12_tellNumber_29 ?_
            obtain ⟨y90, ey90⟩ : ∃ zz, Int.tdiv a0 10 = zz := ⟨_, rfl⟩
            obtain ⟨ly90, my90, uy90⟩ := q_tdb (x := a0) (y := 10) (by omega) (by decide)
            rw [ey90] at ly90 my90 uy90
            rw [ey90]
            refine q_bipush cx dX12_tellNumber_30 rfl ?_
            refine q_irem cx ⟨by omega, by omega⟩ ⟨by decide, by decide⟩ (by omega) dX12_tellNumber_32 (fun y91 ey91 ay91 by91 ny91 => ?_)
            refine q_iadd cx dX12_tellNumber_33 ?_
            refine q_cVv (As := [.int (q_i (48 + y91))]) (rest := []) cx hB (fun _ h => h) hN hmo kmo (by decide) rfl (r_tell l g hN hB.2.1 mo hmo kmo (48 + y91) (by omega) (by omega) rp hrp krp (xr + 1) (by omega) (by omega) z86 z87) q_cX12_518 q_dX12_tell (by decide) rfl rfl hl.1 rfl (Nat.le_of_ble_eq_true rfl) dX12_tellNumber_34 (fun H locs f92 h94 hF hB => ?_)
            have z95 := h94
            have z96 : q_ir (q_r f92 mo 38) rp := Eq.trans (hF.r hmo (by rw [kmo]; rfl)) z87
            refine q_ild_n cx dX12_tellNumber_37 rfl (lv_at hl 0 rfl) ?_
            refine q_bipush cx dX12_tellNumber_38 rfl ?_
            refine q_idiv cx ⟨by decide, by decide⟩ ⟨by decide, by decide⟩ (by omega) dX12_tellNumber_40 ?_
            rw [show Int.tdiv 10 10 = 1 from by decide]
            refine lv_istore_n (lv' := [(3, .int (q_i 1)), (2, .int (q_i ((1 * 10) * 10))), (0, .ref mo), (1, .int (q_i a0))]) cx.1 cx.2.1 dX12_tellNumber_41 rfl hl (by decide) rfl (fun ls hl => ?_)
            refine lv_goto (tgt := 20) cx.1 cx.2.1 dX12_tellNumber_42 (by decide) ?_
            refine q_ild_n cx dX12_tellNumber_20 rfl (lv_at hl 0 rfl) ?_
            refine q_ifle (tgt := 45) cx ⟨by decide, by decide⟩ dX12_tellNumber_21 (by decide) (fun c98 => ?_) (fun c98 => ?_)
            · exact absurd c98 (by omega)
            · refine q_ald_n cx dX12_tellNumber_24 rfl (lv_at hl 2 rfl) ?_
              refine q_bipush cx dX12_tellNumber_25 rfl ?_
              refine q_ild_n cx dX12_tellNumber_27 rfl (lv_at hl 3 rfl) ?_
              refine q_ild_n cx dX12_tellNumber_28 rfl (lv_at hl 0 rfl) ?_
              refine q_idiv cx ⟨by omega, by omega⟩ ⟨by decide, by decide⟩ (by omega) dX12_tellNumber_29 ?_
              obtain ⟨y99, ey99⟩ : ∃ zz, Int.tdiv a0 1 = zz := ⟨_, rfl⟩
              obtain ⟨ly99, my99, uy99⟩ := q_tdb (x := a0) (y := 1) (by omega) (by decide)
              rw [ey99] at ly99 my99 uy99
              rw [ey99]
              refine q_bipush cx dX12_tellNumber_30 rfl ?_
              refine q_irem cx ⟨by omega, by omega⟩ ⟨by decide, by decide⟩ (by omega) dX12_tellNumber_32 (fun y100 ey100 ay100 by100 ny100 => ?_)
              refine q_iadd cx dX12_tellNumber_33 ?_
              refine q_cVv (As := [.int (q_i (48 + y100))]) (rest := []) cx hB (fun _ h => h) hN hmo kmo (by decide) rfl (r_tell l g hN hB.2.1 mo hmo kmo (48 + y100) (by omega) (by omega) rp hrp krp ((xr + 1) + 1) (by omega) (by omega) z95 z96) q_cX12_518 q_dX12_tell (by decide) rfl rfl hl.1 rfl (Nat.le_of_ble_eq_true rfl) dX12_tellNumber_34 (fun H locs f101 h103 hF hB => ?_)
              have z104 := h103
              have z105 : q_ir (q_r f101 mo 38) rp := Eq.trans (hF.r hmo (by rw [kmo]; rfl)) z96
              refine q_ild_n cx dX12_tellNumber_37 rfl (lv_at hl 0 rfl) ?_
              refine q_bipush cx dX12_tellNumber_38 rfl ?_
              refine q_idiv cx ⟨by decide, by decide⟩ ⟨by decide, by decide⟩ (by omega) dX12_tellNumber_40 ?_
              rw [show Int.tdiv 1 10 = 0 from by decide]
              refine lv_istore_n (lv' := [(3, .int (q_i 0)), (2, .int (q_i ((1 * 10) * 10))), (0, .ref mo), (1, .int (q_i a0))]) cx.1 cx.2.1 dX12_tellNumber_41 rfl hl (by decide) rfl (fun ls hl => ?_)
              refine lv_goto (tgt := 20) cx.1 cx.2.1 dX12_tellNumber_42 (by decide) ?_
              refine q_ild_n cx dX12_tellNumber_20 rfl (lv_at hl 0 rfl) ?_
              refine q_ifle (tgt := 45) cx ⟨by decide, by decide⟩ dX12_tellNumber_21 (by decide) (fun c107 => ?_) (fun c107 => ?_)
              · refine q_vret cx hr hlk hB dX12_tellNumber_45 ?_
                exact ⟨(((xr + 1) + 1) + 1) - xr, by omega, by omega, (Eq.trans z104 (by omega))⟩
              · exact absurd c107 (by omega)
      · refine q_ild_n cx dX12_tellNumber_10 rfl (lv_at hl 0 rfl) ?_
        refine q_bipush cx dX12_tellNumber_11 rfl ?_
        refine q_imul cx dX12_tellNumber_13 ?_
        refine lv_istore_n (lv' := [(2, .int (q_i (((1 * 10) * 10) * 10))), (0, .ref mo), (1, .int (q_i a0))]) cx.1 cx.2.1 dX12_tellNumber_14 rfl hl (by decide) rfl (fun ls hl => ?_)
        refine lv_goto (tgt := 2) cx.1 cx.2.1 dX12_tellNumber_15 (by decide) ?_
        refine q_ild_n cx dX12_tellNumber_2 rfl (lv_at hl 2 rfl) ?_
        refine q_ild_n cx dX12_tellNumber_3 rfl (lv_at hl 0 rfl) ?_
        refine q_idiv cx ⟨by omega, by omega⟩ ⟨by decide, by decide⟩ (by omega) dX12_tellNumber_4 ?_
        obtain ⟨y108, ey108⟩ : ∃ zz, Int.tdiv a0 (((1 * 10) * 10) * 10) = zz := ⟨_, rfl⟩
        obtain ⟨ly108, my108, uy108⟩ := q_tdb (x := a0) (y := (((1 * 10) * 10) * 10)) (by omega) (by decide)
        rw [ey108] at ly108 my108 uy108
        rw [ey108]
        refine q_bipush cx dX12_tellNumber_5 rfl ?_
        refine q_icle (tgt := 18) cx ⟨by omega, by omega⟩ ⟨by decide, by decide⟩ dX12_tellNumber_7 (by decide) (fun c109 => ?_) (fun c109 => ?_)
        · refine q_ild_n cx dX12_tellNumber_18 rfl (lv_at hl 0 rfl) ?_
          refine lv_istore_n (lv' := [(3, .int (q_i (((1 * 10) * 10) * 10))), (2, .int (q_i (((1 * 10) * 10) * 10))), (0, .ref mo), (1, .int (q_i a0))]) cx.1 cx.2.1 dX12_tellNumber_19 rfl hl (by decide) rfl (fun ls hl => ?_)
          refine q_ild_n cx dX12_tellNumber_20 rfl (lv_at hl 0 rfl) ?_
          refine q_ifle (tgt := 45) cx ⟨by decide, by decide⟩ dX12_tellNumber_21 (by decide) (fun c110 => ?_) (fun c110 => ?_)
          · exact absurd c110 (by omega)
          · refine q_ald_n cx dX12_tellNumber_24 rfl (lv_at hl 2 rfl) ?_
            refine q_bipush cx dX12_tellNumber_25 rfl ?_
            refine q_ild_n cx dX12_tellNumber_27 rfl (lv_at hl 3 rfl) ?_
            refine q_ild_n cx dX12_tellNumber_28 rfl (lv_at hl 0 rfl) ?_
            refine q_idiv cx ⟨by omega, by omega⟩ ⟨by decide, by decide⟩ (by omega) dX12_tellNumber_29 ?_
            obtain ⟨y111, ey111⟩ : ∃ zz, Int.tdiv a0 (((1 * 10) * 10) * 10) = zz := ⟨_, rfl⟩
            obtain ⟨ly111, my111, uy111⟩ := q_tdb (x := a0) (y := (((1 * 10) * 10) * 10)) (by omega) (by decide)
            rw [ey111] at ly111 my111 uy111
            rw [ey111]
            refine q_bipush cx dX12_tellNumber_30 rfl ?_
            refine q_irem cx ⟨by omega, by omega⟩ ⟨by decide, by decide⟩ (by omega) dX12_tellNumber_32 (fun y112 ey112 ay112 by112 ny112 => ?_)
            refine q_iadd cx dX12_tellNumber_33 ?_
            refine q_cVv (As := [.int (q_i (48 + y112))]) (rest := []) cx hB (fun _ h => h) hN hmo kmo (by decide) rfl (r_tell l g hN hB.2.1 mo hmo kmo (48 + y112) (by omega) (by omega) rp hrp krp xr (by omega) (by omega) hf0 hr0) q_cX12_518 q_dX12_tell (by decide) rfl rfl hl.1 rfl (Nat.le_of_ble_eq_true rfl) dX12_tellNumber_34 (fun H locs f113 h115 hF hB => ?_)
            have z116 := h115
            have z117 : q_ir (q_r f113 mo 38) rp := Eq.trans (hF.r hmo (by rw [kmo]; rfl)) hr0
            refine q_ild_n cx dX12_tellNumber_37 rfl (lv_at hl 0 rfl) ?_
            refine q_bipush cx dX12_tellNumber_38 rfl ?_
            refine q_idiv cx ⟨by decide, by decide⟩ ⟨by decide, by decide⟩ (by omega) dX12_tellNumber_40 ?_
            rw [show Int.tdiv (((1 * 10) * 10) * 10) 10 = 100 from by decide]
            refine lv_istore_n (lv' := [(3, .int (q_i 100)), (2, .int (q_i (((1 * 10) * 10) * 10))), (0, .ref mo), (1, .int (q_i a0))]) cx.1 cx.2.1 dX12_tellNumber_41 rfl hl (by decide) rfl (fun ls hl => ?_)
            refine lv_goto (tgt := 20) cx.1 cx.2.1 dX12_tellNumber_42 (by decide) ?_
            refine q_ild_n cx dX12_tellNumber_20 rfl (lv_at hl 0 rfl) ?_
            refine q_ifle (tgt := 45) cx ⟨by decide, by decide⟩ dX12_tellNumber_21 (by decide) (fun c119 => ?_) (fun c119 => ?_)
            · exact absurd c119 (by omega)
            · refine q_ald_n cx dX12_tellNumber_24 rfl (lv_at hl 2 rfl) ?_
              refine q_bipush cx dX12_tellNumber_25 rfl ?_
              refine q_ild_n cx dX12_tellNumber_27 rfl (lv_at hl 3 rfl) ?_
              refine q_ild_n cx dX12_tellNumber_28 rfl (lv_at hl 0 rfl) ?_
              refine q_idiv cx ⟨by omega, by omega⟩ ⟨by decide, by decide⟩ (by omega) dX12_tellNumber_29 ?_
              obtain ⟨y120, ey120⟩ : ∃ zz, Int.tdiv a0 100 = zz := ⟨_, rfl⟩
              obtain ⟨ly120, my120, uy120⟩ := q_tdb (x := a0) (y := 100) (by omega) (by decide)
              rw [ey120] at ly120 my120 uy120
              rw [ey120]
              refine q_bipush cx dX12_tellNumber_30 rfl ?_
              refine q_irem cx ⟨by omega, by omega⟩ ⟨by decide, by decide⟩ (by omega) dX12_tellNumber_32 (fun y121 ey121 ay121 by121 ny121 => ?_)
              refine q_iadd cx dX12_tellNumber_33 ?_
              refine q_cVv (As := [.int (q_i (48 + y121))]) (rest := []) cx hB (fun _ h => h) hN hmo kmo (by decide) rfl (r_tell l g hN hB.2.1 mo hmo kmo (48 + y121) (by omega) (by omega) rp hrp krp (xr + 1) (by omega) (by omega) z116 z117) q_cX12_518 q_dX12_tell (by decide) rfl rfl hl.1 rfl (Nat.le_of_ble_eq_true rfl) dX12_tellNumber_34 (fun H locs f122 h124 hF hB => ?_)
              have z125 := h124
              have z126 : q_ir (q_r f122 mo 38) rp := Eq.trans (hF.r hmo (by rw [kmo]; rfl)) z117
              refine q_ild_n cx dX12_tellNumber_37 rfl (lv_at hl 0 rfl) ?_
              refine q_bipush cx dX12_tellNumber_38 rfl ?_
              refine q_idiv cx ⟨by decide, by decide⟩ ⟨by decide, by decide⟩ (by omega) dX12_tellNumber_40 ?_
              rw [show Int.tdiv 100 10 = 10 from by decide]
              refine lv_istore_n (lv' := [(3, .int (q_i 10)), (2, .int (q_i (((1 * 10) * 10) * 10))), (0, .ref mo), (1, .int (q_i a0))]) cx.1 cx.2.1 dX12_tellNumber_41 rfl hl (by decide) rfl (fun ls hl => ?_)
              refine lv_goto (tgt := 20) cx.1 cx.2.1 dX12_tellNumber_42 (by decide) ?_
              refine q_ild_n cx dX12_tellNumber_20 rfl (lv_at hl 0 rfl) ?_
              refine q_ifle (tgt := 45) cx ⟨by decide, by decide⟩ dX12_tellNumber_21 (by decide) (fun c128 => ?_) (fun c128 => ?_)
              · exact absurd c128 (by omega)
              · refine q_ald_n cx dX12_tellNumber_24 rfl (lv_at hl 2 rfl) ?_
                refine q_bipush cx dX12_tellNumber_25 rfl ?_
                refine q_ild_n cx dX12_tellNumber_27 rfl (lv_at hl 3 rfl) ?_
                refine q_ild_n cx dX12_tellNumber_28 rfl (lv_at hl 0 rfl) ?_
                refine q_idiv cx ⟨by omega, by omega⟩ ⟨by decide, by decide⟩ (by omega) dX12_tellNumber_29 ?_
                obtain ⟨y129, ey129⟩ : ∃ zz, Int.tdiv a0 10 = zz := ⟨_, rfl⟩
                obtain ⟨ly129, my129, uy129⟩ := q_tdb (x := a0) (y := 10) (by omega) (by decide)
                rw [ey129] at ly129 my129 uy129
                rw [ey129]
                refine q_bipush cx dX12_tellNumber_30 rfl ?_
                refine q_irem cx ⟨by omega, by omega⟩ ⟨by decide, by decide⟩ (by omega) dX12_tellNumber_32 (fun y130 ey130 ay130 by130 ny130 => ?_)
                refine q_iadd cx dX12_tellNumber_33 ?_
                refine q_cVv (As := [.int (q_i (48 + y130))]) (rest := []) cx hB (fun _ h => h) hN hmo kmo (by decide) rfl (r_tell l g hN hB.2.1 mo hmo kmo (48 + y130) (by omega) (by omega) rp hrp krp ((xr + 1) + 1) (by omega) (by omega) z125 z126) q_cX12_518 q_dX12_tell (by decide) rfl rfl hl.1 rfl (Nat.le_of_ble_eq_true rfl) dX12_tellNumber_34 (fun H locs f131 h133 hF hB => ?_)
                have z134 := h133
                have z135 : q_ir (q_r f131 mo 38) rp := Eq.trans (hF.r hmo (by rw [kmo]; rfl)) z126
                refine q_ild_n cx dX12_tellNumber_37 rfl (lv_at hl 0 rfl) ?_
                refine q_bipush cx dX12_tellNumber_38 rfl ?_
                refine q_idiv cx ⟨by decide, by decide⟩ ⟨by decide, by decide⟩ (by omega) dX12_tellNumber_40 ?_
                rw [show Int.tdiv 10 10 = 1 from by decide]
                refine lv_istore_n (lv' := [(3, .int (q_i 1)), (2, .int (q_i (((1 * 10) * 10) * 10))), (0, .ref mo), (1, .int (q_i a0))]) cx.1 cx.2.1 dX12_tellNumber_41 rfl hl (by decide) rfl (fun ls hl => ?_)
                refine lv_goto (tgt := 20) cx.1 cx.2.1 dX12_tellNumber_42 (by decide) ?_
                refine q_ild_n cx dX12_tellNumber_20 rfl (lv_at hl 0 rfl) ?_
                refine q_ifle (tgt := 45) cx ⟨by decide, by decide⟩ dX12_tellNumber_21 (by decide) (fun c137 => ?_) (fun c137 => ?_)
                · exact absurd c137 (by omega)
                · refine q_ald_n cx dX12_tellNumber_24 rfl (lv_at hl 2 rfl) ?_
                  refine q_bipush cx dX12_tellNumber_25 rfl ?_
                  refine q_ild_n cx dX12_tellNumber_27 rfl (lv_at hl 3 rfl) ?_
                  refine q_ild_n cx dX12_tellNumber_28 rfl (lv_at hl 0 rfl) ?_
                  refine q_idiv cx ⟨by omega, by omega⟩ ⟨by decide, by decide⟩ (by omega) dX12_tellNumber_29 ?_
                  obtain ⟨y138, ey138⟩ : ∃ zz, Int.tdiv a0 1 = zz := ⟨_, rfl⟩
                  obtain ⟨ly138, my138, uy138⟩ := q_tdb (x := a0) (y := 1) (by omega) (by decide)
                  rw [ey138] at ly138 my138 uy138
                  rw [ey138]
                  refine q_bipush cx dX12_tellNumber_30 rfl ?_
                  refine q_irem cx ⟨by omega, by omega⟩ ⟨by decide, by decide⟩ (by omega) dX12_tellNumber_32 (fun y139 ey139 ay139 by139 ny139 => ?_)
                  refine q_iadd cx dX12_tellNumber_33 ?_
                  refine q_cVv (As := [.int (q_i (48 + y139))]) (rest := []) cx hB (fun _ h => h) hN hmo kmo (by decide) rfl (r_tell l g hN hB.2.1 mo hmo kmo (48 + y139) (by omega) (by omega) rp hrp krp (((xr + 1) + 1) + 1) (by omega) (by omega) z134 z135) q_cX12_518 q_dX12_tell (by decide) rfl rfl hl.1 rfl (Nat.le_of_ble_eq_true rfl) dX12_tellNumber_34 (fun H locs f140 h142 hF hB => ?_)
                  have z143 := h142
                  have z144 : q_ir (q_r f140 mo 38) rp := Eq.trans (hF.r hmo (by rw [kmo]; rfl)) z135
                  refine q_ild_n cx dX12_tellNumber_37 rfl (lv_at hl 0 rfl) ?_
                  refine q_bipush cx dX12_tellNumber_38 rfl ?_
                  refine q_idiv cx ⟨by decide, by decide⟩ ⟨by decide, by decide⟩ (by omega) dX12_tellNumber_40 ?_
                  rw [show Int.tdiv 1 10 = 0 from by decide]
                  refine lv_istore_n (lv' := [(3, .int (q_i 0)), (2, .int (q_i (((1 * 10) * 10) * 10))), (0, .ref mo), (1, .int (q_i a0))]) cx.1 cx.2.1 dX12_tellNumber_41 rfl hl (by decide) rfl (fun ls hl => ?_)
                  refine lv_goto (tgt := 20) cx.1 cx.2.1 dX12_tellNumber_42 (by decide) ?_
                  refine q_ild_n cx dX12_tellNumber_20 rfl (lv_at hl 0 rfl) ?_
                  refine q_ifle (tgt := 45) cx ⟨by decide, by decide⟩ dX12_tellNumber_21 (by decide) (fun c146 => ?_) (fun c146 => ?_)
                  · refine q_vret cx hr hlk hB dX12_tellNumber_45 ?_
                    exact ⟨((((xr + 1) + 1) + 1) + 1) - xr, by omega, by omega, (Eq.trans z143 (by omega))⟩
                  · exact absurd c146 (by omega)
        · exact absurd c109 (by omega)
set_option maxHeartbeats 4000000 in
set_option maxRecDepth 100000 in
theorem r_tellNumbern (l : Launch) (g : q_G) {K : Nat → Nat} {L : List Nat} (hN : L.Nodup) {f : Nat → va_E} (hT : q_Ty g K L f) (mo : Nat) (hmo : mo ∈ L) (kmo : K mo = 12) (a0 : Int) (la0 : (-198) ≤ a0) (ua0 : a0 ≤ (-1)) (rp : Nat) (hrp : rp ∈ L) (krp : K rp = 167) (xr : Int) (lxr : 0 ≤ xr) (uxr : xr ≤ 479) (hf0 : q_is (q_z f mo 39) xr) (hr0 : q_ir (q_r f mo 38) rp) : q_Ct l g K L yX12_tellNumber cX12_tellNumber 4 none 1 21 [.ref mo, .int (q_i a0)] f [(12, 39, 39), (167, 0, 479)] (q_Pv (fun (f1 : Nat → va_E) => (∃ d9 : Int, 1 ≤ d9 ∧ d9 ≤ 1 ∧ q_is (q_z f1 mo 39) (xr + d9)))) := by
  refine q_ofb (by decide +kernel) hN hT (Nat.le_of_ble_eq_true rfl) ?_
  intro p e s m below meth c ls cx hr hlk hB hl
  have hl : lv_has ls 4 [(0, .ref mo), (1, .int (q_i a0))] := hl
  obtain ⟨H, hH⟩ : ∃ H : Heap, H = s.heap := ⟨_, rfl⟩
  obtain ⟨locs, hlocs⟩ : ∃ z : List Loc, z = [] := ⟨_, rfl⟩
  rw [← hH, ← hlocs] at hB
  rw [← hH, ← hlocs]
  refine q_iconst cx dX12_tellNumber_0 ?_
  refine lv_istore_n (lv' := [(2, .int (q_i 1)), (0, .ref mo), (1, .int (q_i a0))]) cx.1 cx.2.1 dX12_tellNumber_1 rfl hl (by decide) rfl (fun ls hl => ?_)
  refine q_ild_n cx dX12_tellNumber_2 rfl (lv_at hl 2 rfl) ?_
  refine q_ild_n cx dX12_tellNumber_3 rfl (lv_at hl 0 rfl) ?_
  refine q_idiv cx ⟨by omega, by omega⟩ ⟨by decide, by decide⟩ (by omega) dX12_tellNumber_4 ?_
  obtain ⟨y13, ey13⟩ : ∃ zz, Int.tdiv a0 1 = zz := ⟨_, rfl⟩
  obtain ⟨ly13, uy13⟩ := q_tdn (x := a0) (y := 1) (by omega) (by decide)
  rw [ey13] at ly13 uy13
  rw [ey13]
  refine q_bipush cx dX12_tellNumber_5 rfl ?_
  refine q_icle (tgt := 18) cx ⟨by omega, by omega⟩ ⟨by decide, by decide⟩ dX12_tellNumber_7 (by decide) (fun c14 => ?_) (fun c14 => ?_)
  · refine q_ild_n cx dX12_tellNumber_18 rfl (lv_at hl 0 rfl) ?_
    refine lv_istore_n (lv' := [(3, .int (q_i 1)), (2, .int (q_i 1)), (0, .ref mo), (1, .int (q_i a0))]) cx.1 cx.2.1 dX12_tellNumber_19 rfl hl (by decide) rfl (fun ls hl => ?_)
    refine q_ild_n cx dX12_tellNumber_20 rfl (lv_at hl 0 rfl) ?_
    refine q_ifle (tgt := 45) cx ⟨by decide, by decide⟩ dX12_tellNumber_21 (by decide) (fun c15 => ?_) (fun c15 => ?_)
    · exact absurd c15 (by omega)
    · refine q_ald_n cx dX12_tellNumber_24 rfl (lv_at hl 2 rfl) ?_
      refine q_bipush cx dX12_tellNumber_25 rfl ?_
      refine q_ild_n cx dX12_tellNumber_27 rfl (lv_at hl 3 rfl) ?_
      refine q_ild_n cx dX12_tellNumber_28 rfl (lv_at hl 0 rfl) ?_
      refine q_idiv cx ⟨by omega, by omega⟩ ⟨by decide, by decide⟩ (by omega) dX12_tellNumber_29 ?_
      obtain ⟨y16, ey16⟩ : ∃ zz, Int.tdiv a0 1 = zz := ⟨_, rfl⟩
      obtain ⟨ly16, uy16⟩ := q_tdn (x := a0) (y := 1) (by omega) (by decide)
      rw [ey16] at ly16 uy16
      rw [ey16]
      refine q_bipush cx dX12_tellNumber_30 rfl ?_
      refine q_irem cx ⟨by omega, by omega⟩ ⟨by decide, by decide⟩ (by omega) dX12_tellNumber_32 (fun y17 ey17 ay17 by17 ny17 => ?_)
      refine q_iadd cx dX12_tellNumber_33 ?_
      refine q_cVv (As := [.int (q_i (48 + y17))]) (rest := []) cx hB (fun _ h => h) hN hmo kmo (by decide) rfl (r_tell l g hN hB.2.1 mo hmo kmo (48 + y17) (by omega) (by omega) rp hrp krp xr (by omega) (by omega) hf0 hr0) q_cX12_518 q_dX12_tell (by decide) rfl rfl hl.1 rfl (Nat.le_of_ble_eq_true rfl) dX12_tellNumber_34 (fun H locs f18 h20 hF hB => ?_)
      have z21 := h20
      have z22 : q_ir (q_r f18 mo 38) rp := Eq.trans (hF.r hmo (by rw [kmo]; rfl)) hr0
      refine q_ild_n cx dX12_tellNumber_37 rfl (lv_at hl 0 rfl) ?_
      refine q_bipush cx dX12_tellNumber_38 rfl ?_
      refine q_idiv cx ⟨by decide, by decide⟩ ⟨by decide, by decide⟩ (by omega) dX12_tellNumber_40 ?_
      rw [show Int.tdiv 1 10 = 0 from by decide]
      refine lv_istore_n (lv' := [(3, .int (q_i 0)), (2, .int (q_i 1)), (0, .ref mo), (1, .int (q_i a0))]) cx.1 cx.2.1 dX12_tellNumber_41 rfl hl (by decide) rfl (fun ls hl => ?_)
      refine lv_goto (tgt := 20) cx.1 cx.2.1 dX12_tellNumber_42 (by decide) ?_
      refine q_ild_n cx dX12_tellNumber_20 rfl (lv_at hl 0 rfl) ?_
      refine q_ifle (tgt := 45) cx ⟨by decide, by decide⟩ dX12_tellNumber_21 (by decide) (fun c24 => ?_) (fun c24 => ?_)
      · refine q_vret cx hr hlk hB dX12_tellNumber_45 ?_
        exact ⟨(xr + 1) - xr, by omega, by omega, (Eq.trans z21 (by omega))⟩
      · exact absurd c24 (by omega)
  · exact absurd c14 (by omega)
