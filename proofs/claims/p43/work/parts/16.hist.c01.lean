set_option maxHeartbeats 4000000 in
set_option maxRecDepth 100000 in
theorem f_ticksIfSent (l : Launch) (g : q_G) {K : Nat → Nat} {L : List Nat} (hN : L.Nodup) {f : Nat → va_E} (hT : q_Ty g K L f) (d0 : Nat → Nat) (s0 : tw_S) (d3 : Nat → Nat) (fc : Nat) (hfc : fc ∈ L) (kfc : K fc = 1) (v0 : Nat) (hv0 : v0 ∈ L) (kv0 : K v0 = 10) (p1 : Int) (lp1 : 0 ≤ p1) (up1 : p1 ≤ 9) (p2 : Int) (lp2 : 0 ≤ p2) (up2 : p2 ≤ 9) (p3 : Int) (lp3 : 0 ≤ p3) (up3 : p3 ≤ 1) (v3 : Nat) (hv3 : v3 ∈ L) (kv3 : K v3 = 15) (n3 : Nat) (hn3 : n3 ∈ L) (kn3 : K n3 = 113) (l3 : Nat) (hl3 : l3 ∈ L) (kl3 : K l3 = 123) (m3 : Nat) (hm3 : m3 ∈ L) (km3 : K m3 = 133) (n0 : Nat) (hn0 : n0 ∈ L) (kn0 : K n0 = 110) (l0 : Nat) (hl0 : l0 ∈ L) (kl0 : K l0 = 120) (m0 : Nat) (hm0 : m0 ∈ L) (km0 : K m0 = 130) (tm : Int) (ltm : 0 ≤ tm) (utm : tm ≤ 9000) (nn : Int) (lnn : 0 ≤ nn) (unn : nn ≤ 10) (ln : Int) (lln : 0 ≤ ln) (uln : ln ≤ 16) (mn : Int) (lmn : 0 ≤ mn) (umn : mn ≤ 60) (hf0 : q_is (q_z f v0 11) tm) (hf1 : q_is (q_z f v0 3) nn) (hf2 : q_is (q_z f v0 4) ln) (hf3 : q_is (q_z f v0 5) mn) (hr0 : q_ir (q_r f fc 0) v3) (hr1 : q_ir (q_r f v3 0) n3) (hr2 : q_ir (q_r f v3 1) l3) (hr3 : q_ir (q_r f v3 2) m3) (hr4 : q_ir (q_r f v0 0) n0) (hr5 : q_ir (q_r f v0 1) l0) (hr6 : q_ir (q_r f v0 2) m0) (hw0 : tw_vw K L 10 5 3 4 f v0 n0 l0 m0 d0 s0) (hz0 : tw_nw K L 5 f) (he3 : ∃ s9 : tw_S, tw_vw K L 15 19 23 27 f v3 n3 l3 m3 d3 s9) (hz3 : tw_nw K L 19 f) : q_Ct l g K L yX1_ticksIfSent cX1_ticksIfSent 5 (some .int) 6 149 [.ref fc, .ref v0, .int (q_i p1), .int (q_i p2), .int (q_i p3)] f [(15, 3, 15), (19, 0, 9), (23, 0, 4), (27, 0, 7)] (q_Pi (fun (z : Int) (f1 : Nat → va_E) => (-1) ≤ z ∧ z ≤ 200 ∧ (∃ τ9 : tw_S, z = tw_ia s0 τ9 p1 p2 p3) ∧ (∃ s9 : tw_S, tw_vw K L 15 19 23 27 f1 v3 n3 l3 m3 d3 s9) ∧ (tw_nw K L 19 f1))) := by
  refine q_ofb (by decide +kernel) hN hT (Nat.le_of_ble_eq_true rfl) ?_
  intro p e s m below meth c ls cx hr hlk hB hl
  have hl : lv_has ls 5 [(0, .ref fc), (1, .ref v0), (2, .int (q_i p1)), (3, .int (q_i p2)), (4, .int (q_i p3))] := hl
  obtain ⟨H, hH⟩ : ∃ H : Heap, H = s.heap := ⟨_, rfl⟩
  obtain ⟨locs, hlocs⟩ : ∃ z : List Loc, z = [] := ⟨_, rfl⟩
  rw [← hH, ← hlocs] at hB
  rw [← hH, ← hlocs]
  obtain ⟨s3, hw3⟩ := he3
  refine q_ald_n cx dX1_ticksIfSent_0 rfl (lv_at hl 1 rfl) ?_
  refine q_ild_n cx dX1_ticksIfSent_1 rfl (lv_at hl 2 rfl) ?_
  refine q_cVi (As := [.int (q_i p1)]) (rest := []) cx hB (fun _ h => h) hN hv0 kv0 (by decide) rfl (f_isOut0 l g hN hB.2.1 d0 s0 v0 hv0 kv0 p1 (by omega) (by omega) n0 hn0 kn0 l0 hl0 kl0 m0 hm0 km0 hr4 hr5 hr6 hw0) q_cX1_26 q_dX10_isOut (by decide) rfl rfl hl.1 rfl (Nat.le_of_ble_eq_true rfl) dX1_ticksIfSent_2 (fun y66 H locs f65 ry66 h67 hF hB => ?_)
  rcases h67 with h68 | h69
  · obtain ⟨rfl, qy66, t70⟩ := h68
    subst qy66
    refine q_ifne (tgt := 16) cx ⟨by decide, by decide⟩ dX1_ticksIfSent_5 (by decide) (fun c71 => ?_) (fun c71 => ?_)
    · refine q_iconst cx dX1_ticksIfSent_16 ?_
      refine q_iret cx hr hlk hB dX1_ticksIfSent_17 ⟨by decide, by decide⟩ ?_
      exact ⟨(by decide), (by decide), ⟨s3, (by have u0_ : tw_ou s0 p1 = 1 := t70; unfold tw_ia; (repeat' split) <;> first | rfl | (exfalso; omega))⟩, he3, hz3⟩
    · exact absurd c71 (by omega)
  · obtain ⟨rfl, qy66, t72⟩ := h69
    subst qy66
    refine q_ifne (tgt := 16) cx ⟨by decide, by decide⟩ dX1_ticksIfSent_5 (by decide) (fun c73 => ?_) (fun c73 => ?_)
    · exact absurd c73 (by omega)
    · refine q_ald_n cx dX1_ticksIfSent_8 rfl (lv_at hl 1 rfl) ?_
      refine q_ild_n cx dX1_ticksIfSent_9 rfl (lv_at hl 3 rfl) ?_
      refine q_cVi (As := [.int (q_i p2)]) (rest := []) cx hB (fun _ h => h) hN hv0 kv0 (by decide) rfl (f_isOut0 l g hN hB.2.1 d0 s0 v0 hv0 kv0 p2 (by omega) (by omega) n0 hn0 kn0 l0 hl0 kl0 m0 hm0 km0 hr4 hr5 hr6 hw0) q_cX1_26 q_dX10_isOut (by decide) rfl rfl hl.1 rfl (Nat.le_of_ble_eq_true rfl) dX1_ticksIfSent_10 (fun y75 H locs f74 ry75 h76 hF hB => ?_)
      rcases h76 with h77 | h78
      · obtain ⟨rfl, qy75, t79⟩ := h77
        subst qy75
        refine q_ifeq (tgt := 18) cx ⟨by decide, by decide⟩ dX1_ticksIfSent_13 (by decide) (fun c80 => ?_) (fun c80 => ?_)
        · exact absurd c80 (by omega)
        · refine q_iconst cx dX1_ticksIfSent_16 ?_
          refine q_iret cx hr hlk hB dX1_ticksIfSent_17 ⟨by decide, by decide⟩ ?_
          exact ⟨(by decide), (by decide), ⟨s3, (by have u0_ : tw_ou s0 p1 = 0 := t72; have u1_ : tw_ou s0 p2 = 1 := t79; unfold tw_ia; (repeat' split) <;> first | rfl | (exfalso; omega))⟩, he3, hz3⟩
      · obtain ⟨rfl, qy75, t81⟩ := h78
        subst qy75
        refine q_ifeq (tgt := 18) cx ⟨by decide, by decide⟩ dX1_ticksIfSent_13 (by decide) (fun c82 => ?_) (fun c82 => ?_)
        · refine q_ald_n cx dX1_ticksIfSent_18 rfl (lv_at hl 0 rfl) ?_
          refine q_ald_n cx dX1_ticksIfSent_19 rfl (lv_at hl 0 rfl) ?_
          refine q_ald_n cx dX1_ticksIfSent_20 rfl (lv_at hl 1 rfl) ?_
          refine q_ild_n cx dX1_ticksIfSent_21 rfl (lv_at hl 2 rfl) ?_
          refine q_ild_n cx dX1_ticksIfSent_22 rfl (lv_at hl 3 rfl) ?_
          refine lv_iload cx.1 cx.2.1 dX1_ticksIfSent_23 (lv_at hl 4 rfl) ?_
          refine q_cVi (As := [.ref v0, .int (q_i p1), .int (q_i p2), .int (q_i p3)]) (rest := [.ref fc]) cx hB (fun _ h => h) hN hfc kfc (by decide) rfl (f_sendInThought l g hN hB.2.1 d0 s0 d3 s3 fc hfc kfc v0 hv0 kv0 p1 (by omega) (by omega) p2 (by omega) (by omega) p3 (by omega) (by omega) v3 hv3 kv3 n3 hn3 kn3 l3 hl3 kl3 m3 hm3 km3 n0 hn0 kn0 l0 hl0 kl0 m0 hm0 km0 tm (by omega) (by omega) nn (by omega) (by omega) ln (by omega) (by omega) mn (by omega) (by omega) hf0 hf1 hf2 hf3 hr0 hr1 hr2 hr3 hr4 hr5 hr6 hw0 hz0 hw3 hz3) q_cX1_30 q_dX1_sendInThought (by decide) rfl rfl hl.1 rfl (Nat.le_of_ble_eq_true rfl) dX1_ticksIfSent_25 (fun y84 H locs f83 ry84 h85 hF hB => ?_)
          obtain ⟨ly84, uy84, z86, z87, z88, z89, t90, g91, g92⟩ := h85
          have z93 : q_is (q_z f83 v0 11) tm := Eq.trans (hF.z hv0 (by rw [kv0]; rfl)) hf0
          have z94 : q_is (q_z f83 v0 3) nn := Eq.trans (hF.z hv0 (by rw [kv0]; rfl)) hf1
          have z95 : q_is (q_z f83 v0 4) ln := Eq.trans (hF.z hv0 (by rw [kv0]; rfl)) hf2
          have z96 : q_is (q_z f83 v0 5) mn := Eq.trans (hF.z hv0 (by rw [kv0]; rfl)) hf3
          have z97 : q_ir (q_r f83 fc 0) v3 := Eq.trans (hF.r hfc (by rw [kfc]; rfl)) hr0
          have z98 : q_ir (q_r f83 v3 0) n3 := Eq.trans (hF.r hv3 (by rw [kv3]; rfl)) hr1
          have z99 : q_ir (q_r f83 v3 1) l3 := Eq.trans (hF.r hv3 (by rw [kv3]; rfl)) hr2
          have z100 : q_ir (q_r f83 v3 2) m3 := Eq.trans (hF.r hv3 (by rw [kv3]; rfl)) hr3
          have z101 : q_ir (q_r f83 v0 0) n0 := Eq.trans (hF.r hv0 (by rw [kv0]; rfl)) hr4
          have z102 : q_ir (q_r f83 v0 1) l0 := Eq.trans (hF.r hv0 (by rw [kv0]; rfl)) hr5
          have z103 : q_ir (q_r f83 v0 2) m0 := Eq.trans (hF.r hv0 (by rw [kv0]; rfl)) hr6
          have g104 : tw_vw K L 10 5 3 4 f83 v0 n0 l0 m0 d0 s0 := tw_vw_tr hw0 (fun a9 h9 k9 c9 => hF.z h9 (by rw [k9]; rfl)) (fun a9 h9 k9 c9 => hF.z h9 (by rw [k9]; rfl)) (fun a9 h9 k9 c9 => hF.z h9 (by rw [k9]; rfl)) (fun a9 h9 k9 c9 => hF.z h9 (by rw [k9]; rfl)) (fun i9 => hF.r hn0 (by rw [kn0]; rfl)) (fun i9 => hF.r hl0 (by rw [kl0]; rfl)) (fun i9 => hF.r hm0 (by rw [km0]; rfl))
          have g105 : tw_nw K L 5 f83 := tw_nw_tr hz0 (fun a9 h9 k9 => hF.j h9 (by rw [k9]; rfl))
          refine q_sipush cx dX1_ticksIfSent_28 rfl ?_
          refine q_cVi (As := [.int (q_i y84), .int (q_i 200)]) (rest := []) cx hB (fun _ h => h) hN hfc kfc (by decide) rfl (f_trialArrival l g hN hB.2.1 d3 (tw_am (tw_cp s3 s0) p1 p2 1 p3) fc hfc kfc y84 (by omega) (by omega) 200 (by decide) (by decide) v3 hv3 kv3 n3 hn3 kn3 l3 hl3 kl3 m3 hm3 km3 tm (by omega) (by omega) nn (by omega) (by omega) ln (by omega) (by omega) (mn + 1) (by omega) (by omega) z89 z86 z87 z88 z97 z98 z99 z100 g91 g92) q_cX1_22 q_dX1_trialArrival (by decide) rfl rfl hl.1 rfl (Nat.le_of_ble_eq_true rfl) dX1_ticksIfSent_31 (fun y107 H locs f106 ry107 h108 hF hB => ?_)
          obtain ⟨ly107, uy107, t109, g110, g111⟩ := h108
          have z112 : q_is (q_z f106 v0 11) tm := Eq.trans (hF.z hv0 (by rw [kv0]; rfl)) z93
          have z113 : q_is (q_z f106 v0 3) nn := Eq.trans (hF.z hv0 (by rw [kv0]; rfl)) z94
          have z114 : q_is (q_z f106 v0 4) ln := Eq.trans (hF.z hv0 (by rw [kv0]; rfl)) z95
          have z115 : q_is (q_z f106 v0 5) mn := Eq.trans (hF.z hv0 (by rw [kv0]; rfl)) z96
          have z116 : q_is (q_z f106 v3 3) nn := Eq.trans (hF.z hv3 (by rw [kv3]; rfl)) z86
          have z117 : q_is (q_z f106 v3 4) ln := Eq.trans (hF.z hv3 (by rw [kv3]; rfl)) z87
          have z118 : q_is (q_z f106 v3 5) (mn + 1) := Eq.trans (hF.z hv3 (by rw [kv3]; rfl)) z88
          have z119 : q_ir (q_r f106 fc 0) v3 := Eq.trans (hF.r hfc (by rw [kfc]; rfl)) z97
          have z120 : q_ir (q_r f106 v3 0) n3 := Eq.trans (hF.r hv3 (by rw [kv3]; rfl)) z98
          have z121 : q_ir (q_r f106 v3 1) l3 := Eq.trans (hF.r hv3 (by rw [kv3]; rfl)) z99
          have z122 : q_ir (q_r f106 v3 2) m3 := Eq.trans (hF.r hv3 (by rw [kv3]; rfl)) z100
          have z123 : q_ir (q_r f106 v0 0) n0 := Eq.trans (hF.r hv0 (by rw [kv0]; rfl)) z101
          have z124 : q_ir (q_r f106 v0 1) l0 := Eq.trans (hF.r hv0 (by rw [kv0]; rfl)) z102
          have z125 : q_ir (q_r f106 v0 2) m0 := Eq.trans (hF.r hv0 (by rw [kv0]; rfl)) z103
          have g126 : tw_vw K L 10 5 3 4 f106 v0 n0 l0 m0 d0 s0 := tw_vw_tr g104 (fun a9 h9 k9 c9 => hF.z h9 (by rw [k9]; rfl)) (fun a9 h9 k9 c9 => hF.z h9 (by rw [k9]; rfl)) (fun a9 h9 k9 c9 => hF.z h9 (by rw [k9]; rfl)) (fun a9 h9 k9 c9 => hF.z h9 (by rw [k9]; rfl)) (fun i9 => hF.r hn0 (by rw [kn0]; rfl)) (fun i9 => hF.r hl0 (by rw [kl0]; rfl)) (fun i9 => hF.r hm0 (by rw [km0]; rfl))
          have g127 : tw_nw K L 5 f106 := tw_nw_tr g105 (fun a9 h9 k9 => hF.j h9 (by rw [k9]; rfl))
          have g128 : tw_nw K L 19 f106 := tw_nw_tr g92 (fun a9 h9 k9 => hF.j h9 (by rw [k9]; rfl))
          refine q_iret cx hr hlk hB dX1_ticksIfSent_34 ⟨by omega, by omega⟩ ?_
          exact ⟨(by omega), (by omega), ⟨s3, (by have t0_ : y84 = (tw_cp s3 s0) 0 5 := t90; have t1_ : y107 = tw_ar (tw_am (tw_cp s3 s0) p1 p2 1 p3) ((tw_cp s3 s0) 0 5) 200 := Eq.trans t109 (by simp only [t0_]); have u0_ : tw_ou s0 p1 = 0 := t72; have u1_ : tw_ou s0 p2 = 0 := t81; (try simp only [t0_, t1_]); unfold tw_ia; (repeat' split) <;> first | rfl | (exfalso; omega))⟩, g110, g111⟩
        · exact absurd c82 (by omega)
set_option maxHeartbeats 4000000 in
set_option maxRecDepth 100000 in
theorem f_energyAfter (l : Launch) (g : q_G) {K : Nat → Nat} {L : List Nat} (hN : L.Nodup) {f : Nat → va_E} (hT : q_Ty g K L f) (d0 : Nat → Nat) (s0 : tw_S) (d3 : Nat → Nat) (fc : Nat) (hfc : fc ∈ L) (kfc : K fc = 1) (v0 : Nat) (hv0 : v0 ∈ L) (kv0 : K v0 = 10) (p1 : Int) (lp1 : 0 ≤ p1) (up1 : p1 ≤ 9) (p2 : Int) (lp2 : 0 ≤ p2) (up2 : p2 ≤ 200) (v3 : Nat) (hv3 : v3 ∈ L) (kv3 : K v3 = 15) (n3 : Nat) (hn3 : n3 ∈ L) (kn3 : K n3 = 113) (l3 : Nat) (hl3 : l3 ∈ L) (kl3 : K l3 = 123) (m3 : Nat) (hm3 : m3 ∈ L) (km3 : K m3 = 133) (n0 : Nat) (hn0 : n0 ∈ L) (kn0 : K n0 = 110) (l0 : Nat) (hl0 : l0 ∈ L) (kl0 : K l0 = 120) (m0 : Nat) (hm0 : m0 ∈ L) (km0 : K m0 = 130) (tm : Int) (ltm : 0 ≤ tm) (utm : tm ≤ 9000) (nn : Int) (lnn : 0 ≤ nn) (unn : nn ≤ 10) (ln : Int) (lln : 0 ≤ ln) (uln : ln ≤ 16) (mn : Int) (lmn : 0 ≤ mn) (umn : mn ≤ 61) (hf0 : q_is (q_z f v0 11) tm) (hf1 : q_is (q_z f v0 3) nn) (hf2 : q_is (q_z f v0 4) ln) (hf3 : q_is (q_z f v0 5) mn) (hr0 : q_ir (q_r f fc 0) v3) (hr1 : q_ir (q_r f v3 0) n3) (hr2 : q_ir (q_r f v3 1) l3) (hr3 : q_ir (q_r f v3 2) m3) (hr4 : q_ir (q_r f v0 0) n0) (hr5 : q_ir (q_r f v0 1) l0) (hr6 : q_ir (q_r f v0 2) m0) (hw0 : tw_vw K L 10 5 3 4 f v0 n0 l0 m0 d0 s0) (hz0 : tw_nw K L 5 f) (he3 : ∃ s9 : tw_S, tw_vw K L 15 19 23 27 f v3 n3 l3 m3 d3 s9) (hz3 : tw_nw K L 19 f) : q_Ct l g K L yX1_energyAfter cX1_energyAfter 4 (some .int) 5 125 [.ref fc, .ref v0, .int (q_i p1), .int (q_i p2)] f [(15, 3, 15), (19, 0, 9), (23, 0, 4), (27, 0, 7)] (q_Pi (fun (z : Int) (f1 : Nat → va_E) => (∃ τ9 : tw_S, z = (tw_tsl (tw_cp τ9 s0) (Int.toNat p2)) (1 + Int.toNat p1) 4) ∧ (∃ s9 : tw_S, tw_vw K L 15 19 23 27 f1 v3 n3 l3 m3 d3 s9) ∧ (tw_nw K L 19 f1))) := by
  refine q_ofb (by decide +kernel) hN hT (Nat.le_of_ble_eq_true rfl) ?_
  intro p e s m below meth c ls cx hr hlk hB hl
  have hl : lv_has ls 4 [(0, .ref fc), (1, .ref v0), (2, .int (q_i p1)), (3, .int (q_i p2))] := hl
  obtain ⟨H, hH⟩ : ∃ H : Heap, H = s.heap := ⟨_, rfl⟩
  obtain ⟨locs, hlocs⟩ : ∃ z : List Loc, z = [] := ⟨_, rfl⟩
  rw [← hH, ← hlocs] at hB
  rw [← hH, ← hlocs]
  obtain ⟨s3, hw3⟩ := he3
  refine q_ald_n cx dX1_energyAfter_0 rfl (lv_at hl 0 rfl) ?_
  refine q_gX1_12 cx hB hfc kfc hr0 dX1_energyAfter_1 (fun hb57 kb57 => ?_)
  refine q_ald_n cx dX1_energyAfter_4 rfl (lv_at hl 1 rfl) ?_
  refine q_cVv (As := [.ref v0]) (rest := []) cx hB (fun _ h => h) hN hv3 kv3 (by decide) rfl (f_vcopy30 l g hN hB.2.1 d3 s3 d0 s0 v3 hv3 kv3 v0 hv0 kv0 n3 hn3 kn3 l3 hl3 kl3 m3 hm3 km3 n0 hn0 kn0 l0 hl0 kl0 m0 hm0 km0 nn (by omega) (by omega) ln (by omega) (by omega) mn (by omega) (by omega) tm (by omega) (by omega) hf1 hf2 hf3 hf0 hr1 hr2 hr3 hr4 hr5 hr6 hw3 hw0 hz3 hz0) q_cX1_18 q_dX10_copyFrom (by decide) rfl rfl hl.1 rfl (Nat.le_of_ble_eq_true rfl) dX1_energyAfter_5 (fun H locs f58 h60 hF hB => ?_)
  obtain ⟨z61, z62, z63, z64, g65, g66⟩ := h60
  have z67 : q_is (q_z f58 v0 11) tm := Eq.trans (hF.z hv0 (by rw [kv0]; rfl)) hf0
  have z68 : q_is (q_z f58 v0 3) nn := Eq.trans (hF.z hv0 (by rw [kv0]; rfl)) hf1
  have z69 : q_is (q_z f58 v0 4) ln := Eq.trans (hF.z hv0 (by rw [kv0]; rfl)) hf2
  have z70 : q_is (q_z f58 v0 5) mn := Eq.trans (hF.z hv0 (by rw [kv0]; rfl)) hf3
  have z71 : q_ir (q_r f58 fc 0) v3 := Eq.trans (hF.r hfc (by rw [kfc]; rfl)) hr0
  have z72 : q_ir (q_r f58 v3 0) n3 := Eq.trans (hF.r hv3 (by rw [kv3]; rfl)) hr1
  have z73 : q_ir (q_r f58 v3 1) l3 := Eq.trans (hF.r hv3 (by rw [kv3]; rfl)) hr2
  have z74 : q_ir (q_r f58 v3 2) m3 := Eq.trans (hF.r hv3 (by rw [kv3]; rfl)) hr3
  have z75 : q_ir (q_r f58 v0 0) n0 := Eq.trans (hF.r hv0 (by rw [kv0]; rfl)) hr4
  have z76 : q_ir (q_r f58 v0 1) l0 := Eq.trans (hF.r hv0 (by rw [kv0]; rfl)) hr5
  have z77 : q_ir (q_r f58 v0 2) m0 := Eq.trans (hF.r hv0 (by rw [kv0]; rfl)) hr6
  have g78 : tw_vw K L 10 5 3 4 f58 v0 n0 l0 m0 d0 s0 := tw_vw_tr hw0 (fun a9 h9 k9 c9 => hF.z h9 (by rw [k9]; rfl)) (fun a9 h9 k9 c9 => hF.z h9 (by rw [k9]; rfl)) (fun a9 h9 k9 c9 => hF.z h9 (by rw [k9]; rfl)) (fun a9 h9 k9 c9 => hF.z h9 (by rw [k9]; rfl)) (fun i9 => hF.r hn0 (by rw [kn0]; rfl)) (fun i9 => hF.r hl0 (by rw [kl0]; rfl)) (fun i9 => hF.r hm0 (by rw [km0]; rfl))
  have g79 : tw_nw K L 5 f58 := tw_nw_tr hz0 (fun a9 h9 k9 => hF.j h9 (by rw [k9]; rfl))
  refine q_ald_n cx dX1_energyAfter_8 rfl (lv_at hl 0 rfl) ?_
  refine q_gX1_12 cx hB hfc kfc z71 dX1_energyAfter_9 (fun hb80 kb80 => ?_)
  refine q_ild_n cx dX1_energyAfter_12 rfl (lv_at hl 3 rfl) ?_
  refine q_cVi (As := [.int (q_i p2)]) (rest := []) cx hB (fun _ h => h) hN hv3 kv3 (by decide) rfl (f_passTicks3 l g hN hB.2.1 d3 (tw_cp s3 s0) v3 hv3 kv3 p2 (by omega) (by omega) n3 hn3 kn3 l3 hl3 kl3 m3 hm3 km3 tm (by omega) (by omega) nn (by omega) (by omega) ln (by omega) (by omega) mn (by omega) (by omega) z64 z61 z62 z63 z72 z73 z74 g65 g66) q_cX1_48 q_dX10_passTicks (by decide) rfl rfl hl.1 rfl (Nat.le_of_ble_eq_true rfl) dX1_energyAfter_13 (fun y82 H locs f81 ry82 h83 hF hB => ?_)
  obtain ⟨ly82, uy82, z84, t85, g86, g87⟩ := h83
  have z88 : q_is (q_z f81 v0 11) tm := Eq.trans (hF.z hv0 (by rw [kv0]; rfl)) z67
  have z89 : q_is (q_z f81 v0 3) nn := Eq.trans (hF.z hv0 (by rw [kv0]; rfl)) z68
  have z90 : q_is (q_z f81 v0 4) ln := Eq.trans (hF.z hv0 (by rw [kv0]; rfl)) z69
  have z91 : q_is (q_z f81 v0 5) mn := Eq.trans (hF.z hv0 (by rw [kv0]; rfl)) z70
  have z92 : q_is (q_z f81 v3 3) nn := Eq.trans (hF.z hv3 (by rw [kv3]; rfl)) z61
  have z93 : q_is (q_z f81 v3 4) ln := Eq.trans (hF.z hv3 (by rw [kv3]; rfl)) z62
  have z94 : q_is (q_z f81 v3 5) mn := Eq.trans (hF.z hv3 (by rw [kv3]; rfl)) z63
  have z95 : q_ir (q_r f81 fc 0) v3 := Eq.trans (hF.r hfc (by rw [kfc]; rfl)) z71
  have z96 : q_ir (q_r f81 v3 0) n3 := Eq.trans (hF.r hv3 (by rw [kv3]; rfl)) z72
  have z97 : q_ir (q_r f81 v3 1) l3 := Eq.trans (hF.r hv3 (by rw [kv3]; rfl)) z73
  have z98 : q_ir (q_r f81 v3 2) m3 := Eq.trans (hF.r hv3 (by rw [kv3]; rfl)) z74
  have z99 : q_ir (q_r f81 v0 0) n0 := Eq.trans (hF.r hv0 (by rw [kv0]; rfl)) z75
  have z100 : q_ir (q_r f81 v0 1) l0 := Eq.trans (hF.r hv0 (by rw [kv0]; rfl)) z76
  have z101 : q_ir (q_r f81 v0 2) m0 := Eq.trans (hF.r hv0 (by rw [kv0]; rfl)) z77
  have g102 : tw_vw K L 10 5 3 4 f81 v0 n0 l0 m0 d0 s0 := tw_vw_tr g78 (fun a9 h9 k9 c9 => hF.z h9 (by rw [k9]; rfl)) (fun a9 h9 k9 c9 => hF.z h9 (by rw [k9]; rfl)) (fun a9 h9 k9 c9 => hF.z h9 (by rw [k9]; rfl)) (fun a9 h9 k9 c9 => hF.z h9 (by rw [k9]; rfl)) (fun i9 => hF.r hn0 (by rw [kn0]; rfl)) (fun i9 => hF.r hl0 (by rw [kl0]; rfl)) (fun i9 => hF.r hm0 (by rw [km0]; rfl))
  have g103 : tw_nw K L 5 f81 := tw_nw_tr g79 (fun a9 h9 k9 => hF.j h9 (by rw [k9]; rfl))
  have g104 : tw_nw K L 19 f81 := tw_nw_tr g66 (fun a9 h9 k9 => hF.j h9 (by rw [k9]; rfl))
  refine lv_pop cx.1 cx.2.1 dX1_energyAfter_16 rfl ?_
  refine q_ald_n cx dX1_energyAfter_17 rfl (lv_at hl 0 rfl) ?_
  refine q_gX1_12 cx hB hfc kfc z95 dX1_energyAfter_18 (fun hb105 kb105 => ?_)
  refine q_ild_n cx dX1_energyAfter_21 rfl (lv_at hl 2 rfl) ?_
  refine q_cVr (As := [.int (q_i p1)]) (rest := []) cx hB (fun _ h => h) hN hv3 kv3 (by decide) rfl (f_nodeAt3 l g hN hB.2.1 d3 (tw_tsl (tw_cp s3 s0) (Int.toNat p2)) v3 hv3 kv3 p1 (by omega) (by omega) n3 hn3 kn3 l3 hl3 kl3 m3 hm3 km3 z96 z97 z98 g86) q_cX1_52 q_dX10_nodeAt (by decide) rfl rfl hl.1 rfl (Nat.le_of_ble_eq_true rfl) dX1_energyAfter_22 (fun y107 H locs f106 h108 hF hB => ?_)
  obtain ⟨rfl, hy107, ky107, t109⟩ := h108
  obtain ⟨x110, ex110⟩ : ∃ zz, q_is (q_z f81 y107 4) zz := ⟨_, q_isr _⟩
  obtain ⟨lx110, ux110⟩ := q_isb ex110 (q_fib hB.2.1 hy107 ky107 (by decide) rfl)
  obtain ⟨x111, ex111, nx111⟩ : ∃ zz, q_is (q_z f81 y107 4) zz ∧ zz = x110 := ⟨_, ex110, rfl⟩
  have sx111 : q_is x111 ((tw_tsl (tw_cp s3 s0) (Int.toNat p2)) (1 + Int.toNat p1) 4) := tw_g g86 t109 (by omega) (by omega) ex111
  refine q_gX1_56_19 cx hB hy107 ky107 ex111 dX1_energyAfter_25 (fun lb112 ub112 => ?_)
  refine q_iret cx hr hlk hB dX1_energyAfter_28 ⟨by omega, by omega⟩ ?_
  exact ⟨⟨s3, (by have t0_ : y82 = tw_tcl (tw_cp s3 s0) (Int.toNat p2) := t85; have t1_ : x111 = (tw_tsl (tw_cp s3 s0) (Int.toNat p2)) (1 + Int.toNat p1) 4 := sx111; (try simp only [t0_, t1_]); (repeat' split) <;> first | rfl | (exfalso; omega))⟩, ⟨_, g86⟩, g87⟩
set_option maxHeartbeats 4000000 in
set_option maxRecDepth 100000 in
theorem f_ticksToOut (l : Launch) (g : q_G) {K : Nat → Nat} {L : List Nat} (hN : L.Nodup) {f : Nat → va_E} (hT : q_Ty g K L f) (d0 : Nat → Nat) (s0 : tw_S) (d3 : Nat → Nat) (s3 : tw_S) (fc : Nat) (hfc : fc ∈ L) (kfc : K fc = 1) (v0 : Nat) (hv0 : v0 ∈ L) (kv0 : K v0 = 10) (p1 : Int) (lp1 : 0 ≤ p1) (up1 : p1 ≤ 9) (v3 : Nat) (hv3 : v3 ∈ L) (kv3 : K v3 = 15) (n3 : Nat) (hn3 : n3 ∈ L) (kn3 : K n3 = 113) (l3 : Nat) (hl3 : l3 ∈ L) (kl3 : K l3 = 123) (m3 : Nat) (hm3 : m3 ∈ L) (km3 : K m3 = 133) (n0 : Nat) (hn0 : n0 ∈ L) (kn0 : K n0 = 110) (l0 : Nat) (hl0 : l0 ∈ L) (kl0 : K l0 = 120) (m0 : Nat) (hm0 : m0 ∈ L) (km0 : K m0 = 130) (tm : Int) (ltm : 0 ≤ tm) (utm : tm ≤ 9000) (nn : Int) (lnn : 0 ≤ nn) (unn : nn ≤ 10) (ln : Int) (lln : 0 ≤ ln) (uln : ln ≤ 16) (mn : Int) (lmn : 0 ≤ mn) (umn : mn ≤ 61) (hf0 : q_is (q_z f v0 11) tm) (hf1 : q_is (q_z f v0 3) nn) (hf2 : q_is (q_z f v0 4) ln) (hf3 : q_is (q_z f v0 5) mn) (hr0 : q_ir (q_r f fc 0) v3) (hr1 : q_ir (q_r f v3 0) n3) (hr2 : q_ir (q_r f v3 1) l3) (hr3 : q_ir (q_r f v3 2) m3) (hr4 : q_ir (q_r f v0 0) n0) (hr5 : q_ir (q_r f v0 1) l0) (hr6 : q_ir (q_r f v0 2) m0) (hw0 : tw_vw K L 10 5 3 4 f v0 n0 l0 m0 d0 s0) (hz0 : tw_nw K L 5 f) (hw3 : tw_vw K L 15 19 23 27 f v3 n3 l3 m3 d3 s3) (hz3 : tw_nw K L 19 f) : q_Ct l g K L yX1_ticksToOut cX1_ticksToOut 4 (some .int) 5 125 [.ref fc, .ref v0, .int (q_i p1)] f [(15, 3, 15), (19, 0, 9), (23, 0, 4), (27, 0, 7)] (q_Pi (fun (z : Int) (f1 : Nat → va_E) => (-1) ≤ z ∧ z ≤ 200 ∧ (z = tw_to (tw_cp s3 s0) p1) ∧ (∃ s9 : tw_S, tw_vw K L 15 19 23 27 f1 v3 n3 l3 m3 d3 s9) ∧ (tw_nw K L 19 f1))) := by
  refine q_ofb (by decide +kernel) hN hT (Nat.le_of_ble_eq_true rfl) ?_
  intro p e s m below meth c ls cx hr hlk hB hl
  have hl : lv_has ls 4 [(0, .ref fc), (1, .ref v0), (2, .int (q_i p1))] := hl
  have J10 : ∀ (n : Nat) (f10 : Nat → va_E) (v10_2 : Int) (lv10_2 : 0 ≤ v10_2) (uv10_2 : v10_2 ≤ 9) (v10_3 : Int) (lv10_3 : 0 ≤ v10_3) (uv10_3 : v10_3 ≤ 201) (w10_v3_11 : Int) (lw10_v3_11 : 0 ≤ w10_v3_11) (uw10_v3_11 : w10_v3_11 ≤ 9201) (hj_v3_3 : q_is (q_z f10 v3 3) nn) (hj_v3_4 : q_is (q_z f10 v3 4) ln) (hj_v3_5 : q_is (q_z f10 v3 5) mn) (hj_v3_11 : q_is (q_z f10 v3 11) w10_v3_11) (hq_fc_0 : q_ir (q_r f10 fc 0) v3) (hq_v3_0 : q_ir (q_r f10 v3 0) n3) (hq_v3_1 : q_ir (q_r f10 v3 1) l3) (hq_v3_2 : q_ir (q_r f10 v3 2) m3) (hq_v0_0 : q_ir (q_r f10 v0 0) n0) (hq_v0_1 : q_ir (q_r f10 v0 1) l0) (hq_v0_2 : q_ir (q_r f10 v0 2) m0) (hw010 : tw_vw K L 10 5 3 4 f10 v0 n0 l0 m0 d0 s0) (hz010 : tw_nw K L 5 f10) (hz310 : tw_nw K L 19 f10) (hrl10_0 : 0 ≤ 1 * tm + 1 * v10_3 + -1 * w10_v3_11 + 0 ∧ 1 * tm + 1 * v10_3 + -1 * w10_v3_11 + 0 ≤ 0) (hvw : tw_vw K L 15 19 23 27 f10 v3 n3 l3 m3 d3 (tw_tsl (tw_cp s3 s0) (Int.toNat v10_3))) (hto : tw_to (tw_cp s3 s0) p1 = tw_tol p1 (Int.toNat (201 - v10_3)) v10_3 (tw_tsl (tw_cp s3 s0) (Int.toNat v10_3))) (hmu : (Int.toNat (2147483647 - v10_3)) < n) (H : Heap) (locs : List Loc) (hB : q_B g K L (fun q => q ∈ L) [(15, 3, 15), (19, 0, 9), (23, 0, 4), (27, 0, 7)] f f10 s H locs) (ls : Array Slot) (hl : lv_has ls 4 [(0, .ref fc), (2, .int (q_i v10_2)), (3, .int (q_i v10_3))]), W p l e { frames := 5, cells := 0, slots := 0, locals := 125 } s m ([.ref fc, .ref v0, .int (q_i p1)] : List Value).toArray below meth c H locs 0 0 (MQ below (q_Q g K L [(15, 3, 15), (19, 0, 9), (23, 0, 4), (27, 0, 7)] f (q_Pi (fun (z : Int) (f1 : Nat → va_E) => (-1) ≤ z ∧ z ≤ 200 ∧ (z = tw_to (tw_cp s3 s0) p1) ∧ (∃ s9 : tw_S, tw_vw K L 15 19 23 27 f1 v3 n3 l3 m3 d3 s9) ∧ (tw_nw K L 19 f1)))) ([.ref fc, .ref v0, .int (q_i p1)] : List Value).toArray s 0 0 (fun q => q ∈ L)) (F0 m 10 ls []) := by
    intro n
    induction n with
    | zero =>
      intro f10 v10_2 lv10_2 uv10_2 v10_3 lv10_3 uv10_3 w10_v3_11 lw10_v3_11 uw10_v3_11 hj_v3_3 hj_v3_4 hj_v3_5 hj_v3_11 hq_fc_0 hq_v3_0 hq_v3_1 hq_v3_2 hq_v0_0 hq_v0_1 hq_v0_2 hw010 hz010 hz310 hrl10_0 hvw hto hmu
      exact absurd hmu (Nat.not_lt_zero _)
    | succ n ih10 =>
      intro f10 v10_2 lv10_2 uv10_2 v10_3 lv10_3 uv10_3 w10_v3_11 lw10_v3_11 uw10_v3_11 hj_v3_3 hj_v3_4 hj_v3_5 hj_v3_11 hq_fc_0 hq_v3_0 hq_v3_1 hq_v3_2 hq_v0_0 hq_v0_1 hq_v0_2 hw010 hz010 hz310 hrl10_0 hvw hto hmu H locs hB ls hl
      refine q_ild_n cx dX1_ticksToOut_10 rfl (lv_at hl 2 rfl) ?_
      refine q_sipush cx dX1_ticksToOut_11 rfl ?_
      refine q_icgt (tgt := 45) cx ⟨by omega, by omega⟩ ⟨by decide, by decide⟩ dX1_ticksToOut_14 (by decide) (fun c56 => ?_) (fun c56 => ?_)
      · refine q_iconst cx dX1_ticksToOut_45 ?_
        refine q_iret cx hr hlk hB dX1_ticksToOut_46 ⟨by decide, by decide⟩ ?_
        exact ⟨(by decide), (by decide), (by skip; exact (hto.trans (tw_tol_e (by omega))).symm), ⟨_, hvw⟩, hz310⟩
      · refine q_ald_n cx dX1_ticksToOut_17 rfl (lv_at hl 0 rfl) ?_
        refine q_gX1_12 cx hB hfc kfc hq_fc_0 dX1_ticksToOut_18 (fun hb57 kb57 => ?_)
        refine q_ild_n cx dX1_ticksToOut_21 rfl (lv_at hl 1 rfl) ?_
        refine q_cVi (As := [.int (q_i v10_2)]) (rest := []) cx hB (fun _ h => h) hN hv3 kv3 (by decide) rfl (f_isOut3 l g hN hB.2.1 d3 (tw_tsl (tw_cp s3 s0) (Int.toNat v10_3)) v3 hv3 kv3 v10_2 (by omega) (by omega) n3 hn3 kn3 l3 hl3 kl3 m3 hm3 km3 hq_v3_0 hq_v3_1 hq_v3_2 hvw) q_cX1_26 q_dX10_isOut (by decide) rfl rfl hl.1 rfl (Nat.le_of_ble_eq_true rfl) dX1_ticksToOut_22 (fun y59 H locs f58 ry59 h60 hF hB => ?_)
        rcases h60 with h61 | h62
        · obtain ⟨rfl, qy59, t63⟩ := h61
          subst qy59
          refine q_ifeq (tgt := 30) cx ⟨by decide, by decide⟩ dX1_ticksToOut_25 (by decide) (fun c64 => ?_) (fun c64 => ?_)
          · exact absurd c64 (by omega)
          · refine q_ild_n cx dX1_ticksToOut_28 rfl (lv_at hl 2 rfl) ?_
            refine q_iret cx hr hlk hB dX1_ticksToOut_29 ⟨by omega, by omega⟩ ?_
            exact ⟨(by omega), (by omega), (by have u0_ : tw_ou (tw_tsl (tw_cp s3 s0) (Int.toNat v10_3)) v10_2 = 1 := t63; refine (hto.trans ?_).symm; rw [tw_tol_s (by omega)]; (repeat' split) <;> first | rfl | (exfalso; omega)), ⟨_, hvw⟩, hz310⟩
        · obtain ⟨rfl, qy59, t65⟩ := h62
          subst qy59
          refine q_ifeq (tgt := 30) cx ⟨by decide, by decide⟩ dX1_ticksToOut_25 (by decide) (fun c66 => ?_) (fun c66 => ?_)
          · refine q_ald_n cx dX1_ticksToOut_30 rfl (lv_at hl 0 rfl) ?_
            refine q_gX1_12 cx hB hfc kfc hq_fc_0 dX1_ticksToOut_31 (fun hb67 kb67 => ?_)
            refine q_iconst cx dX1_ticksToOut_34 ?_
            refine q_cVi (As := [.int (q_i 1)]) (rest := []) cx hB (fun _ h => h) hN hv3 kv3 (by decide) rfl (f_passTicks3 l g hN hB.2.1 d3 (tw_tsl (tw_cp s3 s0) (Int.toNat v10_3)) v3 hv3 kv3 1 (by decide) (by decide) n3 hn3 kn3 l3 hl3 kl3 m3 hm3 km3 w10_v3_11 (by omega) (by omega) nn (by omega) (by omega) ln (by omega) (by omega) mn (by omega) (by omega) hj_v3_11 hj_v3_3 hj_v3_4 hj_v3_5 hq_v3_0 hq_v3_1 hq_v3_2 hvw hz310) q_cX1_48 q_dX10_passTicks (by decide) rfl rfl hl.1 rfl (Nat.le_of_ble_eq_true rfl) dX1_ticksToOut_35 (fun y69 H locs f68 ry69 h70 hF hB => ?_)
            obtain ⟨ly69, uy69, z71, t72, g73, g74⟩ := h70
            have z75 : q_is (q_z f68 v3 3) nn := Eq.trans (hF.z hv3 (by rw [kv3]; rfl)) hj_v3_3
            have z76 : q_is (q_z f68 v3 4) ln := Eq.trans (hF.z hv3 (by rw [kv3]; rfl)) hj_v3_4
            have z77 : q_is (q_z f68 v3 5) mn := Eq.trans (hF.z hv3 (by rw [kv3]; rfl)) hj_v3_5
            have z78 : q_ir (q_r f68 fc 0) v3 := Eq.trans (hF.r hfc (by rw [kfc]; rfl)) hq_fc_0
            have z79 : q_ir (q_r f68 v3 0) n3 := Eq.trans (hF.r hv3 (by rw [kv3]; rfl)) hq_v3_0
            have z80 : q_ir (q_r f68 v3 1) l3 := Eq.trans (hF.r hv3 (by rw [kv3]; rfl)) hq_v3_1
            have z81 : q_ir (q_r f68 v3 2) m3 := Eq.trans (hF.r hv3 (by rw [kv3]; rfl)) hq_v3_2
            have z82 : q_ir (q_r f68 v0 0) n0 := Eq.trans (hF.r hv0 (by rw [kv0]; rfl)) hq_v0_0
            have z83 : q_ir (q_r f68 v0 1) l0 := Eq.trans (hF.r hv0 (by rw [kv0]; rfl)) hq_v0_1
            have z84 : q_ir (q_r f68 v0 2) m0 := Eq.trans (hF.r hv0 (by rw [kv0]; rfl)) hq_v0_2
            have g85 : tw_vw K L 10 5 3 4 f68 v0 n0 l0 m0 d0 s0 := tw_vw_tr hw010 (fun a9 h9 k9 c9 => hF.z h9 (by rw [k9]; rfl)) (fun a9 h9 k9 c9 => hF.z h9 (by rw [k9]; rfl)) (fun a9 h9 k9 c9 => hF.z h9 (by rw [k9]; rfl)) (fun a9 h9 k9 c9 => hF.z h9 (by rw [k9]; rfl)) (fun i9 => hF.r hn0 (by rw [kn0]; rfl)) (fun i9 => hF.r hl0 (by rw [kl0]; rfl)) (fun i9 => hF.r hm0 (by rw [km0]; rfl))
            have g86 : tw_nw K L 5 f68 := tw_nw_tr hz010 (fun a9 h9 k9 => hF.j h9 (by rw [k9]; rfl))
            have g87 : tw_nw K L 19 f68 := tw_nw_tr hz310 (fun a9 h9 k9 => hF.j h9 (by rw [k9]; rfl))
            refine lv_pop cx.1 cx.2.1 dX1_ticksToOut_38 rfl ?_
            refine q_iinc (lv' := [(3, .int (q_i (v10_3 + 1))), (0, .ref fc), (2, .int (q_i v10_2))]) cx dX1_ticksToOut_39 hl (k := 2) rfl (by decide) rfl (fun ls hl => ?_)
            refine lv_goto (tgt := 10) cx.1 cx.2.1 dX1_ticksToOut_42 (by decide) ?_
            exact ih10 f68 v10_2 (by omega) (by omega) (v10_3 + 1) (by omega) (by omega) (w10_v3_11 + 1) (by omega) (by omega) z75 z76 z77 z71 z78 z79 z80 z81 z82 z83 z84 g85 g86 g74 (by omega) (tw_cg g73 (by rw [tw_tsl_s (by omega)]; rfl)) (by have t0_ : y69 = tw_tcl (tw_tsl (tw_cp s3 s0) (Int.toNat v10_3)) (Int.toNat 1) := t72; have u0_ : tw_ou (tw_tsl (tw_cp s3 s0) (Int.toNat v10_3)) v10_2 = 0 := t65; refine hto.trans ?_; rw [tw_tol_s (by omega), tw_tsl_s (by omega)]; (repeat' split) <;> first | rfl | (exfalso; omega)) (by omega) H locs hB ls (lv_sub hl [1, 2, 0] rfl)
          · exact absurd c66 (by omega)
  obtain ⟨H, hH⟩ : ∃ H : Heap, H = s.heap := ⟨_, rfl⟩
  obtain ⟨locs, hlocs⟩ : ∃ z : List Loc, z = [] := ⟨_, rfl⟩
  rw [← hH, ← hlocs] at hB
  rw [← hH, ← hlocs]
  refine q_ald_n cx dX1_ticksToOut_0 rfl (lv_at hl 0 rfl) ?_
  refine q_gX1_12 cx hB hfc kfc hr0 dX1_ticksToOut_1 (fun hb88 kb88 => ?_)
  refine q_ald_n cx dX1_ticksToOut_4 rfl (lv_at hl 1 rfl) ?_
  refine q_cVv (As := [.ref v0]) (rest := []) cx hB (fun _ h => h) hN hv3 kv3 (by decide) rfl (f_vcopy30 l g hN hB.2.1 d3 s3 d0 s0 v3 hv3 kv3 v0 hv0 kv0 n3 hn3 kn3 l3 hl3 kl3 m3 hm3 km3 n0 hn0 kn0 l0 hl0 kl0 m0 hm0 km0 nn (by omega) (by omega) ln (by omega) (by omega) mn (by omega) (by omega) tm (by omega) (by omega) hf1 hf2 hf3 hf0 hr1 hr2 hr3 hr4 hr5 hr6 hw3 hw0 hz3 hz0) q_cX1_18 q_dX10_copyFrom (by decide) rfl rfl hl.1 rfl (Nat.le_of_ble_eq_true rfl) dX1_ticksToOut_5 (fun H locs f89 h91 hF hB => ?_)
  obtain ⟨z92, z93, z94, z95, g96, g97⟩ := h91
  have z98 : q_is (q_z f89 v0 11) tm := Eq.trans (hF.z hv0 (by rw [kv0]; rfl)) hf0
  have z99 : q_is (q_z f89 v0 3) nn := Eq.trans (hF.z hv0 (by rw [kv0]; rfl)) hf1
  have z100 : q_is (q_z f89 v0 4) ln := Eq.trans (hF.z hv0 (by rw [kv0]; rfl)) hf2
  have z101 : q_is (q_z f89 v0 5) mn := Eq.trans (hF.z hv0 (by rw [kv0]; rfl)) hf3
  have z102 : q_ir (q_r f89 fc 0) v3 := Eq.trans (hF.r hfc (by rw [kfc]; rfl)) hr0
  have z103 : q_ir (q_r f89 v3 0) n3 := Eq.trans (hF.r hv3 (by rw [kv3]; rfl)) hr1
  have z104 : q_ir (q_r f89 v3 1) l3 := Eq.trans (hF.r hv3 (by rw [kv3]; rfl)) hr2
  have z105 : q_ir (q_r f89 v3 2) m3 := Eq.trans (hF.r hv3 (by rw [kv3]; rfl)) hr3
  have z106 : q_ir (q_r f89 v0 0) n0 := Eq.trans (hF.r hv0 (by rw [kv0]; rfl)) hr4
  have z107 : q_ir (q_r f89 v0 1) l0 := Eq.trans (hF.r hv0 (by rw [kv0]; rfl)) hr5
  have z108 : q_ir (q_r f89 v0 2) m0 := Eq.trans (hF.r hv0 (by rw [kv0]; rfl)) hr6
  have g109 : tw_vw K L 10 5 3 4 f89 v0 n0 l0 m0 d0 s0 := tw_vw_tr hw0 (fun a9 h9 k9 c9 => hF.z h9 (by rw [k9]; rfl)) (fun a9 h9 k9 c9 => hF.z h9 (by rw [k9]; rfl)) (fun a9 h9 k9 c9 => hF.z h9 (by rw [k9]; rfl)) (fun a9 h9 k9 c9 => hF.z h9 (by rw [k9]; rfl)) (fun i9 => hF.r hn0 (by rw [kn0]; rfl)) (fun i9 => hF.r hl0 (by rw [kl0]; rfl)) (fun i9 => hF.r hm0 (by rw [km0]; rfl))
  have g110 : tw_nw K L 5 f89 := tw_nw_tr hz0 (fun a9 h9 k9 => hF.j h9 (by rw [k9]; rfl))
  refine q_iconst cx dX1_ticksToOut_8 ?_
  refine lv_istore_n (lv' := [(3, .int (q_i 0)), (0, .ref fc), (1, .ref v0), (2, .int (q_i p1))]) cx.1 cx.2.1 dX1_ticksToOut_9 rfl hl (by decide) rfl (fun ls hl => ?_)
  exact J10 ((Int.toNat (2147483647 - 0)) + 1) f89 p1 (by omega) (by omega) 0 (by decide) (by decide) tm (by omega) (by omega) z92 z93 z94 z95 z102 z103 z104 z105 z106 z107 z108 g109 g110 g97 (by omega) (tw_cg g96 rfl) rfl (Nat.lt_succ_self _) H locs hB ls (lv_sub hl [1, 3, 0] rfl)
set_option maxHeartbeats 4000000 in
set_option maxRecDepth 100000 in
theorem f_keep_0 (l : Launch) (g : q_G) {K : Nat → Nat} {L : List Nat} (hN : L.Nodup) {f : Nat → va_E} (hT : q_Ty g K L f) (d0 : Nat → Nat) (s0 : tw_S) (A9 : Nat → Nat → Nat) (D9 : Nat → Nat → Nat) (S9 : Nat → tw_S) (hist : Nat) (hhist : hist ∈ L) (khist : K hist = 2) (v0 : Nat) (hv0 : v0 ∈ L) (kv0 : K v0 = 10) (n0 : Nat) (hn0 : n0 ∈ L) (kn0 : K n0 = 110) (l0 : Nat) (hl0 : l0 ∈ L) (kl0 : K l0 = 120) (m0 : Nat) (hm0 : m0 ∈ L) (km0 : K m0 = 130) (ka : Nat) (hka : ka ∈ L) (kka : K ka = 218) (tm : Int) (ltm : 0 ≤ tm) (utm : tm ≤ 9000) (nn : Int) (lnn : 0 ≤ nn) (unn : nn ≤ 10) (ln : Int) (lln : 0 ≤ ln) (uln : ln ≤ 16) (mn : Int) (lmn : 0 ≤ mn) (umn : mn ≤ 61) (my : Int) (lmy : 0 ≤ my) (umy : my ≤ 6) (hf0 : q_is (q_z f v0 11) tm) (hf1 : q_is (q_z f v0 3) nn) (hf2 : q_is (q_z f v0 4) ln) (hf3 : q_is (q_z f v0 5) mn) (hf4 : q_is (q_z f hist 1) 0) (hf5 : q_is (q_z f hist 2) my) (hr0 : q_ir (q_r f hist 0) ka) (hr1 : q_ir (q_r f v0 0) n0) (hr2 : q_ir (q_r f v0 1) l0) (hr3 : q_ir (q_r f v0 2) m0) (hw0 : tw_vw K L 10 5 3 4 f v0 n0 l0 m0 d0 s0) (hz0 : tw_nw K L 5 f) (hhk : tw_hk K L f ka A9 D9 S9) : q_Ct l g K L yX2_keep cX2_keep 2 none 2 43 [.ref hist, .ref v0] f [(2, 1, 2), (50, 3, 12), (56, 0, 8), (62, 0, 4), (68, 0, 7)] (q_Pv (fun (f1 : Nat → va_E) => q_is (q_z f1 hist 1) 1 ∧ (q_is (q_z f1 hist 2) (min 6 (my + 1))) ∧ (tw_hk K L f1 ka A9 D9 (tw_hu S9 0 (tw_cp (S9 0) s0))))) := by
  refine q_ofb (by decide +kernel) hN hT (Nat.le_of_ble_eq_true rfl) ?_
  intro p e s m below meth c ls cx hr hlk hB hl
  have hl : lv_has ls 2 [(0, .ref hist), (1, .ref v0)] := hl
  obtain ⟨H, hH⟩ : ∃ H : Heap, H = s.heap := ⟨_, rfl⟩
  obtain ⟨locs, hlocs⟩ : ∃ z : List Loc, z = [] := ⟨_, rfl⟩
  rw [← hH, ← hlocs] at hB
  rw [← hH, ← hlocs]
  refine q_ald_n cx dX2_keep_0 rfl (lv_at hl 0 rfl) ?_
  refine q_gX2_20 cx hB hhist khist hf4 dX2_keep_1 (fun lb66 ub66 => ?_)
  refine q_iflt (tgt := 19) cx ⟨by decide, by decide⟩ dX2_keep_4 (by decide) (fun c67 => ?_) (fun c67 => ?_)
  · exact absurd c67 (by omega)
  · refine q_ald_n cx dX2_keep_7 rfl (lv_at hl 0 rfl) ?_
    refine q_gX2_20 cx hB hhist khist hf4 dX2_keep_8 (fun lb68 ub68 => ?_)
    refine q_ald_n cx dX2_keep_11 rfl (lv_at hl 0 rfl) ?_
    refine q_gX2_11 cx hB hhist khist hr0 dX2_keep_12 (fun hb69 kb69 => ?_)
    refine q_alen (n := 6) cx hB hka kka (by decide) rfl 8 rfl rfl dX2_keep_15 ?_
    refine q_iclt (tgt := 24) cx ⟨by decide, by decide⟩ ⟨by decide, by decide⟩ dX2_keep_16 (by decide) (fun c70 => ?_) (fun c70 => ?_)
    · obtain ⟨d4, v4, n4, l4, m4, ed9, ⟨hv4, kv4⟩, ⟨hn4, kn4⟩, ⟨hl4, kl4⟩, ⟨hm4, km4⟩, ⟨er0, er1, er2, er3⟩, hw9, hz9⟩ := tw_hk_get hhk 0 (by decide)
      have kv4 : K v4 = 50 := kv4
      have kn4 : K n4 = 200 := kn4
      have kl4 : K l4 = 206 := kl4
      have km4 : K m4 = 212 := km4
      have hw9 : tw_vw K L 50 56 62 68 f v4 n4 l4 m4 d4 (S9 0) := hw9
      have hz9 : tw_nw K L 56 f := hz9
      refine q_ald_n cx dX2_keep_24 rfl (lv_at hl 0 rfl) ?_
      refine q_gX2_11 cx hB hhist khist hr0 dX2_keep_25 (fun hb71 kb71 => ?_)
      refine q_ald_n cx dX2_keep_28 rfl (lv_at hl 0 rfl) ?_
      refine q_gX2_20 cx hB hhist khist hf4 dX2_keep_29 (fun lb72 ub72 => ?_)
      refine q_aald (k2 := 50) (n := 6) cx hB hka kka (by decide) rfl 8 rfl (by decide) rfl (by decide) (by decide) (by decide) rfl er0 dX2_keep_32 (fun hb74 kb74 => ?_)
      refine q_ald_n cx dX2_keep_33 rfl (lv_at hl 1 rfl) ?_
      refine q_cVv (As := [.ref v0]) (rest := []) cx hB (fun _ h => h) hN hv4 kv4 (by decide) rfl (f_vcopy40 l g hN hB.2.1 d4 (S9 0) d0 s0 v4 hv4 kv4 v0 hv0 kv0 n4 hn4 kn4 l4 hl4 kl4 m4 hm4 km4 n0 hn0 kn0 l0 hl0 kl0 m0 hm0 km0 nn (by omega) (by omega) ln (by omega) (by omega) mn (by omega) (by omega) tm (by omega) (by omega) hf1 hf2 hf3 hf0 er1 er2 er3 hr1 hr2 hr3 hw9 hw0 hz9 hz0) q_cX2_23 q_dX10_copyFrom (by decide) rfl rfl hl.1 rfl (Nat.le_of_ble_eq_true rfl) dX2_keep_34 (fun H locs f75 h77 hF hB => ?_)
      obtain ⟨z78, z79, z80, z81, g82, g83⟩ := h77
      have z84 : q_is (q_z f75 v0 11) tm := Eq.trans (hF.z hv0 (by rw [kv0]; rfl)) hf0
      have z85 : q_is (q_z f75 v0 3) nn := Eq.trans (hF.z hv0 (by rw [kv0]; rfl)) hf1
      have z86 : q_is (q_z f75 v0 4) ln := Eq.trans (hF.z hv0 (by rw [kv0]; rfl)) hf2
      have z87 : q_is (q_z f75 v0 5) mn := Eq.trans (hF.z hv0 (by rw [kv0]; rfl)) hf3
      have z88 : q_is (q_z f75 hist 1) 0 := Eq.trans (hF.z hhist (by rw [khist]; rfl)) hf4
      have z89 : q_is (q_z f75 hist 2) my := Eq.trans (hF.z hhist (by rw [khist]; rfl)) hf5
      have z90 : q_ir (q_r f75 hist 0) ka := Eq.trans (hF.r hhist (by rw [khist]; rfl)) hr0
      have z91 : q_ir (q_r f75 v0 0) n0 := Eq.trans (hF.r hv0 (by rw [kv0]; rfl)) hr1
      have z92 : q_ir (q_r f75 v0 1) l0 := Eq.trans (hF.r hv0 (by rw [kv0]; rfl)) hr2
      have z93 : q_ir (q_r f75 v0 2) m0 := Eq.trans (hF.r hv0 (by rw [kv0]; rfl)) hr3
      have z94 : q_ir (q_r f75 ka 0) v4 := Eq.trans (hF.r hka (by rw [kka]; rfl)) er0
      have z95 : q_ir (q_r f75 v4 0) n4 := Eq.trans (hF.r hv4 (by rw [kv4]; rfl)) er1
      have z96 : q_ir (q_r f75 v4 1) l4 := Eq.trans (hF.r hv4 (by rw [kv4]; rfl)) er2
      have z97 : q_ir (q_r f75 v4 2) m4 := Eq.trans (hF.r hv4 (by rw [kv4]; rfl)) er3
      have g98 : tw_vw K L 10 5 3 4 f75 v0 n0 l0 m0 d0 s0 := tw_vw_tr hw0 (fun a9 h9 k9 c9 => hF.z h9 (by rw [k9]; rfl)) (fun a9 h9 k9 c9 => hF.z h9 (by rw [k9]; rfl)) (fun a9 h9 k9 c9 => hF.z h9 (by rw [k9]; rfl)) (fun a9 h9 k9 c9 => hF.z h9 (by rw [k9]; rfl)) (fun i9 => hF.r hn0 (by rw [kn0]; rfl)) (fun i9 => hF.r hl0 (by rw [kl0]; rfl)) (fun i9 => hF.r hm0 (by rw [km0]; rfl))
      have g99 : tw_nw K L 5 f75 := tw_nw_tr hz0 (fun a9 h9 k9 => hF.j h9 (by rw [k9]; rfl))
      have hk9 : tw_hk K L f75 ka A9 D9 (tw_hu S9 0 (tw_cp (S9 0) s0)) := tw_hk_up hhk 0 (by decide) hF rfl ed9 g82 g83
      refine q_ald_n cx dX2_keep_37 rfl (lv_at hl 0 rfl) ?_
      refine lv_dup cx.1 cx.2.1 dX2_keep_38 rfl ?_
      refine q_gX2_20 cx hB hhist khist z88 dX2_keep_39 (fun lb100 ub100 => ?_)
      refine q_iconst cx dX2_keep_42 ?_
      refine q_iadd cx dX2_keep_43 ?_
      refine q_pX2_20 cx hB hhist khist ⟨by decide, by decide⟩ (by decide) (by decide) rfl dX2_keep_44 (fun H locs f101 ef101 z102 hB => ?_)
      have z103 : q_is (q_z f101 v0 11) tm := by rw [ef101, q_setz (Or.inr (by decide))]; exact z84
      have z104 : q_is (q_z f101 v0 3) nn := by rw [ef101, q_setz (Or.inr (by decide))]; exact z85
      have z105 : q_is (q_z f101 v0 4) ln := by rw [ef101, q_setz (Or.inr (by decide))]; exact z86
      have z106 : q_is (q_z f101 v0 5) mn := by rw [ef101, q_setz (Or.inr (by decide))]; exact z87
      have z107 : q_is (q_z f101 hist 2) my := by rw [ef101, q_setz (Or.inr (by decide))]; exact z89
      have z108 : q_ir (q_r f101 hist 0) ka := by rw [ef101, q_setr (Or.inr (by decide))]; exact z90
      have z109 : q_ir (q_r f101 v0 0) n0 := by rw [ef101, q_setr (Or.inr (by decide))]; exact z91
      have z110 : q_ir (q_r f101 v0 1) l0 := by rw [ef101, q_setr (Or.inl (fun q => by rw [q, khist] at kv0; exact absurd kv0 (by decide)))]; exact z92
      have z111 : q_ir (q_r f101 v0 2) m0 := by rw [ef101, q_setr (Or.inr (by decide))]; exact z93
      have g112 : tw_vw K L 10 5 3 4 f101 v0 n0 l0 m0 d0 s0 := tw_vw_tr g98 (fun a9 h9 k9 c9 => by rw [ef101, q_setz (Or.inl (fun q => by rw [q, khist] at k9; exact absurd k9 (by decide)))]) (fun a9 h9 k9 c9 => by rw [ef101, q_setz (Or.inl (fun q => by rw [q, khist] at k9; exact absurd k9 (by decide)))]) (fun a9 h9 k9 c9 => by rw [ef101, q_setz (Or.inl (fun q => by rw [q, khist] at k9; exact absurd k9 (by decide)))]) (fun a9 h9 k9 c9 => by rw [ef101, q_setz (Or.inl (fun q => by rw [q, khist] at k9; exact absurd k9 (by decide)))]) (fun i9 => by rw [ef101, q_setr (Or.inl (fun q => by rw [q, khist] at kn0; exact absurd kn0 (by decide)))]) (fun i9 => by rw [ef101, q_setr (Or.inl (fun q => by rw [q, khist] at kl0; exact absurd kl0 (by decide)))]) (fun i9 => by rw [ef101, q_setr (Or.inl (fun q => by rw [q, khist] at km0; exact absurd km0 (by decide)))])
      have g113 : tw_nw K L 5 f101 := tw_nw_tr g99 (fun a9 h9 k9 => by rw [ef101, q_setj (Or.inl (fun q => by rw [q, khist] at k9; exact absurd k9 (by decide)))])
      have g114 : tw_hk K L f101 ka A9 D9 (tw_hu S9 0 (tw_cp (S9 0) s0)) := tw_hk_tr hk9 (fun a9 h9 k9 i9 => by rw [ef101]; exact q_set_ne (Or.inl (fun q => by rw [q, khist] at k9; exact absurd k9 (by decide))))
      refine q_ald_n cx dX2_keep_47 rfl (lv_at hl 0 rfl) ?_
      refine q_bipush cx dX2_keep_48 rfl ?_
      refine q_ald_n cx dX2_keep_50 rfl (lv_at hl 0 rfl) ?_
      refine q_gX2_16 cx hB hhist khist z107 dX2_keep_51 (fun lb115 ub115 => ?_)
      refine q_iconst cx dX2_keep_54 ?_
      refine q_iadd cx dX2_keep_55 ?_
      refine q_mmin (rest := [.ref hist]) cx hl.1 q_h1383 q_h994 q_h56 q_h995 (by decide) (Nat.le_of_ble_eq_true rfl) (by decide) (by decide) ⟨by decide, by decide⟩ ⟨by omega, by omega⟩ dX2_keep_56 (fun y116 ay116 by116 ey116 => ?_)
      refine q_pX2_16 cx hB hhist khist ⟨by omega, by omega⟩ (by omega) (by omega) rfl dX2_keep_59 (fun H locs f117 ef117 z118 hB => ?_)
      have z119 : q_is (q_z f117 v0 11) tm := by rw [ef117, q_setz (Or.inr (by decide))]; exact z103
      have z120 : q_is (q_z f117 v0 3) nn := by rw [ef117, q_setz (Or.inr (by decide))]; exact z104
      have z121 : q_is (q_z f117 v0 4) ln := by rw [ef117, q_setz (Or.inr (by decide))]; exact z105
      have z122 : q_is (q_z f117 v0 5) mn := by rw [ef117, q_setz (Or.inr (by decide))]; exact z106
      have z123 : q_is (q_z f117 hist 1) (0 + 1) := by rw [ef117, q_setz (Or.inr (by decide))]; exact z102
      have z124 : q_ir (q_r f117 hist 0) ka := by rw [ef117, q_setr (Or.inr (by decide))]; exact z108
      have z125 : q_ir (q_r f117 v0 0) n0 := by rw [ef117, q_setr (Or.inr (by decide))]; exact z109
      have z126 : q_ir (q_r f117 v0 1) l0 := by rw [ef117, q_setr (Or.inr (by decide))]; exact z110
      have z127 : q_ir (q_r f117 v0 2) m0 := by rw [ef117, q_setr (Or.inl (fun q => by rw [q, khist] at kv0; exact absurd kv0 (by decide)))]; exact z111
      have g128 : tw_vw K L 10 5 3 4 f117 v0 n0 l0 m0 d0 s0 := tw_vw_tr g112 (fun a9 h9 k9 c9 => by rw [ef117, q_setz (Or.inl (fun q => by rw [q, khist] at k9; exact absurd k9 (by decide)))]) (fun a9 h9 k9 c9 => by rw [ef117, q_setz (Or.inl (fun q => by rw [q, khist] at k9; exact absurd k9 (by decide)))]) (fun a9 h9 k9 c9 => by rw [ef117, q_setz (Or.inl (fun q => by rw [q, khist] at k9; exact absurd k9 (by decide)))]) (fun a9 h9 k9 c9 => by rw [ef117, q_setz (Or.inl (fun q => by rw [q, khist] at k9; exact absurd k9 (by decide)))]) (fun i9 => by rw [ef117, q_setr (Or.inl (fun q => by rw [q, khist] at kn0; exact absurd kn0 (by decide)))]) (fun i9 => by rw [ef117, q_setr (Or.inl (fun q => by rw [q, khist] at kl0; exact absurd kl0 (by decide)))]) (fun i9 => by rw [ef117, q_setr (Or.inl (fun q => by rw [q, khist] at km0; exact absurd km0 (by decide)))])
      have g129 : tw_nw K L 5 f117 := tw_nw_tr g113 (fun a9 h9 k9 => by rw [ef117, q_setj (Or.inl (fun q => by rw [q, khist] at k9; exact absurd k9 (by decide)))])
      have g130 : tw_hk K L f117 ka A9 D9 (tw_hu S9 0 (tw_cp (S9 0) s0)) := tw_hk_tr g114 (fun a9 h9 k9 i9 => by rw [ef117]; exact q_set_ne (Or.inl (fun q => by rw [q, khist] at k9; exact absurd k9 (by decide))))
      refine q_vret cx hr hlk hB dX2_keep_62 ?_
      exact ⟨(Eq.trans z123 (by omega)), (Eq.trans z118 (by omega)), g130⟩
    · exact absurd c70 (by omega)
set_option maxHeartbeats 4000000 in
set_option maxRecDepth 100000 in
theorem f_takeBack_0 (l : Launch) (g : q_G) {K : Nat → Nat} {L : List Nat} (hN : L.Nodup) {f : Nat → va_E} (hT : q_Ty g K L f) (d0 : Nat → Nat) (s0 : tw_S) (A9 : Nat → Nat → Nat) (D9 : Nat → Nat → Nat) (S9 : Nat → tw_S) (hist : Nat) (hhist : hist ∈ L) (khist : K hist = 2) (v0 : Nat) (hv0 : v0 ∈ L) (kv0 : K v0 = 10) (n0 : Nat) (hn0 : n0 ∈ L) (kn0 : K n0 = 110) (l0 : Nat) (hl0 : l0 ∈ L) (kl0 : K l0 = 120) (m0 : Nat) (hm0 : m0 ∈ L) (km0 : K m0 = 130) (ka : Nat) (hka : ka ∈ L) (kka : K ka = 218) (tm : Int) (ltm : 0 ≤ tm) (utm : tm ≤ 9000) (nn : Int) (lnn : 0 ≤ nn) (unn : nn ≤ 10) (ln : Int) (lln : 0 ≤ ln) (uln : ln ≤ 16) (mn : Int) (lmn : 0 ≤ mn) (umn : mn ≤ 61) (my : Int) (lmy : 1 ≤ my) (umy : my ≤ 6) (tk : Int) (ltk : 0 ≤ tk) (utk : tk ≤ 9000) (nk : Int) (lnk : 0 ≤ nk) (unk : nk ≤ 10) (lk : Int) (llk : 0 ≤ lk) (ulk : lk ≤ 16) (mk : Int) (lmk : 0 ≤ mk) (umk : mk ≤ 61) (hf0 : q_is (q_z f v0 11) tm) (hf1 : q_is (q_z f v0 3) nn) (hf2 : q_is (q_z f v0 4) ln) (hf3 : q_is (q_z f v0 5) mn) (hf4 : q_is (q_z f hist 1) 0) (hf5 : q_is (q_z f hist 2) my) (hr0 : q_ir (q_r f hist 0) ka) (hr1 : q_ir (q_r f v0 0) n0) (hr2 : q_ir (q_r f v0 1) l0) (hr3 : q_ir (q_r f v0 2) m0) (hp0 : (S9 5) 0 11 = tk) (hp1 : (S9 5) 0 3 = nk) (hp2 : (S9 5) 0 4 = lk) (hp3 : (S9 5) 0 5 = mk) (hw0 : tw_vw K L 10 5 3 4 f v0 n0 l0 m0 d0 s0) (hz0 : tw_nw K L 5 f) (hhk : tw_hk K L f ka A9 D9 S9) : q_Ct l g K L yX2_takeBack cX2_takeBack 2 (some .boolean) 2 43 [.ref hist, .ref v0] f [(2, 1, 2), (3, 0, 4), (4, 0, 7), (5, 0, 8), (10, 3, 12)] (q_Pi (fun (z : Int) (f1 : Nat → va_E) => z = 1 ∧ q_is (q_z f1 hist 1) 5 ∧ q_is (q_z f1 hist 2) (my - 1) ∧ q_is (q_z f1 v0 11) tk ∧ q_is (q_z f1 v0 3) nk ∧ q_is (q_z f1 v0 4) lk ∧ q_is (q_z f1 v0 5) mk ∧ (tw_vw K L 10 5 3 4 f1 v0 n0 l0 m0 d0 (tw_cp s0 (S9 5))) ∧ (tw_nw K L 5 f1) ∧ (tw_hk K L f1 ka A9 D9 S9))) := by
  refine q_ofb (by decide +kernel) hN hT (Nat.le_of_ble_eq_true rfl) ?_
  intro p e s m below meth c ls cx hr hlk hB hl
  have hl : lv_has ls 2 [(0, .ref hist), (1, .ref v0)] := hl
  obtain ⟨H, hH⟩ : ∃ H : Heap, H = s.heap := ⟨_, rfl⟩
  obtain ⟨locs, hlocs⟩ : ∃ z : List Loc, z = [] := ⟨_, rfl⟩
  rw [← hH, ← hlocs] at hB
  rw [← hH, ← hlocs]
  refine q_ald_n cx dX2_takeBack_0 rfl (lv_at hl 0 rfl) ?_
  refine q_gX2_16 cx hB hhist khist hf5 dX2_takeBack_1 (fun lb79 ub79 => ?_)
  refine q_ifne (tgt := 9) cx ⟨by omega, by omega⟩ dX2_takeBack_4 (by decide) (fun c80 => ?_) (fun c80 => ?_)
  · refine q_ald_n cx dX2_takeBack_9 rfl (lv_at hl 0 rfl) ?_
    refine q_ald_n cx dX2_takeBack_10 rfl (lv_at hl 0 rfl) ?_
    refine q_gX2_20 cx hB hhist khist hf4 dX2_takeBack_11 (fun lb81 ub81 => ?_)
    refine q_ifle (tgt := 38) cx ⟨by decide, by decide⟩ dX2_takeBack_14 (by decide) (fun c82 => ?_) (fun c82 => ?_)
    · refine q_ald_n cx dX2_takeBack_38 rfl (lv_at hl 0 rfl) ?_
      refine q_gX2_11 cx hB hhist khist hr0 dX2_takeBack_39 (fun hb83 kb83 => ?_)
      refine q_alen (n := 6) cx hB hka kka (by decide) rfl 8 rfl rfl dX2_takeBack_42 ?_
      refine q_iconst cx dX2_takeBack_43 ?_
      refine q_isub cx dX2_takeBack_44 ?_
      refine q_pX2_20 cx hB hhist khist ⟨by decide, by decide⟩ (by decide) (by decide) rfl dX2_takeBack_45 (fun H locs f84 ef84 z85 hB => ?_)
      have z86 : q_is (q_z f84 v0 11) tm := by rw [ef84, q_setz (Or.inr (by decide))]; exact hf0
      have z87 : q_is (q_z f84 v0 3) nn := by rw [ef84, q_setz (Or.inr (by decide))]; exact hf1
      have z88 : q_is (q_z f84 v0 4) ln := by rw [ef84, q_setz (Or.inr (by decide))]; exact hf2
      have z89 : q_is (q_z f84 v0 5) mn := by rw [ef84, q_setz (Or.inr (by decide))]; exact hf3
      have z90 : q_is (q_z f84 hist 2) my := by rw [ef84, q_setz (Or.inr (by decide))]; exact hf5
      have z91 : q_ir (q_r f84 hist 0) ka := by rw [ef84, q_setr (Or.inr (by decide))]; exact hr0
      have z92 : q_ir (q_r f84 v0 0) n0 := by rw [ef84, q_setr (Or.inr (by decide))]; exact hr1
      have z93 : q_ir (q_r f84 v0 1) l0 := by rw [ef84, q_setr (Or.inl (fun q => by rw [q, khist] at kv0; exact absurd kv0 (by decide)))]; exact hr2
      have z94 : q_ir (q_r f84 v0 2) m0 := by rw [ef84, q_setr (Or.inr (by decide))]; exact hr3
      have g95 : tw_vw K L 10 5 3 4 f84 v0 n0 l0 m0 d0 s0 := tw_vw_tr hw0 (fun a9 h9 k9 c9 => by rw [ef84, q_setz (Or.inl (fun q => by rw [q, khist] at k9; exact absurd k9 (by decide)))]) (fun a9 h9 k9 c9 => by rw [ef84, q_setz (Or.inl (fun q => by rw [q, khist] at k9; exact absurd k9 (by decide)))]) (fun a9 h9 k9 c9 => by rw [ef84, q_setz (Or.inl (fun q => by rw [q, khist] at k9; exact absurd k9 (by decide)))]) (fun a9 h9 k9 c9 => by rw [ef84, q_setz (Or.inl (fun q => by rw [q, khist] at k9; exact absurd k9 (by decide)))]) (fun i9 => by rw [ef84, q_setr (Or.inl (fun q => by rw [q, khist] at kn0; exact absurd kn0 (by decide)))]) (fun i9 => by rw [ef84, q_setr (Or.inl (fun q => by rw [q, khist] at kl0; exact absurd kl0 (by decide)))]) (fun i9 => by rw [ef84, q_setr (Or.inl (fun q => by rw [q, khist] at km0; exact absurd km0 (by decide)))])
      have g96 : tw_nw K L 5 f84 := tw_nw_tr hz0 (fun a9 h9 k9 => by rw [ef84, q_setj (Or.inl (fun q => by rw [q, khist] at k9; exact absurd k9 (by decide)))])
      have g97 : tw_hk K L f84 ka A9 D9 S9 := tw_hk_tr hhk (fun a9 h9 k9 i9 => by rw [ef84]; exact q_set_ne (Or.inl (fun q => by rw [q, khist] at k9; exact absurd k9 (by decide))))
      obtain ⟨d9, v9, n9, l9, m9, ed9, ⟨hv9, kv9⟩, ⟨hn9, kn9⟩, ⟨hl9, kl9⟩, ⟨hm9, km9⟩, ⟨er0, er1, er2, er3⟩, hw9, hz9⟩ := tw_hk_get g97 5 (by decide)
      have kv9 : K v9 = 55 := kv9
      have kn9 : K n9 = 205 := kn9
      have kl9 : K l9 = 211 := kl9
      have km9 : K m9 = 217 := km9
      have hw9 : tw_vw K L 55 61 67 73 f84 v9 n9 l9 m9 d9 (S9 5) := hw9
      have hz9 : tw_nw K L 61 f84 := hz9
      have z98 : q_is (q_z f84 v9 11) tk := tw_kf hw9 (by decide) hp0
      have z99 : q_is (q_z f84 v9 3) nk := tw_kf hw9 (by decide) hp1
      have z100 : q_is (q_z f84 v9 4) lk := tw_kf hw9 (by decide) hp2
      have z101 : q_is (q_z f84 v9 5) mk := tw_kf hw9 (by decide) hp3
      refine q_ald_n cx dX2_takeBack_48 rfl (lv_at hl 1 rfl) ?_
      refine q_ald_n cx dX2_takeBack_49 rfl (lv_at hl 0 rfl) ?_
      refine q_gX2_11 cx hB hhist khist z91 dX2_takeBack_50 (fun hb102 kb102 => ?_)
      refine q_ald_n cx dX2_takeBack_53 rfl (lv_at hl 0 rfl) ?_
      refine q_gX2_20 cx hB hhist khist z85 dX2_takeBack_54 (fun lb103 ub103 => ?_)
      refine q_aald (k2 := 55) (n := 6) cx hB hka kka (by decide) rfl 8 rfl (by decide) rfl (by decide) (by decide) (by decide) rfl er0 dX2_takeBack_57 (fun hb105 kb105 => ?_)
      refine q_cVv (As := [.ref v9]) (rest := []) cx hB (fun _ h => h) hN hv0 kv0 (by decide) rfl (f_vcopy09 l g hN hB.2.1 d0 s0 d9 (S9 5) v0 hv0 kv0 v9 hv9 kv9 n0 hn0 kn0 l0 hl0 kl0 m0 hm0 km0 n9 hn9 kn9 l9 hl9 kl9 m9 hm9 km9 nk (by omega) (by omega) lk (by omega) (by omega) mk (by omega) (by omega) tk (by omega) (by omega) z99 z100 z101 z98 z92 z93 z94 er1 er2 er3 g95 hw9 g96 hz9) q_cX2_23 q_dX10_copyFrom (by decide) rfl rfl hl.1 rfl (Nat.le_of_ble_eq_true rfl) dX2_takeBack_58 (fun H locs f106 h108 hF hB => ?_)
      obtain ⟨z109, z110, z111, z112, g113, g114⟩ := h108
      have z115 : q_is (q_z f106 hist 2) my := Eq.trans (hF.z hhist (by rw [khist]; rfl)) z90
      have z116 : q_is (q_z f106 hist 1) (6 - 1) := Eq.trans (hF.z hhist (by rw [khist]; rfl)) z85
      have z117 : q_is (q_z f106 v9 11) tk := Eq.trans (hF.z hv9 (by rw [kv9]; rfl)) z98
      have z118 : q_is (q_z f106 v9 3) nk := Eq.trans (hF.z hv9 (by rw [kv9]; rfl)) z99
      have z119 : q_is (q_z f106 v9 4) lk := Eq.trans (hF.z hv9 (by rw [kv9]; rfl)) z100
      have z120 : q_is (q_z f106 v9 5) mk := Eq.trans (hF.z hv9 (by rw [kv9]; rfl)) z101
      have z121 : q_ir (q_r f106 hist 0) ka := Eq.trans (hF.r hhist (by rw [khist]; rfl)) z91
      have z122 : q_ir (q_r f106 v0 0) n0 := Eq.trans (hF.r hv0 (by rw [kv0]; rfl)) z92
      have z123 : q_ir (q_r f106 v0 1) l0 := Eq.trans (hF.r hv0 (by rw [kv0]; rfl)) z93
      have z124 : q_ir (q_r f106 v0 2) m0 := Eq.trans (hF.r hv0 (by rw [kv0]; rfl)) z94
      have z125 : q_ir (q_r f106 ka 5) v9 := Eq.trans (hF.r hka (by rw [kka]; rfl)) er0
      have z126 : q_ir (q_r f106 v9 0) n9 := Eq.trans (hF.r hv9 (by rw [kv9]; rfl)) er1
      have z127 : q_ir (q_r f106 v9 1) l9 := Eq.trans (hF.r hv9 (by rw [kv9]; rfl)) er2
      have z128 : q_ir (q_r f106 v9 2) m9 := Eq.trans (hF.r hv9 (by rw [kv9]; rfl)) er3
      have g129 : tw_hk K L f106 ka A9 D9 S9 := tw_hk_tr g97 (fun a9 h9 k9 i9 => hF a9 h9 i9 (tw_krw rfl k9))
      have g130 : tw_vw K L 55 61 67 73 f106 v9 n9 l9 m9 d9 (S9 5) := tw_vw_tr hw9 (fun a9 h9 k9 c9 => hF.z h9 (by rw [k9]; rfl)) (fun a9 h9 k9 c9 => hF.z h9 (by rw [k9]; rfl)) (fun a9 h9 k9 c9 => hF.z h9 (by rw [k9]; rfl)) (fun a9 h9 k9 c9 => hF.z h9 (by rw [k9]; rfl)) (fun i9 => hF.r hn9 (by rw [kn9]; rfl)) (fun i9 => hF.r hl9 (by rw [kl9]; rfl)) (fun i9 => hF.r hm9 (by rw [km9]; rfl))
      have g131 : tw_nw K L 61 f106 := tw_nw_tr hz9 (fun a9 h9 k9 => hF.j h9 (by rw [k9]; rfl))
      refine q_ald_n cx dX2_takeBack_61 rfl (lv_at hl 0 rfl) ?_
      refine lv_dup cx.1 cx.2.1 dX2_takeBack_62 rfl ?_
      refine q_gX2_16 cx hB hhist khist z115 dX2_takeBack_63 (fun lb132 ub132 => ?_)
      refine q_iconst cx dX2_takeBack_66 ?_
      refine q_isub cx dX2_takeBack_67 ?_
      refine q_pX2_16 cx hB hhist khist ⟨by omega, by omega⟩ (by omega) (by omega) rfl dX2_takeBack_68 (fun H locs f133 ef133 z134 hB => ?_)
      have z135 : q_is (q_z f133 hist 1) (6 - 1) := by rw [ef133, q_setz (Or.inr (by decide))]; exact z116
      have z136 : q_is (q_z f133 v9 11) tk := by rw [ef133, q_setz (Or.inr (by decide))]; exact z117
      have z137 : q_is (q_z f133 v9 3) nk := by rw [ef133, q_setz (Or.inr (by decide))]; exact z118
      have z138 : q_is (q_z f133 v9 4) lk := by rw [ef133, q_setz (Or.inr (by decide))]; exact z119
      have z139 : q_is (q_z f133 v9 5) mk := by rw [ef133, q_setz (Or.inr (by decide))]; exact z120
      have z140 : q_is (q_z f133 v0 3) nk := by rw [ef133, q_setz (Or.inr (by decide))]; exact z109
      have z141 : q_is (q_z f133 v0 4) lk := by rw [ef133, q_setz (Or.inr (by decide))]; exact z110
      have z142 : q_is (q_z f133 v0 5) mk := by rw [ef133, q_setz (Or.inr (by decide))]; exact z111
      have z143 : q_is (q_z f133 v0 11) tk := by rw [ef133, q_setz (Or.inr (by decide))]; exact z112
      have z144 : q_ir (q_r f133 hist 0) ka := by rw [ef133, q_setr (Or.inr (by decide))]; exact z121
      have z145 : q_ir (q_r f133 v0 0) n0 := by rw [ef133, q_setr (Or.inr (by decide))]; exact z122
      have z146 : q_ir (q_r f133 v0 1) l0 := by rw [ef133, q_setr (Or.inr (by decide))]; exact z123
      have z147 : q_ir (q_r f133 v0 2) m0 := by rw [ef133, q_setr (Or.inl (fun q => by rw [q, khist] at kv0; exact absurd kv0 (by decide)))]; exact z124
      have z148 : q_ir (q_r f133 ka 5) v9 := by rw [ef133, q_setr (Or.inr (by decide))]; exact z125
      have z149 : q_ir (q_r f133 v9 0) n9 := by rw [ef133, q_setr (Or.inr (by decide))]; exact z126
      have z150 : q_ir (q_r f133 v9 1) l9 := by rw [ef133, q_setr (Or.inr (by decide))]; exact z127
      have z151 : q_ir (q_r f133 v9 2) m9 := by rw [ef133, q_setr (Or.inl (fun q => by rw [q, khist] at kv9; exact absurd kv9 (by decide)))]; exact z128
      have g152 : tw_hk K L f133 ka A9 D9 S9 := tw_hk_tr g129 (fun a9 h9 k9 i9 => by rw [ef133]; exact q_set_ne (Or.inl (fun q => by rw [q, khist] at k9; exact absurd k9 (by decide))))
      have g153 : tw_vw K L 55 61 67 73 f133 v9 n9 l9 m9 d9 (S9 5) := tw_vw_tr g130 (fun a9 h9 k9 c9 => by rw [ef133, q_setz (Or.inl (fun q => by rw [q, khist] at k9; exact absurd k9 (by decide)))]) (fun a9 h9 k9 c9 => by rw [ef133, q_setz (Or.inl (fun q => by rw [q, khist] at k9; exact absurd k9 (by decide)))]) (fun a9 h9 k9 c9 => by rw [ef133, q_setz (Or.inl (fun q => by rw [q, khist] at k9; exact absurd k9 (by decide)))]) (fun a9 h9 k9 c9 => by rw [ef133, q_setz (Or.inl (fun q => by rw [q, khist] at k9; exact absurd k9 (by decide)))]) (fun i9 => by rw [ef133, q_setr (Or.inl (fun q => by rw [q, khist] at kn9; exact absurd kn9 (by decide)))]) (fun i9 => by rw [ef133, q_setr (Or.inl (fun q => by rw [q, khist] at kl9; exact absurd kl9 (by decide)))]) (fun i9 => by rw [ef133, q_setr (Or.inl (fun q => by rw [q, khist] at km9; exact absurd km9 (by decide)))])
      have g154 : tw_nw K L 61 f133 := tw_nw_tr g131 (fun a9 h9 k9 => by rw [ef133, q_setj (Or.inl (fun q => by rw [q, khist] at k9; exact absurd k9 (by decide)))])
      have g155 : tw_vw K L 10 5 3 4 f133 v0 n0 l0 m0 d0 (tw_cp s0 (S9 5)) := tw_vw_tr g113 (fun a9 h9 k9 c9 => by rw [ef133, q_setz (Or.inl (fun q => by rw [q, khist] at k9; exact absurd k9 (by decide)))]) (fun a9 h9 k9 c9 => by rw [ef133, q_setz (Or.inl (fun q => by rw [q, khist] at k9; exact absurd k9 (by decide)))]) (fun a9 h9 k9 c9 => by rw [ef133, q_setz (Or.inl (fun q => by rw [q, khist] at k9; exact absurd k9 (by decide)))]) (fun a9 h9 k9 c9 => by rw [ef133, q_setz (Or.inl (fun q => by rw [q, khist] at k9; exact absurd k9 (by decide)))]) (fun i9 => by rw [ef133, q_setr (Or.inl (fun q => by rw [q, khist] at kn0; exact absurd kn0 (by decide)))]) (fun i9 => by rw [ef133, q_setr (Or.inl (fun q => by rw [q, khist] at kl0; exact absurd kl0 (by decide)))]) (fun i9 => by rw [ef133, q_setr (Or.inl (fun q => by rw [q, khist] at km0; exact absurd km0 (by decide)))])
      have g156 : tw_nw K L 5 f133 := tw_nw_tr g114 (fun a9 h9 k9 => by rw [ef133, q_setj (Or.inl (fun q => by rw [q, khist] at k9; exact absurd k9 (by decide)))])
      refine q_iconst cx dX2_takeBack_71 ?_
      refine q_zret cx hr hlk hB dX2_takeBack_72 (by decide) (by decide) ?_
      exact ⟨rfl, (Eq.trans z135 (by omega)), z134, z143, z140, z141, z142, g155, g156, g152⟩
    · exact absurd c82 (by omega)
  · exact absurd c80 (by omega)
set_option maxHeartbeats 4000000 in
set_option maxRecDepth 100000 in
theorem f_keep_1 (l : Launch) (g : q_G) {K : Nat → Nat} {L : List Nat} (hN : L.Nodup) {f : Nat → va_E} (hT : q_Ty g K L f) (d0 : Nat → Nat) (s0 : tw_S) (A9 : Nat → Nat → Nat) (D9 : Nat → Nat → Nat) (S9 : Nat → tw_S) (hist : Nat) (hhist : hist ∈ L) (khist : K hist = 2) (v0 : Nat) (hv0 : v0 ∈ L) (kv0 : K v0 = 10) (n0 : Nat) (hn0 : n0 ∈ L) (kn0 : K n0 = 110) (l0 : Nat) (hl0 : l0 ∈ L) (kl0 : K l0 = 120) (m0 : Nat) (hm0 : m0 ∈ L) (km0 : K m0 = 130) (ka : Nat) (hka : ka ∈ L) (kka : K ka = 218) (tm : Int) (ltm : 0 ≤ tm) (utm : tm ≤ 9000) (nn : Int) (lnn : 0 ≤ nn) (unn : nn ≤ 10) (ln : Int) (lln : 0 ≤ ln) (uln : ln ≤ 16) (mn : Int) (lmn : 0 ≤ mn) (umn : mn ≤ 61) (my : Int) (lmy : 0 ≤ my) (umy : my ≤ 6) (hf0 : q_is (q_z f v0 11) tm) (hf1 : q_is (q_z f v0 3) nn) (hf2 : q_is (q_z f v0 4) ln) (hf3 : q_is (q_z f v0 5) mn) (hf4 : q_is (q_z f hist 1) 1) (hf5 : q_is (q_z f hist 2) my) (hr0 : q_ir (q_r f hist 0) ka) (hr1 : q_ir (q_r f v0 0) n0) (hr2 : q_ir (q_r f v0 1) l0) (hr3 : q_ir (q_r f v0 2) m0) (hw0 : tw_vw K L 10 5 3 4 f v0 n0 l0 m0 d0 s0) (hz0 : tw_nw K L 5 f) (hhk : tw_hk K L f ka A9 D9 S9) : q_Ct l g K L yX2_keep cX2_keep 2 none 2 43 [.ref hist, .ref v0] f [(2, 1, 2), (51, 3, 12), (57, 0, 8), (63, 0, 4), (69, 0, 7)] (q_Pv (fun (f1 : Nat → va_E) => q_is (q_z f1 hist 1) 2 ∧ (q_is (q_z f1 hist 2) (min 6 (my + 1))) ∧ (tw_hk K L f1 ka A9 D9 (tw_hu S9 1 (tw_cp (S9 1) s0))))) := by
  refine q_ofb (by decide +kernel) hN hT (Nat.le_of_ble_eq_true rfl) ?_
  intro p e s m below meth c ls cx hr hlk hB hl
  have hl : lv_has ls 2 [(0, .ref hist), (1, .ref v0)] := hl
  obtain ⟨H, hH⟩ : ∃ H : Heap, H = s.heap := ⟨_, rfl⟩
  obtain ⟨locs, hlocs⟩ : ∃ z : List Loc, z = [] := ⟨_, rfl⟩
  rw [← hH, ← hlocs] at hB
  rw [← hH, ← hlocs]
  refine q_ald_n cx dX2_keep_0 rfl (lv_at hl 0 rfl) ?_
  refine q_gX2_20 cx hB hhist khist hf4 dX2_keep_1 (fun lb66 ub66 => ?_)
  refine q_iflt (tgt := 19) cx ⟨by decide, by decide⟩ dX2_keep_4 (by decide) (fun c67 => ?_) (fun c67 => ?_)
  · exact absurd c67 (by omega)
  · refine q_ald_n cx dX2_keep_7 rfl (lv_at hl 0 rfl) ?_
    refine q_gX2_20 cx hB hhist khist hf4 dX2_keep_8 (fun lb68 ub68 => ?_)
    refine q_ald_n cx dX2_keep_11 rfl (lv_at hl 0 rfl) ?_
    refine q_gX2_11 cx hB hhist khist hr0 dX2_keep_12 (fun hb69 kb69 => ?_)
    refine q_alen (n := 6) cx hB hka kka (by decide) rfl 8 rfl rfl dX2_keep_15 ?_
    refine q_iclt (tgt := 24) cx ⟨by decide, by decide⟩ ⟨by decide, by decide⟩ dX2_keep_16 (by decide) (fun c70 => ?_) (fun c70 => ?_)
    · obtain ⟨d5, v5, n5, l5, m5, ed9, ⟨hv5, kv5⟩, ⟨hn5, kn5⟩, ⟨hl5, kl5⟩, ⟨hm5, km5⟩, ⟨er0, er1, er2, er3⟩, hw9, hz9⟩ := tw_hk_get hhk 1 (by decide)
      have kv5 : K v5 = 51 := kv5
      have kn5 : K n5 = 201 := kn5
      have kl5 : K l5 = 207 := kl5
      have km5 : K m5 = 213 := km5
      have hw9 : tw_vw K L 51 57 63 69 f v5 n5 l5 m5 d5 (S9 1) := hw9
      have hz9 : tw_nw K L 57 f := hz9
      refine q_ald_n cx dX2_keep_24 rfl (lv_at hl 0 rfl) ?_
      refine q_gX2_11 cx hB hhist khist hr0 dX2_keep_25 (fun hb71 kb71 => ?_)
      refine q_ald_n cx dX2_keep_28 rfl (lv_at hl 0 rfl) ?_
      refine q_gX2_20 cx hB hhist khist hf4 dX2_keep_29 (fun lb72 ub72 => ?_)
      refine q_aald (k2 := 51) (n := 6) cx hB hka kka (by decide) rfl 8 rfl (by decide) rfl (by decide) (by decide) (by decide) rfl er0 dX2_keep_32 (fun hb74 kb74 => ?_)
      refine q_ald_n cx dX2_keep_33 rfl (lv_at hl 1 rfl) ?_
      refine q_cVv (As := [.ref v0]) (rest := []) cx hB (fun _ h => h) hN hv5 kv5 (by decide) rfl (f_vcopy50 l g hN hB.2.1 d5 (S9 1) d0 s0 v5 hv5 kv5 v0 hv0 kv0 n5 hn5 kn5 l5 hl5 kl5 m5 hm5 km5 n0 hn0 kn0 l0 hl0 kl0 m0 hm0 km0 nn (by omega) (by omega) ln (by omega) (by omega) mn (by omega) (by omega) tm (by omega) (by omega) hf1 hf2 hf3 hf0 er1 er2 er3 hr1 hr2 hr3 hw9 hw0 hz9 hz0) q_cX2_23 q_dX10_copyFrom (by decide) rfl rfl hl.1 rfl (Nat.le_of_ble_eq_true rfl) dX2_keep_34 (fun H locs f75 h77 hF hB => ?_)
      obtain ⟨z78, z79, z80, z81, g82, g83⟩ := h77
      have z84 : q_is (q_z f75 v0 11) tm := Eq.trans (hF.z hv0 (by rw [kv0]; rfl)) hf0
      have z85 : q_is (q_z f75 v0 3) nn := Eq.trans (hF.z hv0 (by rw [kv0]; rfl)) hf1
      have z86 : q_is (q_z f75 v0 4) ln := Eq.trans (hF.z hv0 (by rw [kv0]; rfl)) hf2
      have z87 : q_is (q_z f75 v0 5) mn := Eq.trans (hF.z hv0 (by rw [kv0]; rfl)) hf3
      have z88 : q_is (q_z f75 hist 1) 1 := Eq.trans (hF.z hhist (by rw [khist]; rfl)) hf4
      have z89 : q_is (q_z f75 hist 2) my := Eq.trans (hF.z hhist (by rw [khist]; rfl)) hf5
      have z90 : q_ir (q_r f75 hist 0) ka := Eq.trans (hF.r hhist (by rw [khist]; rfl)) hr0
      have z91 : q_ir (q_r f75 v0 0) n0 := Eq.trans (hF.r hv0 (by rw [kv0]; rfl)) hr1
      have z92 : q_ir (q_r f75 v0 1) l0 := Eq.trans (hF.r hv0 (by rw [kv0]; rfl)) hr2
      have z93 : q_ir (q_r f75 v0 2) m0 := Eq.trans (hF.r hv0 (by rw [kv0]; rfl)) hr3
      have z94 : q_ir (q_r f75 ka 1) v5 := Eq.trans (hF.r hka (by rw [kka]; rfl)) er0
      have z95 : q_ir (q_r f75 v5 0) n5 := Eq.trans (hF.r hv5 (by rw [kv5]; rfl)) er1
      have z96 : q_ir (q_r f75 v5 1) l5 := Eq.trans (hF.r hv5 (by rw [kv5]; rfl)) er2
      have z97 : q_ir (q_r f75 v5 2) m5 := Eq.trans (hF.r hv5 (by rw [kv5]; rfl)) er3
      have g98 : tw_vw K L 10 5 3 4 f75 v0 n0 l0 m0 d0 s0 := tw_vw_tr hw0 (fun a9 h9 k9 c9 => hF.z h9 (by rw [k9]; rfl)) (fun a9 h9 k9 c9 => hF.z h9 (by rw [k9]; rfl)) (fun a9 h9 k9 c9 => hF.z h9 (by rw [k9]; rfl)) (fun a9 h9 k9 c9 => hF.z h9 (by rw [k9]; rfl)) (fun i9 => hF.r hn0 (by rw [kn0]; rfl)) (fun i9 => hF.r hl0 (by rw [kl0]; rfl)) (fun i9 => hF.r hm0 (by rw [km0]; rfl))
      have g99 : tw_nw K L 5 f75 := tw_nw_tr hz0 (fun a9 h9 k9 => hF.j h9 (by rw [k9]; rfl))
      have hk9 : tw_hk K L f75 ka A9 D9 (tw_hu S9 1 (tw_cp (S9 1) s0)) := tw_hk_up hhk 1 (by decide) hF rfl ed9 g82 g83
      refine q_ald_n cx dX2_keep_37 rfl (lv_at hl 0 rfl) ?_
      refine lv_dup cx.1 cx.2.1 dX2_keep_38 rfl ?_
      refine q_gX2_20 cx hB hhist khist z88 dX2_keep_39 (fun lb100 ub100 => ?_)
      refine q_iconst cx dX2_keep_42 ?_
      refine q_iadd cx dX2_keep_43 ?_
      refine q_pX2_20 cx hB hhist khist ⟨by decide, by decide⟩ (by decide) (by decide) rfl dX2_keep_44 (fun H locs f101 ef101 z102 hB => ?_)
      have z103 : q_is (q_z f101 v0 11) tm := by rw [ef101, q_setz (Or.inr (by decide))]; exact z84
      have z104 : q_is (q_z f101 v0 3) nn := by rw [ef101, q_setz (Or.inr (by decide))]; exact z85
      have z105 : q_is (q_z f101 v0 4) ln := by rw [ef101, q_setz (Or.inr (by decide))]; exact z86
      have z106 : q_is (q_z f101 v0 5) mn := by rw [ef101, q_setz (Or.inr (by decide))]; exact z87
      have z107 : q_is (q_z f101 hist 2) my := by rw [ef101, q_setz (Or.inr (by decide))]; exact z89
      have z108 : q_ir (q_r f101 hist 0) ka := by rw [ef101, q_setr (Or.inr (by decide))]; exact z90
      have z109 : q_ir (q_r f101 v0 0) n0 := by rw [ef101, q_setr (Or.inr (by decide))]; exact z91
      have z110 : q_ir (q_r f101 v0 1) l0 := by rw [ef101, q_setr (Or.inl (fun q => by rw [q, khist] at kv0; exact absurd kv0 (by decide)))]; exact z92
      have z111 : q_ir (q_r f101 v0 2) m0 := by rw [ef101, q_setr (Or.inr (by decide))]; exact z93
      have g112 : tw_vw K L 10 5 3 4 f101 v0 n0 l0 m0 d0 s0 := tw_vw_tr g98 (fun a9 h9 k9 c9 => by rw [ef101, q_setz (Or.inl (fun q => by rw [q, khist] at k9; exact absurd k9 (by decide)))]) (fun a9 h9 k9 c9 => by rw [ef101, q_setz (Or.inl (fun q => by rw [q, khist] at k9; exact absurd k9 (by decide)))]) (fun a9 h9 k9 c9 => by rw [ef101, q_setz (Or.inl (fun q => by rw [q, khist] at k9; exact absurd k9 (by decide)))]) (fun a9 h9 k9 c9 => by rw [ef101, q_setz (Or.inl (fun q => by rw [q, khist] at k9; exact absurd k9 (by decide)))]) (fun i9 => by rw [ef101, q_setr (Or.inl (fun q => by rw [q, khist] at kn0; exact absurd kn0 (by decide)))]) (fun i9 => by rw [ef101, q_setr (Or.inl (fun q => by rw [q, khist] at kl0; exact absurd kl0 (by decide)))]) (fun i9 => by rw [ef101, q_setr (Or.inl (fun q => by rw [q, khist] at km0; exact absurd km0 (by decide)))])
      have g113 : tw_nw K L 5 f101 := tw_nw_tr g99 (fun a9 h9 k9 => by rw [ef101, q_setj (Or.inl (fun q => by rw [q, khist] at k9; exact absurd k9 (by decide)))])
      have g114 : tw_hk K L f101 ka A9 D9 (tw_hu S9 1 (tw_cp (S9 1) s0)) := tw_hk_tr hk9 (fun a9 h9 k9 i9 => by rw [ef101]; exact q_set_ne (Or.inl (fun q => by rw [q, khist] at k9; exact absurd k9 (by decide))))
      refine q_ald_n cx dX2_keep_47 rfl (lv_at hl 0 rfl) ?_
      refine q_bipush cx dX2_keep_48 rfl ?_
      refine q_ald_n cx dX2_keep_50 rfl (lv_at hl 0 rfl) ?_
      refine q_gX2_16 cx hB hhist khist z107 dX2_keep_51 (fun lb115 ub115 => ?_)
      refine q_iconst cx dX2_keep_54 ?_
      refine q_iadd cx dX2_keep_55 ?_
      refine q_mmin (rest := [.ref hist]) cx hl.1 q_h1383 q_h994 q_h56 q_h995 (by decide) (Nat.le_of_ble_eq_true rfl) (by decide) (by decide) ⟨by decide, by decide⟩ ⟨by omega, by omega⟩ dX2_keep_56 (fun y116 ay116 by116 ey116 => ?_)
      refine q_pX2_16 cx hB hhist khist ⟨by omega, by omega⟩ (by omega) (by omega) rfl dX2_keep_59 (fun H locs f117 ef117 z118 hB => ?_)
      have z119 : q_is (q_z f117 v0 11) tm := by rw [ef117, q_setz (Or.inr (by decide))]; exact z103
      have z120 : q_is (q_z f117 v0 3) nn := by rw [ef117, q_setz (Or.inr (by decide))]; exact z104
      have z121 : q_is (q_z f117 v0 4) ln := by rw [ef117, q_setz (Or.inr (by decide))]; exact z105
      have z122 : q_is (q_z f117 v0 5) mn := by rw [ef117, q_setz (Or.inr (by decide))]; exact z106
      have z123 : q_is (q_z f117 hist 1) (1 + 1) := by rw [ef117, q_setz (Or.inr (by decide))]; exact z102
      have z124 : q_ir (q_r f117 hist 0) ka := by rw [ef117, q_setr (Or.inr (by decide))]; exact z108
      have z125 : q_ir (q_r f117 v0 0) n0 := by rw [ef117, q_setr (Or.inr (by decide))]; exact z109
      have z126 : q_ir (q_r f117 v0 1) l0 := by rw [ef117, q_setr (Or.inr (by decide))]; exact z110
      have z127 : q_ir (q_r f117 v0 2) m0 := by rw [ef117, q_setr (Or.inl (fun q => by rw [q, khist] at kv0; exact absurd kv0 (by decide)))]; exact z111
      have g128 : tw_vw K L 10 5 3 4 f117 v0 n0 l0 m0 d0 s0 := tw_vw_tr g112 (fun a9 h9 k9 c9 => by rw [ef117, q_setz (Or.inl (fun q => by rw [q, khist] at k9; exact absurd k9 (by decide)))]) (fun a9 h9 k9 c9 => by rw [ef117, q_setz (Or.inl (fun q => by rw [q, khist] at k9; exact absurd k9 (by decide)))]) (fun a9 h9 k9 c9 => by rw [ef117, q_setz (Or.inl (fun q => by rw [q, khist] at k9; exact absurd k9 (by decide)))]) (fun a9 h9 k9 c9 => by rw [ef117, q_setz (Or.inl (fun q => by rw [q, khist] at k9; exact absurd k9 (by decide)))]) (fun i9 => by rw [ef117, q_setr (Or.inl (fun q => by rw [q, khist] at kn0; exact absurd kn0 (by decide)))]) (fun i9 => by rw [ef117, q_setr (Or.inl (fun q => by rw [q, khist] at kl0; exact absurd kl0 (by decide)))]) (fun i9 => by rw [ef117, q_setr (Or.inl (fun q => by rw [q, khist] at km0; exact absurd km0 (by decide)))])
      have g129 : tw_nw K L 5 f117 := tw_nw_tr g113 (fun a9 h9 k9 => by rw [ef117, q_setj (Or.inl (fun q => by rw [q, khist] at k9; exact absurd k9 (by decide)))])
      have g130 : tw_hk K L f117 ka A9 D9 (tw_hu S9 1 (tw_cp (S9 1) s0)) := tw_hk_tr g114 (fun a9 h9 k9 i9 => by rw [ef117]; exact q_set_ne (Or.inl (fun q => by rw [q, khist] at k9; exact absurd k9 (by decide))))
      refine q_vret cx hr hlk hB dX2_keep_62 ?_
      exact ⟨(Eq.trans z123 (by omega)), (Eq.trans z118 (by omega)), g130⟩
    · exact absurd c70 (by omega)
set_option maxHeartbeats 4000000 in
set_option maxRecDepth 100000 in
theorem f_takeBack_1 (l : Launch) (g : q_G) {K : Nat → Nat} {L : List Nat} (hN : L.Nodup) {f : Nat → va_E} (hT : q_Ty g K L f) (d0 : Nat → Nat) (s0 : tw_S) (A9 : Nat → Nat → Nat) (D9 : Nat → Nat → Nat) (S9 : Nat → tw_S) (hist : Nat) (hhist : hist ∈ L) (khist : K hist = 2) (v0 : Nat) (hv0 : v0 ∈ L) (kv0 : K v0 = 10) (n0 : Nat) (hn0 : n0 ∈ L) (kn0 : K n0 = 110) (l0 : Nat) (hl0 : l0 ∈ L) (kl0 : K l0 = 120) (m0 : Nat) (hm0 : m0 ∈ L) (km0 : K m0 = 130) (ka : Nat) (hka : ka ∈ L) (kka : K ka = 218) (tm : Int) (ltm : 0 ≤ tm) (utm : tm ≤ 9000) (nn : Int) (lnn : 0 ≤ nn) (unn : nn ≤ 10) (ln : Int) (lln : 0 ≤ ln) (uln : ln ≤ 16) (mn : Int) (lmn : 0 ≤ mn) (umn : mn ≤ 61) (my : Int) (lmy : 1 ≤ my) (umy : my ≤ 6) (tk : Int) (ltk : 0 ≤ tk) (utk : tk ≤ 9000) (nk : Int) (lnk : 0 ≤ nk) (unk : nk ≤ 10) (lk : Int) (llk : 0 ≤ lk) (ulk : lk ≤ 16) (mk : Int) (lmk : 0 ≤ mk) (umk : mk ≤ 61) (hf0 : q_is (q_z f v0 11) tm) (hf1 : q_is (q_z f v0 3) nn) (hf2 : q_is (q_z f v0 4) ln) (hf3 : q_is (q_z f v0 5) mn) (hf4 : q_is (q_z f hist 1) 1) (hf5 : q_is (q_z f hist 2) my) (hr0 : q_ir (q_r f hist 0) ka) (hr1 : q_ir (q_r f v0 0) n0) (hr2 : q_ir (q_r f v0 1) l0) (hr3 : q_ir (q_r f v0 2) m0) (hp0 : (S9 0) 0 11 = tk) (hp1 : (S9 0) 0 3 = nk) (hp2 : (S9 0) 0 4 = lk) (hp3 : (S9 0) 0 5 = mk) (hw0 : tw_vw K L 10 5 3 4 f v0 n0 l0 m0 d0 s0) (hz0 : tw_nw K L 5 f) (hhk : tw_hk K L f ka A9 D9 S9) : q_Ct l g K L yX2_takeBack cX2_takeBack 2 (some .boolean) 2 43 [.ref hist, .ref v0] f [(2, 1, 2), (3, 0, 4), (4, 0, 7), (5, 0, 8), (10, 3, 12)] (q_Pi (fun (z : Int) (f1 : Nat → va_E) => z = 1 ∧ q_is (q_z f1 hist 1) 0 ∧ q_is (q_z f1 hist 2) (my - 1) ∧ q_is (q_z f1 v0 11) tk ∧ q_is (q_z f1 v0 3) nk ∧ q_is (q_z f1 v0 4) lk ∧ q_is (q_z f1 v0 5) mk ∧ (tw_vw K L 10 5 3 4 f1 v0 n0 l0 m0 d0 (tw_cp s0 (S9 0))) ∧ (tw_nw K L 5 f1) ∧ (tw_hk K L f1 ka A9 D9 S9))) := by
  refine q_ofb (by decide +kernel) hN hT (Nat.le_of_ble_eq_true rfl) ?_
  intro p e s m below meth c ls cx hr hlk hB hl
  have hl : lv_has ls 2 [(0, .ref hist), (1, .ref v0)] := hl
  obtain ⟨H, hH⟩ : ∃ H : Heap, H = s.heap := ⟨_, rfl⟩
  obtain ⟨locs, hlocs⟩ : ∃ z : List Loc, z = [] := ⟨_, rfl⟩
  rw [← hH, ← hlocs] at hB
  rw [← hH, ← hlocs]
  refine q_ald_n cx dX2_takeBack_0 rfl (lv_at hl 0 rfl) ?_
  refine q_gX2_16 cx hB hhist khist hf5 dX2_takeBack_1 (fun lb82 ub82 => ?_)
  refine q_ifne (tgt := 9) cx ⟨by omega, by omega⟩ dX2_takeBack_4 (by decide) (fun c83 => ?_) (fun c83 => ?_)
  · refine q_ald_n cx dX2_takeBack_9 rfl (lv_at hl 0 rfl) ?_
    refine q_ald_n cx dX2_takeBack_10 rfl (lv_at hl 0 rfl) ?_
    refine q_gX2_20 cx hB hhist khist hf4 dX2_takeBack_11 (fun lb84 ub84 => ?_)
    refine q_ifle (tgt := 38) cx ⟨by decide, by decide⟩ dX2_takeBack_14 (by decide) (fun c85 => ?_) (fun c85 => ?_)
    · exact absurd c85 (by omega)
    · refine q_ald_n cx dX2_takeBack_17 rfl (lv_at hl 0 rfl) ?_
      refine q_gX2_20 cx hB hhist khist hf4 dX2_takeBack_18 (fun lb86 ub86 => ?_)
      refine q_ald_n cx dX2_takeBack_21 rfl (lv_at hl 0 rfl) ?_
      refine q_gX2_11 cx hB hhist khist hr0 dX2_takeBack_22 (fun hb87 kb87 => ?_)
      refine q_alen (n := 6) cx hB hka kka (by decide) rfl 8 rfl rfl dX2_takeBack_25 ?_
      refine q_icgt (tgt := 38) cx ⟨by decide, by decide⟩ ⟨by decide, by decide⟩ dX2_takeBack_26 (by decide) (fun c88 => ?_) (fun c88 => ?_)
      · exact absurd c88 (by omega)
      · refine q_ald_n cx dX2_takeBack_29 rfl (lv_at hl 0 rfl) ?_
        refine q_gX2_20 cx hB hhist khist hf4 dX2_takeBack_30 (fun lb89 ub89 => ?_)
        refine q_iconst cx dX2_takeBack_33 ?_
        refine q_isub cx dX2_takeBack_34 ?_
        refine lv_goto (tgt := 45) cx.1 cx.2.1 dX2_takeBack_35 (by decide) ?_
        refine q_pX2_20 cx hB hhist khist ⟨by decide, by decide⟩ (by decide) (by decide) rfl dX2_takeBack_45 (fun H locs f90 ef90 z91 hB => ?_)
        have z92 : q_is (q_z f90 v0 11) tm := by rw [ef90, q_setz (Or.inr (by decide))]; exact hf0
        have z93 : q_is (q_z f90 v0 3) nn := by rw [ef90, q_setz (Or.inr (by decide))]; exact hf1
        have z94 : q_is (q_z f90 v0 4) ln := by rw [ef90, q_setz (Or.inr (by decide))]; exact hf2
        have z95 : q_is (q_z f90 v0 5) mn := by rw [ef90, q_setz (Or.inr (by decide))]; exact hf3
        have z96 : q_is (q_z f90 hist 2) my := by rw [ef90, q_setz (Or.inr (by decide))]; exact hf5
        have z97 : q_ir (q_r f90 hist 0) ka := by rw [ef90, q_setr (Or.inr (by decide))]; exact hr0
        have z98 : q_ir (q_r f90 v0 0) n0 := by rw [ef90, q_setr (Or.inr (by decide))]; exact hr1
        have z99 : q_ir (q_r f90 v0 1) l0 := by rw [ef90, q_setr (Or.inl (fun q => by rw [q, khist] at kv0; exact absurd kv0 (by decide)))]; exact hr2
        have z100 : q_ir (q_r f90 v0 2) m0 := by rw [ef90, q_setr (Or.inr (by decide))]; exact hr3
        have g101 : tw_vw K L 10 5 3 4 f90 v0 n0 l0 m0 d0 s0 := tw_vw_tr hw0 (fun a9 h9 k9 c9 => by rw [ef90, q_setz (Or.inl (fun q => by rw [q, khist] at k9; exact absurd k9 (by decide)))]) (fun a9 h9 k9 c9 => by rw [ef90, q_setz (Or.inl (fun q => by rw [q, khist] at k9; exact absurd k9 (by decide)))]) (fun a9 h9 k9 c9 => by rw [ef90, q_setz (Or.inl (fun q => by rw [q, khist] at k9; exact absurd k9 (by decide)))]) (fun a9 h9 k9 c9 => by rw [ef90, q_setz (Or.inl (fun q => by rw [q, khist] at k9; exact absurd k9 (by decide)))]) (fun i9 => by rw [ef90, q_setr (Or.inl (fun q => by rw [q, khist] at kn0; exact absurd kn0 (by decide)))]) (fun i9 => by rw [ef90, q_setr (Or.inl (fun q => by rw [q, khist] at kl0; exact absurd kl0 (by decide)))]) (fun i9 => by rw [ef90, q_setr (Or.inl (fun q => by rw [q, khist] at km0; exact absurd km0 (by decide)))])
        have g102 : tw_nw K L 5 f90 := tw_nw_tr hz0 (fun a9 h9 k9 => by rw [ef90, q_setj (Or.inl (fun q => by rw [q, khist] at k9; exact absurd k9 (by decide)))])
        have g103 : tw_hk K L f90 ka A9 D9 S9 := tw_hk_tr hhk (fun a9 h9 k9 i9 => by rw [ef90]; exact q_set_ne (Or.inl (fun q => by rw [q, khist] at k9; exact absurd k9 (by decide))))
        obtain ⟨d4, v4, n4, l4, m4, ed9, ⟨hv4, kv4⟩, ⟨hn4, kn4⟩, ⟨hl4, kl4⟩, ⟨hm4, km4⟩, ⟨er0, er1, er2, er3⟩, hw9, hz9⟩ := tw_hk_get g103 0 (by decide)
        have kv4 : K v4 = 50 := kv4
        have kn4 : K n4 = 200 := kn4
        have kl4 : K l4 = 206 := kl4
        have km4 : K m4 = 212 := km4
        have hw9 : tw_vw K L 50 56 62 68 f90 v4 n4 l4 m4 d4 (S9 0) := hw9
        have hz9 : tw_nw K L 56 f90 := hz9
        have z104 : q_is (q_z f90 v4 11) tk := tw_kf hw9 (by decide) hp0
        have z105 : q_is (q_z f90 v4 3) nk := tw_kf hw9 (by decide) hp1
        have z106 : q_is (q_z f90 v4 4) lk := tw_kf hw9 (by decide) hp2
        have z107 : q_is (q_z f90 v4 5) mk := tw_kf hw9 (by decide) hp3
        refine q_ald_n cx dX2_takeBack_48 rfl (lv_at hl 1 rfl) ?_
        refine q_ald_n cx dX2_takeBack_49 rfl (lv_at hl 0 rfl) ?_
        refine q_gX2_11 cx hB hhist khist z97 dX2_takeBack_50 (fun hb108 kb108 => ?_)
        refine q_ald_n cx dX2_takeBack_53 rfl (lv_at hl 0 rfl) ?_
        refine q_gX2_20 cx hB hhist khist z91 dX2_takeBack_54 (fun lb109 ub109 => ?_)
        refine q_aald (k2 := 50) (n := 6) cx hB hka kka (by decide) rfl 8 rfl (by decide) rfl (by decide) (by decide) (by decide) rfl er0 dX2_takeBack_57 (fun hb111 kb111 => ?_)
        refine q_cVv (As := [.ref v4]) (rest := []) cx hB (fun _ h => h) hN hv0 kv0 (by decide) rfl (f_vcopy04 l g hN hB.2.1 d0 s0 d4 (S9 0) v0 hv0 kv0 v4 hv4 kv4 n0 hn0 kn0 l0 hl0 kl0 m0 hm0 km0 n4 hn4 kn4 l4 hl4 kl4 m4 hm4 km4 nk (by omega) (by omega) lk (by omega) (by omega) mk (by omega) (by omega) tk (by omega) (by omega) z105 z106 z107 z104 z98 z99 z100 er1 er2 er3 g101 hw9 g102 hz9) q_cX2_23 q_dX10_copyFrom (by decide) rfl rfl hl.1 rfl (Nat.le_of_ble_eq_true rfl) dX2_takeBack_58 (fun H locs f112 h114 hF hB => ?_)
        obtain ⟨z115, z116, z117, z118, g119, g120⟩ := h114
        have z121 : q_is (q_z f112 hist 2) my := Eq.trans (hF.z hhist (by rw [khist]; rfl)) z96
        have z122 : q_is (q_z f112 hist 1) (1 - 1) := Eq.trans (hF.z hhist (by rw [khist]; rfl)) z91
        have z123 : q_is (q_z f112 v4 11) tk := Eq.trans (hF.z hv4 (by rw [kv4]; rfl)) z104
        have z124 : q_is (q_z f112 v4 3) nk := Eq.trans (hF.z hv4 (by rw [kv4]; rfl)) z105
        have z125 : q_is (q_z f112 v4 4) lk := Eq.trans (hF.z hv4 (by rw [kv4]; rfl)) z106
        have z126 : q_is (q_z f112 v4 5) mk := Eq.trans (hF.z hv4 (by rw [kv4]; rfl)) z107
        have z127 : q_ir (q_r f112 hist 0) ka := Eq.trans (hF.r hhist (by rw [khist]; rfl)) z97
        have z128 : q_ir (q_r f112 v0 0) n0 := Eq.trans (hF.r hv0 (by rw [kv0]; rfl)) z98
        have z129 : q_ir (q_r f112 v0 1) l0 := Eq.trans (hF.r hv0 (by rw [kv0]; rfl)) z99
        have z130 : q_ir (q_r f112 v0 2) m0 := Eq.trans (hF.r hv0 (by rw [kv0]; rfl)) z100
        have z131 : q_ir (q_r f112 ka 0) v4 := Eq.trans (hF.r hka (by rw [kka]; rfl)) er0
        have z132 : q_ir (q_r f112 v4 0) n4 := Eq.trans (hF.r hv4 (by rw [kv4]; rfl)) er1
        have z133 : q_ir (q_r f112 v4 1) l4 := Eq.trans (hF.r hv4 (by rw [kv4]; rfl)) er2
        have z134 : q_ir (q_r f112 v4 2) m4 := Eq.trans (hF.r hv4 (by rw [kv4]; rfl)) er3
        have g135 : tw_hk K L f112 ka A9 D9 S9 := tw_hk_tr g103 (fun a9 h9 k9 i9 => hF a9 h9 i9 (tw_krw rfl k9))
        have g136 : tw_vw K L 50 56 62 68 f112 v4 n4 l4 m4 d4 (S9 0) := tw_vw_tr hw9 (fun a9 h9 k9 c9 => hF.z h9 (by rw [k9]; rfl)) (fun a9 h9 k9 c9 => hF.z h9 (by rw [k9]; rfl)) (fun a9 h9 k9 c9 => hF.z h9 (by rw [k9]; rfl)) (fun a9 h9 k9 c9 => hF.z h9 (by rw [k9]; rfl)) (fun i9 => hF.r hn4 (by rw [kn4]; rfl)) (fun i9 => hF.r hl4 (by rw [kl4]; rfl)) (fun i9 => hF.r hm4 (by rw [km4]; rfl))
        have g137 : tw_nw K L 56 f112 := tw_nw_tr hz9 (fun a9 h9 k9 => hF.j h9 (by rw [k9]; rfl))
        refine q_ald_n cx dX2_takeBack_61 rfl (lv_at hl 0 rfl) ?_
        refine lv_dup cx.1 cx.2.1 dX2_takeBack_62 rfl ?_
        refine q_gX2_16 cx hB hhist khist z121 dX2_takeBack_63 (fun lb138 ub138 => ?_)
        refine q_iconst cx dX2_takeBack_66 ?_
        refine q_isub cx dX2_takeBack_67 ?_
        refine q_pX2_16 cx hB hhist khist ⟨by omega, by omega⟩ (by omega) (by omega) rfl dX2_takeBack_68 (fun H locs f139 ef139 z140 hB => ?_)
        have z141 : q_is (q_z f139 hist 1) (1 - 1) := by rw [ef139, q_setz (Or.inr (by decide))]; exact z122
        have z142 : q_is (q_z f139 v4 11) tk := by rw [ef139, q_setz (Or.inr (by decide))]; exact z123
        have z143 : q_is (q_z f139 v4 3) nk := by rw [ef139, q_setz (Or.inr (by decide))]; exact z124
        have z144 : q_is (q_z f139 v4 4) lk := by rw [ef139, q_setz (Or.inr (by decide))]; exact z125
        have z145 : q_is (q_z f139 v4 5) mk := by rw [ef139, q_setz (Or.inr (by decide))]; exact z126
        have z146 : q_is (q_z f139 v0 3) nk := by rw [ef139, q_setz (Or.inr (by decide))]; exact z115
        have z147 : q_is (q_z f139 v0 4) lk := by rw [ef139, q_setz (Or.inr (by decide))]; exact z116
        have z148 : q_is (q_z f139 v0 5) mk := by rw [ef139, q_setz (Or.inr (by decide))]; exact z117
        have z149 : q_is (q_z f139 v0 11) tk := by rw [ef139, q_setz (Or.inr (by decide))]; exact z118
        have z150 : q_ir (q_r f139 hist 0) ka := by rw [ef139, q_setr (Or.inr (by decide))]; exact z127
        have z151 : q_ir (q_r f139 v0 0) n0 := by rw [ef139, q_setr (Or.inr (by decide))]; exact z128
        have z152 : q_ir (q_r f139 v0 1) l0 := by rw [ef139, q_setr (Or.inr (by decide))]; exact z129
        have z153 : q_ir (q_r f139 v0 2) m0 := by rw [ef139, q_setr (Or.inl (fun q => by rw [q, khist] at kv0; exact absurd kv0 (by decide)))]; exact z130
        have z154 : q_ir (q_r f139 ka 0) v4 := by rw [ef139, q_setr (Or.inr (by decide))]; exact z131
        have z155 : q_ir (q_r f139 v4 0) n4 := by rw [ef139, q_setr (Or.inr (by decide))]; exact z132
        have z156 : q_ir (q_r f139 v4 1) l4 := by rw [ef139, q_setr (Or.inr (by decide))]; exact z133
        have z157 : q_ir (q_r f139 v4 2) m4 := by rw [ef139, q_setr (Or.inl (fun q => by rw [q, khist] at kv4; exact absurd kv4 (by decide)))]; exact z134
        have g158 : tw_hk K L f139 ka A9 D9 S9 := tw_hk_tr g135 (fun a9 h9 k9 i9 => by rw [ef139]; exact q_set_ne (Or.inl (fun q => by rw [q, khist] at k9; exact absurd k9 (by decide))))
        have g159 : tw_vw K L 50 56 62 68 f139 v4 n4 l4 m4 d4 (S9 0) := tw_vw_tr g136 (fun a9 h9 k9 c9 => by rw [ef139, q_setz (Or.inl (fun q => by rw [q, khist] at k9; exact absurd k9 (by decide)))]) (fun a9 h9 k9 c9 => by rw [ef139, q_setz (Or.inl (fun q => by rw [q, khist] at k9; exact absurd k9 (by decide)))]) (fun a9 h9 k9 c9 => by rw [ef139, q_setz (Or.inl (fun q => by rw [q, khist] at k9; exact absurd k9 (by decide)))]) (fun a9 h9 k9 c9 => by rw [ef139, q_setz (Or.inl (fun q => by rw [q, khist] at k9; exact absurd k9 (by decide)))]) (fun i9 => by rw [ef139, q_setr (Or.inl (fun q => by rw [q, khist] at kn4; exact absurd kn4 (by decide)))]) (fun i9 => by rw [ef139, q_setr (Or.inl (fun q => by rw [q, khist] at kl4; exact absurd kl4 (by decide)))]) (fun i9 => by rw [ef139, q_setr (Or.inl (fun q => by rw [q, khist] at km4; exact absurd km4 (by decide)))])
        have g160 : tw_nw K L 56 f139 := tw_nw_tr g137 (fun a9 h9 k9 => by rw [ef139, q_setj (Or.inl (fun q => by rw [q, khist] at k9; exact absurd k9 (by decide)))])
        have g161 : tw_vw K L 10 5 3 4 f139 v0 n0 l0 m0 d0 (tw_cp s0 (S9 0)) := tw_vw_tr g119 (fun a9 h9 k9 c9 => by rw [ef139, q_setz (Or.inl (fun q => by rw [q, khist] at k9; exact absurd k9 (by decide)))]) (fun a9 h9 k9 c9 => by rw [ef139, q_setz (Or.inl (fun q => by rw [q, khist] at k9; exact absurd k9 (by decide)))]) (fun a9 h9 k9 c9 => by rw [ef139, q_setz (Or.inl (fun q => by rw [q, khist] at k9; exact absurd k9 (by decide)))]) (fun a9 h9 k9 c9 => by rw [ef139, q_setz (Or.inl (fun q => by rw [q, khist] at k9; exact absurd k9 (by decide)))]) (fun i9 => by rw [ef139, q_setr (Or.inl (fun q => by rw [q, khist] at kn0; exact absurd kn0 (by decide)))]) (fun i9 => by rw [ef139, q_setr (Or.inl (fun q => by rw [q, khist] at kl0; exact absurd kl0 (by decide)))]) (fun i9 => by rw [ef139, q_setr (Or.inl (fun q => by rw [q, khist] at km0; exact absurd km0 (by decide)))])
        have g162 : tw_nw K L 5 f139 := tw_nw_tr g120 (fun a9 h9 k9 => by rw [ef139, q_setj (Or.inl (fun q => by rw [q, khist] at k9; exact absurd k9 (by decide)))])
        refine q_iconst cx dX2_takeBack_71 ?_
        refine q_zret cx hr hlk hB dX2_takeBack_72 (by decide) (by decide) ?_
        exact ⟨rfl, (Eq.trans z141 (by omega)), z140, z149, z146, z147, z148, g161, g162, g158⟩
  · exact absurd c83 (by omega)
