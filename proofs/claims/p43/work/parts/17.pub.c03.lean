set_option maxHeartbeats 4000000 in
set_option maxRecDepth 100000 in
theorem f_xcharge (l : Launch) (g : q_G) {K : Nat → Nat} {L : List Nat} (hN : L.Nodup) {f : Nat → va_E} (hT : q_Ty g K L f) (d0 : Nat → Nat) (s0 : tw_S) (d3 : Nat → Nat) (A9 : Nat → Nat → Nat) (D9 : Nat → Nat → Nat) (S9 : Nat → tw_S) (x : Nat) (hx : x ∈ L) (kx : K x = 11) (a0 : Int) (la0 : 0 ≤ a0) (ua0 : a0 ≤ 9) (b0 : Int) (lb0 : 1 ≤ b0) (ub0 : b0 ≤ 999) (so : Nat) (hso : so ∈ L) (kso : K so = 8) (rd : Nat) (hrd : rd ∈ L) (krd : K rd = 9) (fc : Nat) (hfc : fc ∈ L) (kfc : K fc = 1) (hist : Nat) (hhist : hist ∈ L) (khist : K hist = 2) (v0 : Nat) (hv0 : v0 ∈ L) (kv0 : K v0 = 10) (v1 : Nat) (hv1 : v1 ∈ L) (kv1 : K v1 = 13) (ba : Nat) (hba : ba ∈ L) (kba : K ba = 142) (ka : Nat) (hka : ka ∈ L) (kka : K ka = 218) (v3 : Nat) (hv3 : v3 ∈ L) (kv3 : K v3 = 15) (n0 : Nat) (hn0 : n0 ∈ L) (kn0 : K n0 = 110) (l0 : Nat) (hl0 : l0 ∈ L) (kl0 : K l0 = 120) (m0 : Nat) (hm0 : m0 ∈ L) (km0 : K m0 = 130) (n1 : Nat) (hn1 : n1 ∈ L) (kn1 : K n1 = 111) (l1 : Nat) (hl1 : l1 ∈ L) (kl1 : K l1 = 121) (m1 : Nat) (hm1 : m1 ∈ L) (km1 : K m1 = 131) (n3 : Nat) (hn3 : n3 ∈ L) (kn3 : K n3 = 113) (l3 : Nat) (hl3 : l3 ∈ L) (kl3 : K l3 = 123) (m3 : Nat) (hm3 : m3 ∈ L) (km3 : K m3 = 133) (tm : Int) (ltm : 0 ≤ tm) (utm : tm ≤ 9000) (nn : Int) (lnn : 0 ≤ nn) (unn : nn ≤ 10) (ln : Int) (lln : 0 ≤ ln) (uln : ln ≤ 16) (mn : Int) (lmn : 0 ≤ mn) (umn : mn ≤ 59) (yr : Int) (lyr : 4 ≤ yr) (uyr : yr ≤ 60) (sl : Int) (lsl : 0 ≤ sl) (usl : sl ≤ 6) (my : Int) (lmy : 0 ≤ my) (umy : my ≤ 6) (hf0 : q_is (q_z f v0 11) tm) (hf1 : q_is (q_z f v0 3) nn) (hf2 : q_is (q_z f v0 4) ln) (hf3 : q_is (q_z f v0 5) mn) (hf4 : q_is (q_z f v0 6) yr) (hf5 : q_is (q_z f hist 1) sl) (hf6 : q_is (q_z f hist 2) my) (hr0 : q_ir (q_r f x 0) so) (hr1 : q_ir (q_r f x 1) rd) (hr2 : q_ir (q_r f x 3) fc) (hr3 : q_ir (q_r f x 4) hist) (hr4 : q_ir (q_r f x 6) v0) (hr5 : q_ir (q_r f x 7) v1) (hr6 : q_ir (q_r f so 0) ba) (hr7 : q_ir (q_r f hist 0) ka) (hr8 : q_ir (q_r f fc 0) v3) (hr9 : q_ir (q_r f v0 0) n0) (hr10 : q_ir (q_r f v0 1) l0) (hr11 : q_ir (q_r f v0 2) m0) (hr12 : q_ir (q_r f v1 0) n1) (hr13 : q_ir (q_r f v1 1) l1) (hr14 : q_ir (q_r f v1 2) m1) (hr15 : q_ir (q_r f v3 0) n3) (hr16 : q_ir (q_r f v3 1) l3) (hr17 : q_ir (q_r f v3 2) m3) (hp0 : a0 < nn) (hw0 : tw_vw K L 10 5 3 4 f v0 n0 l0 m0 d0 s0) (hz0 : tw_nw K L 5 f) (hhk : tw_hk K L f ka A9 D9 S9) (he3 : ∃ s9 : tw_S, tw_vw K L 15 19 23 27 f v3 n3 l3 m3 d3 s9) (hz3 : tw_nw K L 19 f) : q_Ct l g K L yX11_charge cX11_charge 3 (some .int) 3 64 [.ref x, .int (q_i a0), .int (q_i b0)] f [(2, 1, 2), (5, 4, 4), (50, 3, 12), (51, 3, 12), (52, 3, 12), (53, 3, 12), (54, 3, 12), (55, 3, 12), (56, 0, 8), (57, 0, 8), (58, 0, 8), (59, 0, 8), (60, 0, 8), (61, 0, 8), (62, 0, 4), (63, 0, 4), (64, 0, 4), (65, 0, 4), (66, 0, 4), (67, 0, 4), (68, 0, 7), (69, 0, 7), (70, 0, 7), (71, 0, 7), (72, 0, 7), (73, 0, 7)] (q_Pi (fun (z : Int) (f1 : Nat → va_E) => z ≤ 9999 ∧ (q_is (q_z f1 hist 1) (tw_ns sl)) ∧ (q_is (q_z f1 hist 2) (min 6 (my + 1))) ∧ (z = (tw_ae s0 a0 b0) (1 + Int.toNat a0) 4) ∧ (tw_vw K L 10 5 3 4 f1 v0 n0 l0 m0 d0 (tw_ae s0 a0 b0)) ∧ (tw_nw K L 5 f1) ∧ (tw_hk K L f1 ka A9 D9 (tw_hu S9 (tw_si sl) (tw_cp (S9 (tw_si sl)) s0))))) := by
  refine q_ofb (by decide +kernel) hN hT (Nat.le_of_ble_eq_true rfl) ?_
  intro p e s m below meth c ls cx hr hlk hB hl
  have hl : lv_has ls 3 [(0, .ref x), (1, .int (q_i a0)), (2, .int (q_i b0))] := hl
  obtain ⟨H, hH⟩ : ∃ H : Heap, H = s.heap := ⟨_, rfl⟩
  obtain ⟨locs, hlocs⟩ : ∃ z : List Loc, z = [] := ⟨_, rfl⟩
  rw [← hH, ← hlocs] at hB
  rw [← hH, ← hlocs]
  refine q_ald_n cx dX11_charge_0 rfl (lv_at hl 0 rfl) ?_
  refine q_ild_n cx dX11_charge_1 rfl (lv_at hl 1 rfl) ?_
  refine q_cVv (As := [.int (q_i a0)]) (rest := []) cx hB (fun _ h => h) hN hx kx (by decide) rfl (f_xrequireNode l g hN hB.2.1 d0 s0 d3 A9 D9 S9 x hx kx a0 (by omega) (by omega) so hso kso rd hrd krd fc hfc kfc hist hhist khist v0 hv0 kv0 v1 hv1 kv1 ba hba kba ka hka kka v3 hv3 kv3 n0 hn0 kn0 l0 hl0 kl0 m0 hm0 km0 n1 hn1 kn1 l1 hl1 kl1 m1 hm1 km1 n3 hn3 kn3 l3 hl3 kl3 m3 hm3 km3 tm (by omega) (by omega) nn (by omega) (by omega) ln (by omega) (by omega) mn (by omega) (by omega) yr (by omega) (by omega) sl (by omega) (by omega) my (by omega) (by omega) hf0 hf1 hf2 hf3 hf4 hf5 hf6 hr0 hr1 hr2 hr3 hr4 hr5 hr6 hr7 hr8 hr9 hr10 hr11 hr12 hr13 hr14 hr15 hr16 hr17 (by omega) hw0 hz0 hhk he3 hz3) q_cX11_129 q_dX11_requireNode (by decide) rfl rfl hl.1 rfl (Nat.le_of_ble_eq_true rfl) dX11_charge_2 (fun H locs f499 h501 hF hB => ?_)
  obtain rfl := h501
  refine q_ild_n cx dX11_charge_5 rfl (lv_at hl 2 rfl) ?_
  refine q_cSi (As := [.int (q_i b0)]) (rest := []) cx hB (fun _ h => h) hN (f_isCharge l g hN hB.2.1 b0 (by omega) (by omega)) q_cX11_303 q_dX10_isCharge (by decide) rfl rfl hl.1 rfl (Nat.le_of_ble_eq_true rfl) dX11_charge_6 (fun y503 H locs f502 ry503 h504 hF hB => ?_)
  obtain ⟨rfl, qy503⟩ := h504
  subst qy503
  refine q_ifne (tgt := 23) cx ⟨by decide, by decide⟩ dX11_charge_9 (by decide) (fun c505 => ?_) (fun c505 => ?_)
  · refine q_ald_n cx dX11_charge_23 rfl (lv_at hl 0 rfl) ?_
    refine q_gX11_40 cx hB hx kx hr3 dX11_charge_24 (fun hb506 kb506 => ?_)
    refine q_ald_n cx dX11_charge_27 rfl (lv_at hl 0 rfl) ?_
    refine q_gX11_54 cx hB hx kx hr4 dX11_charge_28 (fun hb507 kb507 => ?_)
    by_cases c508 : sl ≤ 0
    · refine q_cVv (As := [.ref v0]) (rest := []) cx hB (fun _ h => h) hN hhist khist (by decide) rfl (f_keep_0 l g hN hB.2.1 d0 s0 A9 D9 S9 hist hhist khist v0 hv0 kv0 n0 hn0 kn0 l0 hl0 kl0 m0 hm0 km0 ka hka kka tm (by omega) (by omega) nn (by omega) (by omega) ln (by omega) (by omega) mn (by omega) (by omega) my (by omega) (by omega) hf0 hf1 hf2 hf3 (Eq.trans hf5 (by omega)) hf6 hr7 hr9 hr10 hr11 hw0 hz0 hhk) q_cX11_107 q_dX2_keep (by decide) rfl rfl hl.1 rfl (Nat.le_of_ble_eq_true rfl) dX11_charge_31 (fun H locs f509 h511 hF hB => ?_)
      obtain ⟨z512, t513, g514⟩ := h511
      have z515 : q_is (q_z f509 v0 11) tm := Eq.trans (hF.z hv0 (by rw [kv0]; rfl)) hf0
      have z516 : q_is (q_z f509 v0 3) nn := Eq.trans (hF.z hv0 (by rw [kv0]; rfl)) hf1
      have z517 : q_is (q_z f509 v0 4) ln := Eq.trans (hF.z hv0 (by rw [kv0]; rfl)) hf2
      have z518 : q_is (q_z f509 v0 5) mn := Eq.trans (hF.z hv0 (by rw [kv0]; rfl)) hf3
      have z519 : q_is (q_z f509 v0 6) yr := Eq.trans (hF.z hv0 (by rw [kv0]; rfl)) hf4
      have z520 : q_ir (q_r f509 x 0) so := Eq.trans (hF.r hx (by rw [kx]; rfl)) hr0
      have z521 : q_ir (q_r f509 x 1) rd := Eq.trans (hF.r hx (by rw [kx]; rfl)) hr1
      have z522 : q_ir (q_r f509 x 3) fc := Eq.trans (hF.r hx (by rw [kx]; rfl)) hr2
      have z523 : q_ir (q_r f509 x 4) hist := Eq.trans (hF.r hx (by rw [kx]; rfl)) hr3
      have z524 : q_ir (q_r f509 x 6) v0 := Eq.trans (hF.r hx (by rw [kx]; rfl)) hr4
      have z525 : q_ir (q_r f509 x 7) v1 := Eq.trans (hF.r hx (by rw [kx]; rfl)) hr5
      have z526 : q_ir (q_r f509 so 0) ba := Eq.trans (hF.r hso (by rw [kso]; rfl)) hr6
      have z527 : q_ir (q_r f509 hist 0) ka := Eq.trans (hF.r hhist (by rw [khist]; rfl)) hr7
      have z528 : q_ir (q_r f509 fc 0) v3 := Eq.trans (hF.r hfc (by rw [kfc]; rfl)) hr8
      have z529 : q_ir (q_r f509 v0 0) n0 := Eq.trans (hF.r hv0 (by rw [kv0]; rfl)) hr9
      have z530 : q_ir (q_r f509 v0 1) l0 := Eq.trans (hF.r hv0 (by rw [kv0]; rfl)) hr10
      have z531 : q_ir (q_r f509 v0 2) m0 := Eq.trans (hF.r hv0 (by rw [kv0]; rfl)) hr11
      have z532 : q_ir (q_r f509 v1 0) n1 := Eq.trans (hF.r hv1 (by rw [kv1]; rfl)) hr12
      have z533 : q_ir (q_r f509 v1 1) l1 := Eq.trans (hF.r hv1 (by rw [kv1]; rfl)) hr13
      have z534 : q_ir (q_r f509 v1 2) m1 := Eq.trans (hF.r hv1 (by rw [kv1]; rfl)) hr14
      have z535 : q_ir (q_r f509 v3 0) n3 := Eq.trans (hF.r hv3 (by rw [kv3]; rfl)) hr15
      have z536 : q_ir (q_r f509 v3 1) l3 := Eq.trans (hF.r hv3 (by rw [kv3]; rfl)) hr16
      have z537 : q_ir (q_r f509 v3 2) m3 := Eq.trans (hF.r hv3 (by rw [kv3]; rfl)) hr17
      have g538 : tw_vw K L 10 5 3 4 f509 v0 n0 l0 m0 d0 s0 := tw_vw_tr hw0 (fun a9 h9 k9 c9 => hF.z h9 (by rw [k9]; rfl)) (fun a9 h9 k9 c9 => hF.z h9 (by rw [k9]; rfl)) (fun a9 h9 k9 c9 => hF.z h9 (by rw [k9]; rfl)) (fun a9 h9 k9 c9 => hF.z h9 (by rw [k9]; rfl)) (fun i9 => hF.r hn0 (by rw [kn0]; rfl)) (fun i9 => hF.r hl0 (by rw [kl0]; rfl)) (fun i9 => hF.r hm0 (by rw [km0]; rfl))
      have g539 : tw_nw K L 5 f509 := tw_nw_tr hz0 (fun a9 h9 k9 => hF.j h9 (by rw [k9]; rfl))
      have g540 : ∃ s9 : tw_S, tw_vw K L 15 19 23 27 f509 v3 n3 l3 m3 d3 s9 := tw_ex_tr he3 (fun a9 h9 k9 c9 => hF.z h9 (by rw [k9]; rfl)) (fun a9 h9 k9 c9 => hF.z h9 (by rw [k9]; rfl)) (fun a9 h9 k9 c9 => hF.z h9 (by rw [k9]; rfl)) (fun a9 h9 k9 c9 => hF.z h9 (by rw [k9]; rfl)) (fun i9 => hF.r hn3 (by rw [kn3]; rfl)) (fun i9 => hF.r hl3 (by rw [kl3]; rfl)) (fun i9 => hF.r hm3 (by rw [km3]; rfl))
      have g541 : tw_nw K L 19 f509 := tw_nw_tr hz3 (fun a9 h9 k9 => hF.j h9 (by rw [k9]; rfl))
      obtain ⟨y542, ey542, ny542⟩ : ∃ zz : Int, q_is (q_z f509 hist 2) zz ∧ zz = min 6 (my + 1) := ⟨_, t513, rfl⟩
      have ly542 : 1 ≤ y542 ∧ y542 ≤ 6 := by omega
      refine q_ald_n cx dX11_charge_34 rfl (lv_at hl 0 rfl) ?_
      refine q_gX11_54 cx hB hx kx z524 dX11_charge_35 (fun hb543 kb543 => ?_)
      refine q_ild_n cx dX11_charge_38 rfl (lv_at hl 1 rfl) ?_
      refine q_ild_n cx dX11_charge_39 rfl (lv_at hl 2 rfl) ?_
      refine q_cVi (As := [.int (q_i a0), .int (q_i b0)]) (rest := []) cx hB (fun _ h => h) hN hv0 kv0 (by decide) rfl (f_addEnergy l g hN hB.2.1 d0 s0 v0 hv0 kv0 a0 (by omega) (by omega) b0 (by omega) (by omega) n0 hn0 kn0 l0 hl0 kl0 m0 hm0 km0 z529 z530 z531 g538) q_cX11_308 q_dX10_addEnergy (by decide) rfl rfl hl.1 rfl (Nat.le_of_ble_eq_true rfl) dX11_charge_40 (fun y545 H locs f544 ry545 h546 hF hB => ?_)
      obtain ⟨uy545, t547, g548⟩ := h546
      have z549 : q_is (q_z f544 v0 11) tm := Eq.trans (hF.z hv0 (by rw [kv0]; rfl)) z515
      have z550 : q_is (q_z f544 v0 3) nn := Eq.trans (hF.z hv0 (by rw [kv0]; rfl)) z516
      have z551 : q_is (q_z f544 v0 4) ln := Eq.trans (hF.z hv0 (by rw [kv0]; rfl)) z517
      have z552 : q_is (q_z f544 v0 5) mn := Eq.trans (hF.z hv0 (by rw [kv0]; rfl)) z518
      have z553 : q_is (q_z f544 v0 6) yr := Eq.trans (hF.z hv0 (by rw [kv0]; rfl)) z519
      have z554 : q_is (q_z f544 hist 1) 1 := Eq.trans (hF.z hhist (by rw [khist]; rfl)) z512
      have z555 : q_is (q_z f544 hist 2) y542 := Eq.trans (hF.z hhist (by rw [khist]; rfl)) ey542
      have z556 : q_ir (q_r f544 x 0) so := Eq.trans (hF.r hx (by rw [kx]; rfl)) z520
      have z557 : q_ir (q_r f544 x 1) rd := Eq.trans (hF.r hx (by rw [kx]; rfl)) z521
      have z558 : q_ir (q_r f544 x 3) fc := Eq.trans (hF.r hx (by rw [kx]; rfl)) z522
      have z559 : q_ir (q_r f544 x 4) hist := Eq.trans (hF.r hx (by rw [kx]; rfl)) z523
      have z560 : q_ir (q_r f544 x 6) v0 := Eq.trans (hF.r hx (by rw [kx]; rfl)) z524
      have z561 : q_ir (q_r f544 x 7) v1 := Eq.trans (hF.r hx (by rw [kx]; rfl)) z525
      have z562 : q_ir (q_r f544 so 0) ba := Eq.trans (hF.r hso (by rw [kso]; rfl)) z526
      have z563 : q_ir (q_r f544 hist 0) ka := Eq.trans (hF.r hhist (by rw [khist]; rfl)) z527
      have z564 : q_ir (q_r f544 fc 0) v3 := Eq.trans (hF.r hfc (by rw [kfc]; rfl)) z528
      have z565 : q_ir (q_r f544 v0 0) n0 := Eq.trans (hF.r hv0 (by rw [kv0]; rfl)) z529
      have z566 : q_ir (q_r f544 v0 1) l0 := Eq.trans (hF.r hv0 (by rw [kv0]; rfl)) z530
      have z567 : q_ir (q_r f544 v0 2) m0 := Eq.trans (hF.r hv0 (by rw [kv0]; rfl)) z531
      have z568 : q_ir (q_r f544 v1 0) n1 := Eq.trans (hF.r hv1 (by rw [kv1]; rfl)) z532
      have z569 : q_ir (q_r f544 v1 1) l1 := Eq.trans (hF.r hv1 (by rw [kv1]; rfl)) z533
      have z570 : q_ir (q_r f544 v1 2) m1 := Eq.trans (hF.r hv1 (by rw [kv1]; rfl)) z534
      have z571 : q_ir (q_r f544 v3 0) n3 := Eq.trans (hF.r hv3 (by rw [kv3]; rfl)) z535
      have z572 : q_ir (q_r f544 v3 1) l3 := Eq.trans (hF.r hv3 (by rw [kv3]; rfl)) z536
      have z573 : q_ir (q_r f544 v3 2) m3 := Eq.trans (hF.r hv3 (by rw [kv3]; rfl)) z537
      have g574 : tw_nw K L 5 f544 := tw_nw_tr g539 (fun a9 h9 k9 => hF.j h9 (by rw [k9]; rfl))
      have g575 : ∃ s9 : tw_S, tw_vw K L 15 19 23 27 f544 v3 n3 l3 m3 d3 s9 := tw_ex_tr g540 (fun a9 h9 k9 c9 => hF.z h9 (by rw [k9]; rfl)) (fun a9 h9 k9 c9 => hF.z h9 (by rw [k9]; rfl)) (fun a9 h9 k9 c9 => hF.z h9 (by rw [k9]; rfl)) (fun a9 h9 k9 c9 => hF.z h9 (by rw [k9]; rfl)) (fun i9 => hF.r hn3 (by rw [kn3]; rfl)) (fun i9 => hF.r hl3 (by rw [kl3]; rfl)) (fun i9 => hF.r hm3 (by rw [km3]; rfl))
      have g576 : tw_nw K L 19 f544 := tw_nw_tr g541 (fun a9 h9 k9 => hF.j h9 (by rw [k9]; rfl))
      have g577 : tw_hk K L f544 ka A9 D9 (tw_hu S9 0 (tw_cp (S9 0) s0)) := tw_hk_tr g514 (fun a9 h9 k9 i9 => hF a9 h9 i9 (tw_krw rfl k9))
      refine q_iret cx hr hlk hB dX11_charge_43 ⟨by omega, by omega⟩ ?_
      exact ⟨(by omega), (Eq.trans z554 (by have e9 : sl = 0 := by omega; rw [e9]; rfl)), (Eq.trans z555 (by omega)), (by have t0_ : y545 = (tw_ae s0 a0 b0) (1 + Int.toNat a0) 4 := t547; (try simp only [t0_]); (repeat' split) <;> first | rfl | (exfalso; omega)), g548, g574, (tw_hkg g577 (by have e9 : sl = 0 := by omega; rw [e9]; rfl))⟩
    · by_cases c578 : sl ≤ 1
      · refine q_cVv (As := [.ref v0]) (rest := []) cx hB (fun _ h => h) hN hhist khist (by decide) rfl (f_keep_1 l g hN hB.2.1 d0 s0 A9 D9 S9 hist hhist khist v0 hv0 kv0 n0 hn0 kn0 l0 hl0 kl0 m0 hm0 km0 ka hka kka tm (by omega) (by omega) nn (by omega) (by omega) ln (by omega) (by omega) mn (by omega) (by omega) my (by omega) (by omega) hf0 hf1 hf2 hf3 (Eq.trans hf5 (by omega)) hf6 hr7 hr9 hr10 hr11 hw0 hz0 hhk) q_cX11_107 q_dX2_keep (by decide) rfl rfl hl.1 rfl (Nat.le_of_ble_eq_true rfl) dX11_charge_31 (fun H locs f579 h581 hF hB => ?_)
        obtain ⟨z582, t583, g584⟩ := h581
        have z585 : q_is (q_z f579 v0 11) tm := Eq.trans (hF.z hv0 (by rw [kv0]; rfl)) hf0
        have z586 : q_is (q_z f579 v0 3) nn := Eq.trans (hF.z hv0 (by rw [kv0]; rfl)) hf1
        have z587 : q_is (q_z f579 v0 4) ln := Eq.trans (hF.z hv0 (by rw [kv0]; rfl)) hf2
        have z588 : q_is (q_z f579 v0 5) mn := Eq.trans (hF.z hv0 (by rw [kv0]; rfl)) hf3
        have z589 : q_is (q_z f579 v0 6) yr := Eq.trans (hF.z hv0 (by rw [kv0]; rfl)) hf4
        have z590 : q_ir (q_r f579 x 0) so := Eq.trans (hF.r hx (by rw [kx]; rfl)) hr0
        have z591 : q_ir (q_r f579 x 1) rd := Eq.trans (hF.r hx (by rw [kx]; rfl)) hr1
        have z592 : q_ir (q_r f579 x 3) fc := Eq.trans (hF.r hx (by rw [kx]; rfl)) hr2
        have z593 : q_ir (q_r f579 x 4) hist := Eq.trans (hF.r hx (by rw [kx]; rfl)) hr3
        have z594 : q_ir (q_r f579 x 6) v0 := Eq.trans (hF.r hx (by rw [kx]; rfl)) hr4
        have z595 : q_ir (q_r f579 x 7) v1 := Eq.trans (hF.r hx (by rw [kx]; rfl)) hr5
        have z596 : q_ir (q_r f579 so 0) ba := Eq.trans (hF.r hso (by rw [kso]; rfl)) hr6
        have z597 : q_ir (q_r f579 hist 0) ka := Eq.trans (hF.r hhist (by rw [khist]; rfl)) hr7
        have z598 : q_ir (q_r f579 fc 0) v3 := Eq.trans (hF.r hfc (by rw [kfc]; rfl)) hr8
        have z599 : q_ir (q_r f579 v0 0) n0 := Eq.trans (hF.r hv0 (by rw [kv0]; rfl)) hr9
        have z600 : q_ir (q_r f579 v0 1) l0 := Eq.trans (hF.r hv0 (by rw [kv0]; rfl)) hr10
        have z601 : q_ir (q_r f579 v0 2) m0 := Eq.trans (hF.r hv0 (by rw [kv0]; rfl)) hr11
        have z602 : q_ir (q_r f579 v1 0) n1 := Eq.trans (hF.r hv1 (by rw [kv1]; rfl)) hr12
        have z603 : q_ir (q_r f579 v1 1) l1 := Eq.trans (hF.r hv1 (by rw [kv1]; rfl)) hr13
        have z604 : q_ir (q_r f579 v1 2) m1 := Eq.trans (hF.r hv1 (by rw [kv1]; rfl)) hr14
        have z605 : q_ir (q_r f579 v3 0) n3 := Eq.trans (hF.r hv3 (by rw [kv3]; rfl)) hr15
        have z606 : q_ir (q_r f579 v3 1) l3 := Eq.trans (hF.r hv3 (by rw [kv3]; rfl)) hr16
        have z607 : q_ir (q_r f579 v3 2) m3 := Eq.trans (hF.r hv3 (by rw [kv3]; rfl)) hr17
        have g608 : tw_vw K L 10 5 3 4 f579 v0 n0 l0 m0 d0 s0 := tw_vw_tr hw0 (fun a9 h9 k9 c9 => hF.z h9 (by rw [k9]; rfl)) (fun a9 h9 k9 c9 => hF.z h9 (by rw [k9]; rfl)) (fun a9 h9 k9 c9 => hF.z h9 (by rw [k9]; rfl)) (fun a9 h9 k9 c9 => hF.z h9 (by rw [k9]; rfl)) (fun i9 => hF.r hn0 (by rw [kn0]; rfl)) (fun i9 => hF.r hl0 (by rw [kl0]; rfl)) (fun i9 => hF.r hm0 (by rw [km0]; rfl))
        have g609 : tw_nw K L 5 f579 := tw_nw_tr hz0 (fun a9 h9 k9 => hF.j h9 (by rw [k9]; rfl))
        have g610 : ∃ s9 : tw_S, tw_vw K L 15 19 23 27 f579 v3 n3 l3 m3 d3 s9 := tw_ex_tr he3 (fun a9 h9 k9 c9 => hF.z h9 (by rw [k9]; rfl)) (fun a9 h9 k9 c9 => hF.z h9 (by rw [k9]; rfl)) (fun a9 h9 k9 c9 => hF.z h9 (by rw [k9]; rfl)) (fun a9 h9 k9 c9 => hF.z h9 (by rw [k9]; rfl)) (fun i9 => hF.r hn3 (by rw [kn3]; rfl)) (fun i9 => hF.r hl3 (by rw [kl3]; rfl)) (fun i9 => hF.r hm3 (by rw [km3]; rfl))
        have g611 : tw_nw K L 19 f579 := tw_nw_tr hz3 (fun a9 h9 k9 => hF.j h9 (by rw [k9]; rfl))
        obtain ⟨y612, ey612, ny612⟩ : ∃ zz : Int, q_is (q_z f579 hist 2) zz ∧ zz = min 6 (my + 1) := ⟨_, t583, rfl⟩
        have ly612 : 1 ≤ y612 ∧ y612 ≤ 6 := by omega
        refine q_ald_n cx dX11_charge_34 rfl (lv_at hl 0 rfl) ?_
        refine q_gX11_54 cx hB hx kx z594 dX11_charge_35 (fun hb613 kb613 => ?_)
        refine q_ild_n cx dX11_charge_38 rfl (lv_at hl 1 rfl) ?_
        refine q_ild_n cx dX11_charge_39 rfl (lv_at hl 2 rfl) ?_
        refine q_cVi (As := [.int (q_i a0), .int (q_i b0)]) (rest := []) cx hB (fun _ h => h) hN hv0 kv0 (by decide) rfl (f_addEnergy l g hN hB.2.1 d0 s0 v0 hv0 kv0 a0 (by omega) (by omega) b0 (by omega) (by omega) n0 hn0 kn0 l0 hl0 kl0 m0 hm0 km0 z599 z600 z601 g608) q_cX11_308 q_dX10_addEnergy (by decide) rfl rfl hl.1 rfl (Nat.le_of_ble_eq_true rfl) dX11_charge_40 (fun y615 H locs f614 ry615 h616 hF hB => ?_)
        obtain ⟨uy615, t617, g618⟩ := h616
        have z619 : q_is (q_z f614 v0 11) tm := Eq.trans (hF.z hv0 (by rw [kv0]; rfl)) z585
        have z620 : q_is (q_z f614 v0 3) nn := Eq.trans (hF.z hv0 (by rw [kv0]; rfl)) z586
        have z621 : q_is (q_z f614 v0 4) ln := Eq.trans (hF.z hv0 (by rw [kv0]; rfl)) z587
        have z622 : q_is (q_z f614 v0 5) mn := Eq.trans (hF.z hv0 (by rw [kv0]; rfl)) z588
        have z623 : q_is (q_z f614 v0 6) yr := Eq.trans (hF.z hv0 (by rw [kv0]; rfl)) z589
        have z624 : q_is (q_z f614 hist 1) 2 := Eq.trans (hF.z hhist (by rw [khist]; rfl)) z582
        have z625 : q_is (q_z f614 hist 2) y612 := Eq.trans (hF.z hhist (by rw [khist]; rfl)) ey612
        have z626 : q_ir (q_r f614 x 0) so := Eq.trans (hF.r hx (by rw [kx]; rfl)) z590
        have z627 : q_ir (q_r f614 x 1) rd := Eq.trans (hF.r hx (by rw [kx]; rfl)) z591
        have z628 : q_ir (q_r f614 x 3) fc := Eq.trans (hF.r hx (by rw [kx]; rfl)) z592
        have z629 : q_ir (q_r f614 x 4) hist := Eq.trans (hF.r hx (by rw [kx]; rfl)) z593
        have z630 : q_ir (q_r f614 x 6) v0 := Eq.trans (hF.r hx (by rw [kx]; rfl)) z594
        have z631 : q_ir (q_r f614 x 7) v1 := Eq.trans (hF.r hx (by rw [kx]; rfl)) z595
        have z632 : q_ir (q_r f614 so 0) ba := Eq.trans (hF.r hso (by rw [kso]; rfl)) z596
        have z633 : q_ir (q_r f614 hist 0) ka := Eq.trans (hF.r hhist (by rw [khist]; rfl)) z597
        have z634 : q_ir (q_r f614 fc 0) v3 := Eq.trans (hF.r hfc (by rw [kfc]; rfl)) z598
        have z635 : q_ir (q_r f614 v0 0) n0 := Eq.trans (hF.r hv0 (by rw [kv0]; rfl)) z599
        have z636 : q_ir (q_r f614 v0 1) l0 := Eq.trans (hF.r hv0 (by rw [kv0]; rfl)) z600
        have z637 : q_ir (q_r f614 v0 2) m0 := Eq.trans (hF.r hv0 (by rw [kv0]; rfl)) z601
        have z638 : q_ir (q_r f614 v1 0) n1 := Eq.trans (hF.r hv1 (by rw [kv1]; rfl)) z602
        have z639 : q_ir (q_r f614 v1 1) l1 := Eq.trans (hF.r hv1 (by rw [kv1]; rfl)) z603
        have z640 : q_ir (q_r f614 v1 2) m1 := Eq.trans (hF.r hv1 (by rw [kv1]; rfl)) z604
        have z641 : q_ir (q_r f614 v3 0) n3 := Eq.trans (hF.r hv3 (by rw [kv3]; rfl)) z605
        have z642 : q_ir (q_r f614 v3 1) l3 := Eq.trans (hF.r hv3 (by rw [kv3]; rfl)) z606
        have z643 : q_ir (q_r f614 v3 2) m3 := Eq.trans (hF.r hv3 (by rw [kv3]; rfl)) z607
        have g644 : tw_nw K L 5 f614 := tw_nw_tr g609 (fun a9 h9 k9 => hF.j h9 (by rw [k9]; rfl))
        have g645 : ∃ s9 : tw_S, tw_vw K L 15 19 23 27 f614 v3 n3 l3 m3 d3 s9 := tw_ex_tr g610 (fun a9 h9 k9 c9 => hF.z h9 (by rw [k9]; rfl)) (fun a9 h9 k9 c9 => hF.z h9 (by rw [k9]; rfl)) (fun a9 h9 k9 c9 => hF.z h9 (by rw [k9]; rfl)) (fun a9 h9 k9 c9 => hF.z h9 (by rw [k9]; rfl)) (fun i9 => hF.r hn3 (by rw [kn3]; rfl)) (fun i9 => hF.r hl3 (by rw [kl3]; rfl)) (fun i9 => hF.r hm3 (by rw [km3]; rfl))
        have g646 : tw_nw K L 19 f614 := tw_nw_tr g611 (fun a9 h9 k9 => hF.j h9 (by rw [k9]; rfl))
        have g647 : tw_hk K L f614 ka A9 D9 (tw_hu S9 1 (tw_cp (S9 1) s0)) := tw_hk_tr g584 (fun a9 h9 k9 i9 => hF a9 h9 i9 (tw_krw rfl k9))
        refine q_iret cx hr hlk hB dX11_charge_43 ⟨by omega, by omega⟩ ?_
        exact ⟨(by omega), (Eq.trans z624 (by have e9 : sl = 1 := by omega; rw [e9]; rfl)), (Eq.trans z625 (by omega)), (by have t0_ : y615 = (tw_ae s0 a0 b0) (1 + Int.toNat a0) 4 := t617; (try simp only [t0_]); (repeat' split) <;> first | rfl | (exfalso; omega)), g618, g644, (tw_hkg g647 (by have e9 : sl = 1 := by omega; rw [e9]; rfl))⟩
      · by_cases c648 : sl ≤ 2
        · refine q_cVv (As := [.ref v0]) (rest := []) cx hB (fun _ h => h) hN hhist khist (by decide) rfl (f_keep_2 l g hN hB.2.1 d0 s0 A9 D9 S9 hist hhist khist v0 hv0 kv0 n0 hn0 kn0 l0 hl0 kl0 m0 hm0 km0 ka hka kka tm (by omega) (by omega) nn (by omega) (by omega) ln (by omega) (by omega) mn (by omega) (by omega) my (by omega) (by omega) hf0 hf1 hf2 hf3 (Eq.trans hf5 (by omega)) hf6 hr7 hr9 hr10 hr11 hw0 hz0 hhk) q_cX11_107 q_dX2_keep (by decide) rfl rfl hl.1 rfl (Nat.le_of_ble_eq_true rfl) dX11_charge_31 (fun H locs f649 h651 hF hB => ?_)
          obtain ⟨z652, t653, g654⟩ := h651
          have z655 : q_is (q_z f649 v0 11) tm := Eq.trans (hF.z hv0 (by rw [kv0]; rfl)) hf0
          have z656 : q_is (q_z f649 v0 3) nn := Eq.trans (hF.z hv0 (by rw [kv0]; rfl)) hf1
          have z657 : q_is (q_z f649 v0 4) ln := Eq.trans (hF.z hv0 (by rw [kv0]; rfl)) hf2
          have z658 : q_is (q_z f649 v0 5) mn := Eq.trans (hF.z hv0 (by rw [kv0]; rfl)) hf3
          have z659 : q_is (q_z f649 v0 6) yr := Eq.trans (hF.z hv0 (by rw [kv0]; rfl)) hf4
          have z660 : q_ir (q_r f649 x 0) so := Eq.trans (hF.r hx (by rw [kx]; rfl)) hr0
          have z661 : q_ir (q_r f649 x 1) rd := Eq.trans (hF.r hx (by rw [kx]; rfl)) hr1
          have z662 : q_ir (q_r f649 x 3) fc := Eq.trans (hF.r hx (by rw [kx]; rfl)) hr2
          have z663 : q_ir (q_r f649 x 4) hist := Eq.trans (hF.r hx (by rw [kx]; rfl)) hr3
          have z664 : q_ir (q_r f649 x 6) v0 := Eq.trans (hF.r hx (by rw [kx]; rfl)) hr4
          have z665 : q_ir (q_r f649 x 7) v1 := Eq.trans (hF.r hx (by rw [kx]; rfl)) hr5
          have z666 : q_ir (q_r f649 so 0) ba := Eq.trans (hF.r hso (by rw [kso]; rfl)) hr6
          have z667 : q_ir (q_r f649 hist 0) ka := Eq.trans (hF.r hhist (by rw [khist]; rfl)) hr7
          have z668 : q_ir (q_r f649 fc 0) v3 := Eq.trans (hF.r hfc (by rw [kfc]; rfl)) hr8
          have z669 : q_ir (q_r f649 v0 0) n0 := Eq.trans (hF.r hv0 (by rw [kv0]; rfl)) hr9
          have z670 : q_ir (q_r f649 v0 1) l0 := Eq.trans (hF.r hv0 (by rw [kv0]; rfl)) hr10
          have z671 : q_ir (q_r f649 v0 2) m0 := Eq.trans (hF.r hv0 (by rw [kv0]; rfl)) hr11
          have z672 : q_ir (q_r f649 v1 0) n1 := Eq.trans (hF.r hv1 (by rw [kv1]; rfl)) hr12
          have z673 : q_ir (q_r f649 v1 1) l1 := Eq.trans (hF.r hv1 (by rw [kv1]; rfl)) hr13
          have z674 : q_ir (q_r f649 v1 2) m1 := Eq.trans (hF.r hv1 (by rw [kv1]; rfl)) hr14
          have z675 : q_ir (q_r f649 v3 0) n3 := Eq.trans (hF.r hv3 (by rw [kv3]; rfl)) hr15
          have z676 : q_ir (q_r f649 v3 1) l3 := Eq.trans (hF.r hv3 (by rw [kv3]; rfl)) hr16
          have z677 : q_ir (q_r f649 v3 2) m3 := Eq.trans (hF.r hv3 (by rw [kv3]; rfl)) hr17
          have g678 : tw_vw K L 10 5 3 4 f649 v0 n0 l0 m0 d0 s0 := tw_vw_tr hw0 (fun a9 h9 k9 c9 => hF.z h9 (by rw [k9]; rfl)) (fun a9 h9 k9 c9 => hF.z h9 (by rw [k9]; rfl)) (fun a9 h9 k9 c9 => hF.z h9 (by rw [k9]; rfl)) (fun a9 h9 k9 c9 => hF.z h9 (by rw [k9]; rfl)) (fun i9 => hF.r hn0 (by rw [kn0]; rfl)) (fun i9 => hF.r hl0 (by rw [kl0]; rfl)) (fun i9 => hF.r hm0 (by rw [km0]; rfl))
          have g679 : tw_nw K L 5 f649 := tw_nw_tr hz0 (fun a9 h9 k9 => hF.j h9 (by rw [k9]; rfl))
          have g680 : ∃ s9 : tw_S, tw_vw K L 15 19 23 27 f649 v3 n3 l3 m3 d3 s9 := tw_ex_tr he3 (fun a9 h9 k9 c9 => hF.z h9 (by rw [k9]; rfl)) (fun a9 h9 k9 c9 => hF.z h9 (by rw [k9]; rfl)) (fun a9 h9 k9 c9 => hF.z h9 (by rw [k9]; rfl)) (fun a9 h9 k9 c9 => hF.z h9 (by rw [k9]; rfl)) (fun i9 => hF.r hn3 (by rw [kn3]; rfl)) (fun i9 => hF.r hl3 (by rw [kl3]; rfl)) (fun i9 => hF.r hm3 (by rw [km3]; rfl))
          have g681 : tw_nw K L 19 f649 := tw_nw_tr hz3 (fun a9 h9 k9 => hF.j h9 (by rw [k9]; rfl))
          obtain ⟨y682, ey682, ny682⟩ : ∃ zz : Int, q_is (q_z f649 hist 2) zz ∧ zz = min 6 (my + 1) := ⟨_, t653, rfl⟩
          have ly682 : 1 ≤ y682 ∧ y682 ≤ 6 := by omega
          refine q_ald_n cx dX11_charge_34 rfl (lv_at hl 0 rfl) ?_
          refine q_gX11_54 cx hB hx kx z664 dX11_charge_35 (fun hb683 kb683 => ?_)
          refine q_ild_n cx dX11_charge_38 rfl (lv_at hl 1 rfl) ?_
          refine q_ild_n cx dX11_charge_39 rfl (lv_at hl 2 rfl) ?_
          refine q_cVi (As := [.int (q_i a0), .int (q_i b0)]) (rest := []) cx hB (fun _ h => h) hN hv0 kv0 (by decide) rfl (f_addEnergy l g hN hB.2.1 d0 s0 v0 hv0 kv0 a0 (by omega) (by omega) b0 (by omega) (by omega) n0 hn0 kn0 l0 hl0 kl0 m0 hm0 km0 z669 z670 z671 g678) q_cX11_308 q_dX10_addEnergy (by decide) rfl rfl hl.1 rfl (Nat.le_of_ble_eq_true rfl) dX11_charge_40 (fun y685 H locs f684 ry685 h686 hF hB => ?_)
          obtain ⟨uy685, t687, g688⟩ := h686
          have z689 : q_is (q_z f684 v0 11) tm := Eq.trans (hF.z hv0 (by rw [kv0]; rfl)) z655
          have z690 : q_is (q_z f684 v0 3) nn := Eq.trans (hF.z hv0 (by rw [kv0]; rfl)) z656
          have z691 : q_is (q_z f684 v0 4) ln := Eq.trans (hF.z hv0 (by rw [kv0]; rfl)) z657
          have z692 : q_is (q_z f684 v0 5) mn := Eq.trans (hF.z hv0 (by rw [kv0]; rfl)) z658
          have z693 : q_is (q_z f684 v0 6) yr := Eq.trans (hF.z hv0 (by rw [kv0]; rfl)) z659
          have z694 : q_is (q_z f684 hist 1) 3 := Eq.trans (hF.z hhist (by rw [khist]; rfl)) z652
          have z695 : q_is (q_z f684 hist 2) y682 := Eq.trans (hF.z hhist (by rw [khist]; rfl)) ey682
          have z696 : q_ir (q_r f684 x 0) so := Eq.trans (hF.r hx (by rw [kx]; rfl)) z660
          have z697 : q_ir (q_r f684 x 1) rd := Eq.trans (hF.r hx (by rw [kx]; rfl)) z661
          have z698 : q_ir (q_r f684 x 3) fc := Eq.trans (hF.r hx (by rw [kx]; rfl)) z662
          have z699 : q_ir (q_r f684 x 4) hist := Eq.trans (hF.r hx (by rw [kx]; rfl)) z663
          have z700 : q_ir (q_r f684 x 6) v0 := Eq.trans (hF.r hx (by rw [kx]; rfl)) z664
          have z701 : q_ir (q_r f684 x 7) v1 := Eq.trans (hF.r hx (by rw [kx]; rfl)) z665
          have z702 : q_ir (q_r f684 so 0) ba := Eq.trans (hF.r hso (by rw [kso]; rfl)) z666
          have z703 : q_ir (q_r f684 hist 0) ka := Eq.trans (hF.r hhist (by rw [khist]; rfl)) z667
          have z704 : q_ir (q_r f684 fc 0) v3 := Eq.trans (hF.r hfc (by rw [kfc]; rfl)) z668
          have z705 : q_ir (q_r f684 v0 0) n0 := Eq.trans (hF.r hv0 (by rw [kv0]; rfl)) z669
          have z706 : q_ir (q_r f684 v0 1) l0 := Eq.trans (hF.r hv0 (by rw [kv0]; rfl)) z670
          have z707 : q_ir (q_r f684 v0 2) m0 := Eq.trans (hF.r hv0 (by rw [kv0]; rfl)) z671
          have z708 : q_ir (q_r f684 v1 0) n1 := Eq.trans (hF.r hv1 (by rw [kv1]; rfl)) z672
          have z709 : q_ir (q_r f684 v1 1) l1 := Eq.trans (hF.r hv1 (by rw [kv1]; rfl)) z673
          have z710 : q_ir (q_r f684 v1 2) m1 := Eq.trans (hF.r hv1 (by rw [kv1]; rfl)) z674
          have z711 : q_ir (q_r f684 v3 0) n3 := Eq.trans (hF.r hv3 (by rw [kv3]; rfl)) z675
          have z712 : q_ir (q_r f684 v3 1) l3 := Eq.trans (hF.r hv3 (by rw [kv3]; rfl)) z676
          have z713 : q_ir (q_r f684 v3 2) m3 := Eq.trans (hF.r hv3 (by rw [kv3]; rfl)) z677
          have g714 : tw_nw K L 5 f684 := tw_nw_tr g679 (fun a9 h9 k9 => hF.j h9 (by rw [k9]; rfl))
          have g715 : ∃ s9 : tw_S, tw_vw K L 15 19 23 27 f684 v3 n3 l3 m3 d3 s9 := tw_ex_tr g680 (fun a9 h9 k9 c9 => hF.z h9 (by rw [k9]; rfl)) (fun a9 h9 k9 c9 => hF.z h9 (by rw [k9]; rfl)) (fun a9 h9 k9 c9 => hF.z h9 (by rw [k9]; rfl)) (fun a9 h9 k9 c9 => hF.z h9 (by rw [k9]; rfl)) (fun i9 => hF.r hn3 (by rw [kn3]; rfl)) (fun i9 => hF.r hl3 (by rw [kl3]; rfl)) (fun i9 => hF.r hm3 (by rw [km3]; rfl))
          have g716 : tw_nw K L 19 f684 := tw_nw_tr g681 (fun a9 h9 k9 => hF.j h9 (by rw [k9]; rfl))
          have g717 : tw_hk K L f684 ka A9 D9 (tw_hu S9 2 (tw_cp (S9 2) s0)) := tw_hk_tr g654 (fun a9 h9 k9 i9 => hF a9 h9 i9 (tw_krw rfl k9))
          refine q_iret cx hr hlk hB dX11_charge_43 ⟨by omega, by omega⟩ ?_
          exact ⟨(by omega), (Eq.trans z694 (by have e9 : sl = 2 := by omega; rw [e9]; rfl)), (Eq.trans z695 (by omega)), (by have t0_ : y685 = (tw_ae s0 a0 b0) (1 + Int.toNat a0) 4 := t687; (try simp only [t0_]); (repeat' split) <;> first | rfl | (exfalso; omega)), g688, g714, (tw_hkg g717 (by have e9 : sl = 2 := by omega; rw [e9]; rfl))⟩
        · by_cases c718 : sl ≤ 3
          · refine q_cVv (As := [.ref v0]) (rest := []) cx hB (fun _ h => h) hN hhist khist (by decide) rfl (f_keep_3 l g hN hB.2.1 d0 s0 A9 D9 S9 hist hhist khist v0 hv0 kv0 n0 hn0 kn0 l0 hl0 kl0 m0 hm0 km0 ka hka kka tm (by omega) (by omega) nn (by omega) (by omega) ln (by omega) (by omega) mn (by omega) (by omega) my (by omega) (by omega) hf0 hf1 hf2 hf3 (Eq.trans hf5 (by omega)) hf6 hr7 hr9 hr10 hr11 hw0 hz0 hhk) q_cX11_107 q_dX2_keep (by decide) rfl rfl hl.1 rfl (Nat.le_of_ble_eq_true rfl) dX11_charge_31 (fun H locs f719 h721 hF hB => ?_)
            obtain ⟨z722, t723, g724⟩ := h721
            have z725 : q_is (q_z f719 v0 11) tm := Eq.trans (hF.z hv0 (by rw [kv0]; rfl)) hf0
            have z726 : q_is (q_z f719 v0 3) nn := Eq.trans (hF.z hv0 (by rw [kv0]; rfl)) hf1
            have z727 : q_is (q_z f719 v0 4) ln := Eq.trans (hF.z hv0 (by rw [kv0]; rfl)) hf2
            have z728 : q_is (q_z f719 v0 5) mn := Eq.trans (hF.z hv0 (by rw [kv0]; rfl)) hf3
            have z729 : q_is (q_z f719 v0 6) yr := Eq.trans (hF.z hv0 (by rw [kv0]; rfl)) hf4
            have z730 : q_ir (q_r f719 x 0) so := Eq.trans (hF.r hx (by rw [kx]; rfl)) hr0
            have z731 : q_ir (q_r f719 x 1) rd := Eq.trans (hF.r hx (by rw [kx]; rfl)) hr1
            have z732 : q_ir (q_r f719 x 3) fc := Eq.trans (hF.r hx (by rw [kx]; rfl)) hr2
            have z733 : q_ir (q_r f719 x 4) hist := Eq.trans (hF.r hx (by rw [kx]; rfl)) hr3
            have z734 : q_ir (q_r f719 x 6) v0 := Eq.trans (hF.r hx (by rw [kx]; rfl)) hr4
            have z735 : q_ir (q_r f719 x 7) v1 := Eq.trans (hF.r hx (by rw [kx]; rfl)) hr5
            have z736 : q_ir (q_r f719 so 0) ba := Eq.trans (hF.r hso (by rw [kso]; rfl)) hr6
            have z737 : q_ir (q_r f719 hist 0) ka := Eq.trans (hF.r hhist (by rw [khist]; rfl)) hr7
            have z738 : q_ir (q_r f719 fc 0) v3 := Eq.trans (hF.r hfc (by rw [kfc]; rfl)) hr8
            have z739 : q_ir (q_r f719 v0 0) n0 := Eq.trans (hF.r hv0 (by rw [kv0]; rfl)) hr9
            have z740 : q_ir (q_r f719 v0 1) l0 := Eq.trans (hF.r hv0 (by rw [kv0]; rfl)) hr10
            have z741 : q_ir (q_r f719 v0 2) m0 := Eq.trans (hF.r hv0 (by rw [kv0]; rfl)) hr11
            have z742 : q_ir (q_r f719 v1 0) n1 := Eq.trans (hF.r hv1 (by rw [kv1]; rfl)) hr12
            have z743 : q_ir (q_r f719 v1 1) l1 := Eq.trans (hF.r hv1 (by rw [kv1]; rfl)) hr13
            have z744 : q_ir (q_r f719 v1 2) m1 := Eq.trans (hF.r hv1 (by rw [kv1]; rfl)) hr14
            have z745 : q_ir (q_r f719 v3 0) n3 := Eq.trans (hF.r hv3 (by rw [kv3]; rfl)) hr15
            have z746 : q_ir (q_r f719 v3 1) l3 := Eq.trans (hF.r hv3 (by rw [kv3]; rfl)) hr16
            have z747 : q_ir (q_r f719 v3 2) m3 := Eq.trans (hF.r hv3 (by rw [kv3]; rfl)) hr17
            have g748 : tw_vw K L 10 5 3 4 f719 v0 n0 l0 m0 d0 s0 := tw_vw_tr hw0 (fun a9 h9 k9 c9 => hF.z h9 (by rw [k9]; rfl)) (fun a9 h9 k9 c9 => hF.z h9 (by rw [k9]; rfl)) (fun a9 h9 k9 c9 => hF.z h9 (by rw [k9]; rfl)) (fun a9 h9 k9 c9 => hF.z h9 (by rw [k9]; rfl)) (fun i9 => hF.r hn0 (by rw [kn0]; rfl)) (fun i9 => hF.r hl0 (by rw [kl0]; rfl)) (fun i9 => hF.r hm0 (by rw [km0]; rfl))
            have g749 : tw_nw K L 5 f719 := tw_nw_tr hz0 (fun a9 h9 k9 => hF.j h9 (by rw [k9]; rfl))
            have g750 : ∃ s9 : tw_S, tw_vw K L 15 19 23 27 f719 v3 n3 l3 m3 d3 s9 := tw_ex_tr he3 (fun a9 h9 k9 c9 => hF.z h9 (by rw [k9]; rfl)) (fun a9 h9 k9 c9 => hF.z h9 (by rw [k9]; rfl)) (fun a9 h9 k9 c9 => hF.z h9 (by rw [k9]; rfl)) (fun a9 h9 k9 c9 => hF.z h9 (by rw [k9]; rfl)) (fun i9 => hF.r hn3 (by rw [kn3]; rfl)) (fun i9 => hF.r hl3 (by rw [kl3]; rfl)) (fun i9 => hF.r hm3 (by rw [km3]; rfl))
            have g751 : tw_nw K L 19 f719 := tw_nw_tr hz3 (fun a9 h9 k9 => hF.j h9 (by rw [k9]; rfl))
            obtain ⟨y752, ey752, ny752⟩ : ∃ zz : Int, q_is (q_z f719 hist 2) zz ∧ zz = min 6 (my + 1) := ⟨_, t723, rfl⟩
            have ly752 : 1 ≤ y752 ∧ y752 ≤ 6 := by omega
            refine q_ald_n cx dX11_charge_34 rfl (lv_at hl 0 rfl) ?_
            refine q_gX11_54 cx hB hx kx z734 dX11_charge_35 (fun hb753 kb753 => ?_)
            refine q_ild_n cx dX11_charge_38 rfl (lv_at hl 1 rfl) ?_
            refine q_ild_n cx dX11_charge_39 rfl (lv_at hl 2 rfl) ?_
            refine q_cVi (As := [.int (q_i a0), .int (q_i b0)]) (rest := []) cx hB (fun _ h => h) hN hv0 kv0 (by decide) rfl (f_addEnergy l g hN hB.2.1 d0 s0 v0 hv0 kv0 a0 (by omega) (by omega) b0 (by omega) (by omega) n0 hn0 kn0 l0 hl0 kl0 m0 hm0 km0 z739 z740 z741 g748) q_cX11_308 q_dX10_addEnergy (by decide) rfl rfl hl.1 rfl (Nat.le_of_ble_eq_true rfl) dX11_charge_40 (fun y755 H locs f754 ry755 h756 hF hB => ?_)
            obtain ⟨uy755, t757, g758⟩ := h756
            have z759 : q_is (q_z f754 v0 11) tm := Eq.trans (hF.z hv0 (by rw [kv0]; rfl)) z725
            have z760 : q_is (q_z f754 v0 3) nn := Eq.trans (hF.z hv0 (by rw [kv0]; rfl)) z726
            have z761 : q_is (q_z f754 v0 4) ln := Eq.trans (hF.z hv0 (by rw [kv0]; rfl)) z727
            have z762 : q_is (q_z f754 v0 5) mn := Eq.trans (hF.z hv0 (by rw [kv0]; rfl)) z728
            have z763 : q_is (q_z f754 v0 6) yr := Eq.trans (hF.z hv0 (by rw [kv0]; rfl)) z729
            have z764 : q_is (q_z f754 hist 1) 4 := Eq.trans (hF.z hhist (by rw [khist]; rfl)) z722
            have z765 : q_is (q_z f754 hist 2) y752 := Eq.trans (hF.z hhist (by rw [khist]; rfl)) ey752
            have z766 : q_ir (q_r f754 x 0) so := Eq.trans (hF.r hx (by rw [kx]; rfl)) z730
            have z767 : q_ir (q_r f754 x 1) rd := Eq.trans (hF.r hx (by rw [kx]; rfl)) z731
            have z768 : q_ir (q_r f754 x 3) fc := Eq.trans (hF.r hx (by rw [kx]; rfl)) z732
            have z769 : q_ir (q_r f754 x 4) hist := Eq.trans (hF.r hx (by rw [kx]; rfl)) z733
            have z770 : q_ir (q_r f754 x 6) v0 := Eq.trans (hF.r hx (by rw [kx]; rfl)) z734
            have z771 : q_ir (q_r f754 x 7) v1 := Eq.trans (hF.r hx (by rw [kx]; rfl)) z735
            have z772 : q_ir (q_r f754 so 0) ba := Eq.trans (hF.r hso (by rw [kso]; rfl)) z736
            have z773 : q_ir (q_r f754 hist 0) ka := Eq.trans (hF.r hhist (by rw [khist]; rfl)) z737
            have z774 : q_ir (q_r f754 fc 0) v3 := Eq.trans (hF.r hfc (by rw [kfc]; rfl)) z738
            have z775 : q_ir (q_r f754 v0 0) n0 := Eq.trans (hF.r hv0 (by rw [kv0]; rfl)) z739
            have z776 : q_ir (q_r f754 v0 1) l0 := Eq.trans (hF.r hv0 (by rw [kv0]; rfl)) z740
            have z777 : q_ir (q_r f754 v0 2) m0 := Eq.trans (hF.r hv0 (by rw [kv0]; rfl)) z741
            have z778 : q_ir (q_r f754 v1 0) n1 := Eq.trans (hF.r hv1 (by rw [kv1]; rfl)) z742
            have z779 : q_ir (q_r f754 v1 1) l1 := Eq.trans (hF.r hv1 (by rw [kv1]; rfl)) z743
            have z780 : q_ir (q_r f754 v1 2) m1 := Eq.trans (hF.r hv1 (by rw [kv1]; rfl)) z744
            have z781 : q_ir (q_r f754 v3 0) n3 := Eq.trans (hF.r hv3 (by rw [kv3]; rfl)) z745
            have z782 : q_ir (q_r f754 v3 1) l3 := Eq.trans (hF.r hv3 (by rw [kv3]; rfl)) z746
            have z783 : q_ir (q_r f754 v3 2) m3 := Eq.trans (hF.r hv3 (by rw [kv3]; rfl)) z747
            have g784 : tw_nw K L 5 f754 := tw_nw_tr g749 (fun a9 h9 k9 => hF.j h9 (by rw [k9]; rfl))
            have g785 : ∃ s9 : tw_S, tw_vw K L 15 19 23 27 f754 v3 n3 l3 m3 d3 s9 := tw_ex_tr g750 (fun a9 h9 k9 c9 => hF.z h9 (by rw [k9]; rfl)) (fun a9 h9 k9 c9 => hF.z h9 (by rw [k9]; rfl)) (fun a9 h9 k9 c9 => hF.z h9 (by rw [k9]; rfl)) (fun a9 h9 k9 c9 => hF.z h9 (by rw [k9]; rfl)) (fun i9 => hF.r hn3 (by rw [kn3]; rfl)) (fun i9 => hF.r hl3 (by rw [kl3]; rfl)) (fun i9 => hF.r hm3 (by rw [km3]; rfl))
            have g786 : tw_nw K L 19 f754 := tw_nw_tr g751 (fun a9 h9 k9 => hF.j h9 (by rw [k9]; rfl))
            have g787 : tw_hk K L f754 ka A9 D9 (tw_hu S9 3 (tw_cp (S9 3) s0)) := tw_hk_tr g724 (fun a9 h9 k9 i9 => hF a9 h9 i9 (tw_krw rfl k9))
            refine q_iret cx hr hlk hB dX11_charge_43 ⟨by omega, by omega⟩ ?_
            exact ⟨(by omega), (Eq.trans z764 (by have e9 : sl = 3 := by omega; rw [e9]; rfl)), (Eq.trans z765 (by omega)), (by have t0_ : y755 = (tw_ae s0 a0 b0) (1 + Int.toNat a0) 4 := t757; (try simp only [t0_]); (repeat' split) <;> first | rfl | (exfalso; omega)), g758, g784, (tw_hkg g787 (by have e9 : sl = 3 := by omega; rw [e9]; rfl))⟩
          · by_cases c788 : sl ≤ 4
            · refine q_cVv (As := [.ref v0]) (rest := []) cx hB (fun _ h => h) hN hhist khist (by decide) rfl (f_keep_4 l g hN hB.2.1 d0 s0 A9 D9 S9 hist hhist khist v0 hv0 kv0 n0 hn0 kn0 l0 hl0 kl0 m0 hm0 km0 ka hka kka tm (by omega) (by omega) nn (by omega) (by omega) ln (by omega) (by omega) mn (by omega) (by omega) my (by omega) (by omega) hf0 hf1 hf2 hf3 (Eq.trans hf5 (by omega)) hf6 hr7 hr9 hr10 hr11 hw0 hz0 hhk) q_cX11_107 q_dX2_keep (by decide) rfl rfl hl.1 rfl (Nat.le_of_ble_eq_true rfl) dX11_charge_31 (fun H locs f789 h791 hF hB => ?_)
              obtain ⟨z792, t793, g794⟩ := h791
              have z795 : q_is (q_z f789 v0 11) tm := Eq.trans (hF.z hv0 (by rw [kv0]; rfl)) hf0
              have z796 : q_is (q_z f789 v0 3) nn := Eq.trans (hF.z hv0 (by rw [kv0]; rfl)) hf1
              have z797 : q_is (q_z f789 v0 4) ln := Eq.trans (hF.z hv0 (by rw [kv0]; rfl)) hf2
              have z798 : q_is (q_z f789 v0 5) mn := Eq.trans (hF.z hv0 (by rw [kv0]; rfl)) hf3
              have z799 : q_is (q_z f789 v0 6) yr := Eq.trans (hF.z hv0 (by rw [kv0]; rfl)) hf4
              have z800 : q_ir (q_r f789 x 0) so := Eq.trans (hF.r hx (by rw [kx]; rfl)) hr0
              have z801 : q_ir (q_r f789 x 1) rd := Eq.trans (hF.r hx (by rw [kx]; rfl)) hr1
              have z802 : q_ir (q_r f789 x 3) fc := Eq.trans (hF.r hx (by rw [kx]; rfl)) hr2
              have z803 : q_ir (q_r f789 x 4) hist := Eq.trans (hF.r hx (by rw [kx]; rfl)) hr3
              have z804 : q_ir (q_r f789 x 6) v0 := Eq.trans (hF.r hx (by rw [kx]; rfl)) hr4
              have z805 : q_ir (q_r f789 x 7) v1 := Eq.trans (hF.r hx (by rw [kx]; rfl)) hr5
              have z806 : q_ir (q_r f789 so 0) ba := Eq.trans (hF.r hso (by rw [kso]; rfl)) hr6
              have z807 : q_ir (q_r f789 hist 0) ka := Eq.trans (hF.r hhist (by rw [khist]; rfl)) hr7
              have z808 : q_ir (q_r f789 fc 0) v3 := Eq.trans (hF.r hfc (by rw [kfc]; rfl)) hr8
              have z809 : q_ir (q_r f789 v0 0) n0 := Eq.trans (hF.r hv0 (by rw [kv0]; rfl)) hr9
              have z810 : q_ir (q_r f789 v0 1) l0 := Eq.trans (hF.r hv0 (by rw [kv0]; rfl)) hr10
              have z811 : q_ir (q_r f789 v0 2) m0 := Eq.trans (hF.r hv0 (by rw [kv0]; rfl)) hr11
              have z812 : q_ir (q_r f789 v1 0) n1 := Eq.trans (hF.r hv1 (by rw [kv1]; rfl)) hr12
              have z813 : q_ir (q_r f789 v1 1) l1 := Eq.trans (hF.r hv1 (by rw [kv1]; rfl)) hr13
              have z814 : q_ir (q_r f789 v1 2) m1 := Eq.trans (hF.r hv1 (by rw [kv1]; rfl)) hr14
              have z815 : q_ir (q_r f789 v3 0) n3 := Eq.trans (hF.r hv3 (by rw [kv3]; rfl)) hr15
              have z816 : q_ir (q_r f789 v3 1) l3 := Eq.trans (hF.r hv3 (by rw [kv3]; rfl)) hr16
              have z817 : q_ir (q_r f789 v3 2) m3 := Eq.trans (hF.r hv3 (by rw [kv3]; rfl)) hr17
              have g818 : tw_vw K L 10 5 3 4 f789 v0 n0 l0 m0 d0 s0 := tw_vw_tr hw0 (fun a9 h9 k9 c9 => hF.z h9 (by rw [k9]; rfl)) (fun a9 h9 k9 c9 => hF.z h9 (by rw [k9]; rfl)) (fun a9 h9 k9 c9 => hF.z h9 (by rw [k9]; rfl)) (fun a9 h9 k9 c9 => hF.z h9 (by rw [k9]; rfl)) (fun i9 => hF.r hn0 (by rw [kn0]; rfl)) (fun i9 => hF.r hl0 (by rw [kl0]; rfl)) (fun i9 => hF.r hm0 (by rw [km0]; rfl))
              have g819 : tw_nw K L 5 f789 := tw_nw_tr hz0 (fun a9 h9 k9 => hF.j h9 (by rw [k9]; rfl))
              have g820 : ∃ s9 : tw_S, tw_vw K L 15 19 23 27 f789 v3 n3 l3 m3 d3 s9 := tw_ex_tr he3 (fun a9 h9 k9 c9 => hF.z h9 (by rw [k9]; rfl)) (fun a9 h9 k9 c9 => hF.z h9 (by rw [k9]; rfl)) (fun a9 h9 k9 c9 => hF.z h9 (by rw [k9]; rfl)) (fun a9 h9 k9 c9 => hF.z h9 (by rw [k9]; rfl)) (fun i9 => hF.r hn3 (by rw [kn3]; rfl)) (fun i9 => hF.r hl3 (by rw [kl3]; rfl)) (fun i9 => hF.r hm3 (by rw [km3]; rfl))
              have g821 : tw_nw K L 19 f789 := tw_nw_tr hz3 (fun a9 h9 k9 => hF.j h9 (by rw [k9]; rfl))
              obtain ⟨y822, ey822, ny822⟩ : ∃ zz : Int, q_is (q_z f789 hist 2) zz ∧ zz = min 6 (my + 1) := ⟨_, t793, rfl⟩
              have ly822 : 1 ≤ y822 ∧ y822 ≤ 6 := by omega
              refine q_ald_n cx dX11_charge_34 rfl (lv_at hl 0 rfl) ?_
              refine q_gX11_54 cx hB hx kx z804 dX11_charge_35 (fun hb823 kb823 => ?_)
              refine q_ild_n cx dX11_charge_38 rfl (lv_at hl 1 rfl) ?_
              refine q_ild_n cx dX11_charge_39 rfl (lv_at hl 2 rfl) ?_
              refine q_cVi (As := [.int (q_i a0), .int (q_i b0)]) (rest := []) cx hB (fun _ h => h) hN hv0 kv0 (by decide) rfl (f_addEnergy l g hN hB.2.1 d0 s0 v0 hv0 kv0 a0 (by omega) (by omega) b0 (by omega) (by omega) n0 hn0 kn0 l0 hl0 kl0 m0 hm0 km0 z809 z810 z811 g818) q_cX11_308 q_dX10_addEnergy (by decide) rfl rfl hl.1 rfl (Nat.le_of_ble_eq_true rfl) dX11_charge_40 (fun y825 H locs f824 ry825 h826 hF hB => ?_)
              obtain ⟨uy825, t827, g828⟩ := h826
              have z829 : q_is (q_z f824 v0 11) tm := Eq.trans (hF.z hv0 (by rw [kv0]; rfl)) z795
              have z830 : q_is (q_z f824 v0 3) nn := Eq.trans (hF.z hv0 (by rw [kv0]; rfl)) z796
              have z831 : q_is (q_z f824 v0 4) ln := Eq.trans (hF.z hv0 (by rw [kv0]; rfl)) z797
              have z832 : q_is (q_z f824 v0 5) mn := Eq.trans (hF.z hv0 (by rw [kv0]; rfl)) z798
              have z833 : q_is (q_z f824 v0 6) yr := Eq.trans (hF.z hv0 (by rw [kv0]; rfl)) z799
              have z834 : q_is (q_z f824 hist 1) 5 := Eq.trans (hF.z hhist (by rw [khist]; rfl)) z792
              have z835 : q_is (q_z f824 hist 2) y822 := Eq.trans (hF.z hhist (by rw [khist]; rfl)) ey822
              have z836 : q_ir (q_r f824 x 0) so := Eq.trans (hF.r hx (by rw [kx]; rfl)) z800
              have z837 : q_ir (q_r f824 x 1) rd := Eq.trans (hF.r hx (by rw [kx]; rfl)) z801
              have z838 : q_ir (q_r f824 x 3) fc := Eq.trans (hF.r hx (by rw [kx]; rfl)) z802
              have z839 : q_ir (q_r f824 x 4) hist := Eq.trans (hF.r hx (by rw [kx]; rfl)) z803
              have z840 : q_ir (q_r f824 x 6) v0 := Eq.trans (hF.r hx (by rw [kx]; rfl)) z804
              have z841 : q_ir (q_r f824 x 7) v1 := Eq.trans (hF.r hx (by rw [kx]; rfl)) z805
              have z842 : q_ir (q_r f824 so 0) ba := Eq.trans (hF.r hso (by rw [kso]; rfl)) z806
              have z843 : q_ir (q_r f824 hist 0) ka := Eq.trans (hF.r hhist (by rw [khist]; rfl)) z807
              have z844 : q_ir (q_r f824 fc 0) v3 := Eq.trans (hF.r hfc (by rw [kfc]; rfl)) z808
              have z845 : q_ir (q_r f824 v0 0) n0 := Eq.trans (hF.r hv0 (by rw [kv0]; rfl)) z809
              have z846 : q_ir (q_r f824 v0 1) l0 := Eq.trans (hF.r hv0 (by rw [kv0]; rfl)) z810
              have z847 : q_ir (q_r f824 v0 2) m0 := Eq.trans (hF.r hv0 (by rw [kv0]; rfl)) z811
              have z848 : q_ir (q_r f824 v1 0) n1 := Eq.trans (hF.r hv1 (by rw [kv1]; rfl)) z812
              have z849 : q_ir (q_r f824 v1 1) l1 := Eq.trans (hF.r hv1 (by rw [kv1]; rfl)) z813
              have z850 : q_ir (q_r f824 v1 2) m1 := Eq.trans (hF.r hv1 (by rw [kv1]; rfl)) z814
              have z851 : q_ir (q_r f824 v3 0) n3 := Eq.trans (hF.r hv3 (by rw [kv3]; rfl)) z815
              have z852 : q_ir (q_r f824 v3 1) l3 := Eq.trans (hF.r hv3 (by rw [kv3]; rfl)) z816
              have z853 : q_ir (q_r f824 v3 2) m3 := Eq.trans (hF.r hv3 (by rw [kv3]; rfl)) z817
              have g854 : tw_nw K L 5 f824 := tw_nw_tr g819 (fun a9 h9 k9 => hF.j h9 (by rw [k9]; rfl))
              have g855 : ∃ s9 : tw_S, tw_vw K L 15 19 23 27 f824 v3 n3 l3 m3 d3 s9 := tw_ex_tr g820 (fun a9 h9 k9 c9 => hF.z h9 (by rw [k9]; rfl)) (fun a9 h9 k9 c9 => hF.z h9 (by rw [k9]; rfl)) (fun a9 h9 k9 c9 => hF.z h9 (by rw [k9]; rfl)) (fun a9 h9 k9 c9 => hF.z h9 (by rw [k9]; rfl)) (fun i9 => hF.r hn3 (by rw [kn3]; rfl)) (fun i9 => hF.r hl3 (by rw [kl3]; rfl)) (fun i9 => hF.r hm3 (by rw [km3]; rfl))
              have g856 : tw_nw K L 19 f824 := tw_nw_tr g821 (fun a9 h9 k9 => hF.j h9 (by rw [k9]; rfl))
              have g857 : tw_hk K L f824 ka A9 D9 (tw_hu S9 4 (tw_cp (S9 4) s0)) := tw_hk_tr g794 (fun a9 h9 k9 i9 => hF a9 h9 i9 (tw_krw rfl k9))
              refine q_iret cx hr hlk hB dX11_charge_43 ⟨by omega, by omega⟩ ?_
              exact ⟨(by omega), (Eq.trans z834 (by have e9 : sl = 4 := by omega; rw [e9]; rfl)), (Eq.trans z835 (by omega)), (by have t0_ : y825 = (tw_ae s0 a0 b0) (1 + Int.toNat a0) 4 := t827; (try simp only [t0_]); (repeat' split) <;> first | rfl | (exfalso; omega)), g828, g854, (tw_hkg g857 (by have e9 : sl = 4 := by omega; rw [e9]; rfl))⟩
            · by_cases c858 : sl ≤ 5
              · refine q_cVv (As := [.ref v0]) (rest := []) cx hB (fun _ h => h) hN hhist khist (by decide) rfl (f_keep_5 l g hN hB.2.1 d0 s0 A9 D9 S9 hist hhist khist v0 hv0 kv0 n0 hn0 kn0 l0 hl0 kl0 m0 hm0 km0 ka hka kka tm (by omega) (by omega) nn (by omega) (by omega) ln (by omega) (by omega) mn (by omega) (by omega) my (by omega) (by omega) hf0 hf1 hf2 hf3 (Eq.trans hf5 (by omega)) hf6 hr7 hr9 hr10 hr11 hw0 hz0 hhk) q_cX11_107 q_dX2_keep (by decide) rfl rfl hl.1 rfl (Nat.le_of_ble_eq_true rfl) dX11_charge_31 (fun H locs f859 h861 hF hB => ?_)
                obtain ⟨z862, t863, g864⟩ := h861
                have z865 : q_is (q_z f859 v0 11) tm := Eq.trans (hF.z hv0 (by rw [kv0]; rfl)) hf0
                have z866 : q_is (q_z f859 v0 3) nn := Eq.trans (hF.z hv0 (by rw [kv0]; rfl)) hf1
                have z867 : q_is (q_z f859 v0 4) ln := Eq.trans (hF.z hv0 (by rw [kv0]; rfl)) hf2
                have z868 : q_is (q_z f859 v0 5) mn := Eq.trans (hF.z hv0 (by rw [kv0]; rfl)) hf3
                have z869 : q_is (q_z f859 v0 6) yr := Eq.trans (hF.z hv0 (by rw [kv0]; rfl)) hf4
                have z870 : q_ir (q_r f859 x 0) so := Eq.trans (hF.r hx (by rw [kx]; rfl)) hr0
                have z871 : q_ir (q_r f859 x 1) rd := Eq.trans (hF.r hx (by rw [kx]; rfl)) hr1
                have z872 : q_ir (q_r f859 x 3) fc := Eq.trans (hF.r hx (by rw [kx]; rfl)) hr2
                have z873 : q_ir (q_r f859 x 4) hist := Eq.trans (hF.r hx (by rw [kx]; rfl)) hr3
                have z874 : q_ir (q_r f859 x 6) v0 := Eq.trans (hF.r hx (by rw [kx]; rfl)) hr4
                have z875 : q_ir (q_r f859 x 7) v1 := Eq.trans (hF.r hx (by rw [kx]; rfl)) hr5
                have z876 : q_ir (q_r f859 so 0) ba := Eq.trans (hF.r hso (by rw [kso]; rfl)) hr6
                have z877 : q_ir (q_r f859 hist 0) ka := Eq.trans (hF.r hhist (by rw [khist]; rfl)) hr7
                have z878 : q_ir (q_r f859 fc 0) v3 := Eq.trans (hF.r hfc (by rw [kfc]; rfl)) hr8
                have z879 : q_ir (q_r f859 v0 0) n0 := Eq.trans (hF.r hv0 (by rw [kv0]; rfl)) hr9
                have z880 : q_ir (q_r f859 v0 1) l0 := Eq.trans (hF.r hv0 (by rw [kv0]; rfl)) hr10
                have z881 : q_ir (q_r f859 v0 2) m0 := Eq.trans (hF.r hv0 (by rw [kv0]; rfl)) hr11
                have z882 : q_ir (q_r f859 v1 0) n1 := Eq.trans (hF.r hv1 (by rw [kv1]; rfl)) hr12
                have z883 : q_ir (q_r f859 v1 1) l1 := Eq.trans (hF.r hv1 (by rw [kv1]; rfl)) hr13
                have z884 : q_ir (q_r f859 v1 2) m1 := Eq.trans (hF.r hv1 (by rw [kv1]; rfl)) hr14
                have z885 : q_ir (q_r f859 v3 0) n3 := Eq.trans (hF.r hv3 (by rw [kv3]; rfl)) hr15
                have z886 : q_ir (q_r f859 v3 1) l3 := Eq.trans (hF.r hv3 (by rw [kv3]; rfl)) hr16
                have z887 : q_ir (q_r f859 v3 2) m3 := Eq.trans (hF.r hv3 (by rw [kv3]; rfl)) hr17
                have g888 : tw_vw K L 10 5 3 4 f859 v0 n0 l0 m0 d0 s0 := tw_vw_tr hw0 (fun a9 h9 k9 c9 => hF.z h9 (by rw [k9]; rfl)) (fun a9 h9 k9 c9 => hF.z h9 (by rw [k9]; rfl)) (fun a9 h9 k9 c9 => hF.z h9 (by rw [k9]; rfl)) (fun a9 h9 k9 c9 => hF.z h9 (by rw [k9]; rfl)) (fun i9 => hF.r hn0 (by rw [kn0]; rfl)) (fun i9 => hF.r hl0 (by rw [kl0]; rfl)) (fun i9 => hF.r hm0 (by rw [km0]; rfl))
                have g889 : tw_nw K L 5 f859 := tw_nw_tr hz0 (fun a9 h9 k9 => hF.j h9 (by rw [k9]; rfl))
                have g890 : ∃ s9 : tw_S, tw_vw K L 15 19 23 27 f859 v3 n3 l3 m3 d3 s9 := tw_ex_tr he3 (fun a9 h9 k9 c9 => hF.z h9 (by rw [k9]; rfl)) (fun a9 h9 k9 c9 => hF.z h9 (by rw [k9]; rfl)) (fun a9 h9 k9 c9 => hF.z h9 (by rw [k9]; rfl)) (fun a9 h9 k9 c9 => hF.z h9 (by rw [k9]; rfl)) (fun i9 => hF.r hn3 (by rw [kn3]; rfl)) (fun i9 => hF.r hl3 (by rw [kl3]; rfl)) (fun i9 => hF.r hm3 (by rw [km3]; rfl))
                have g891 : tw_nw K L 19 f859 := tw_nw_tr hz3 (fun a9 h9 k9 => hF.j h9 (by rw [k9]; rfl))
                obtain ⟨y892, ey892, ny892⟩ : ∃ zz : Int, q_is (q_z f859 hist 2) zz ∧ zz = min 6 (my + 1) := ⟨_, t863, rfl⟩
                have ly892 : 1 ≤ y892 ∧ y892 ≤ 6 := by omega
                refine q_ald_n cx dX11_charge_34 rfl (lv_at hl 0 rfl) ?_
                refine q_gX11_54 cx hB hx kx z874 dX11_charge_35 (fun hb893 kb893 => ?_)
                refine q_ild_n cx dX11_charge_38 rfl (lv_at hl 1 rfl) ?_
                refine q_ild_n cx dX11_charge_39 rfl (lv_at hl 2 rfl) ?_
                refine q_cVi (As := [.int (q_i a0), .int (q_i b0)]) (rest := []) cx hB (fun _ h => h) hN hv0 kv0 (by decide) rfl (f_addEnergy l g hN hB.2.1 d0 s0 v0 hv0 kv0 a0 (by omega) (by omega) b0 (by omega) (by omega) n0 hn0 kn0 l0 hl0 kl0 m0 hm0 km0 z879 z880 z881 g888) q_cX11_308 q_dX10_addEnergy (by decide) rfl rfl hl.1 rfl (Nat.le_of_ble_eq_true rfl) dX11_charge_40 (fun y895 H locs f894 ry895 h896 hF hB => ?_)
                obtain ⟨uy895, t897, g898⟩ := h896
                have z899 : q_is (q_z f894 v0 11) tm := Eq.trans (hF.z hv0 (by rw [kv0]; rfl)) z865
                have z900 : q_is (q_z f894 v0 3) nn := Eq.trans (hF.z hv0 (by rw [kv0]; rfl)) z866
                have z901 : q_is (q_z f894 v0 4) ln := Eq.trans (hF.z hv0 (by rw [kv0]; rfl)) z867
                have z902 : q_is (q_z f894 v0 5) mn := Eq.trans (hF.z hv0 (by rw [kv0]; rfl)) z868
                have z903 : q_is (q_z f894 v0 6) yr := Eq.trans (hF.z hv0 (by rw [kv0]; rfl)) z869
                have z904 : q_is (q_z f894 hist 1) 6 := Eq.trans (hF.z hhist (by rw [khist]; rfl)) z862
                have z905 : q_is (q_z f894 hist 2) y892 := Eq.trans (hF.z hhist (by rw [khist]; rfl)) ey892
                have z906 : q_ir (q_r f894 x 0) so := Eq.trans (hF.r hx (by rw [kx]; rfl)) z870
                have z907 : q_ir (q_r f894 x 1) rd := Eq.trans (hF.r hx (by rw [kx]; rfl)) z871
                have z908 : q_ir (q_r f894 x 3) fc := Eq.trans (hF.r hx (by rw [kx]; rfl)) z872
                have z909 : q_ir (q_r f894 x 4) hist := Eq.trans (hF.r hx (by rw [kx]; rfl)) z873
                have z910 : q_ir (q_r f894 x 6) v0 := Eq.trans (hF.r hx (by rw [kx]; rfl)) z874
                have z911 : q_ir (q_r f894 x 7) v1 := Eq.trans (hF.r hx (by rw [kx]; rfl)) z875
                have z912 : q_ir (q_r f894 so 0) ba := Eq.trans (hF.r hso (by rw [kso]; rfl)) z876
                have z913 : q_ir (q_r f894 hist 0) ka := Eq.trans (hF.r hhist (by rw [khist]; rfl)) z877
                have z914 : q_ir (q_r f894 fc 0) v3 := Eq.trans (hF.r hfc (by rw [kfc]; rfl)) z878
                have z915 : q_ir (q_r f894 v0 0) n0 := Eq.trans (hF.r hv0 (by rw [kv0]; rfl)) z879
                have z916 : q_ir (q_r f894 v0 1) l0 := Eq.trans (hF.r hv0 (by rw [kv0]; rfl)) z880
                have z917 : q_ir (q_r f894 v0 2) m0 := Eq.trans (hF.r hv0 (by rw [kv0]; rfl)) z881
                have z918 : q_ir (q_r f894 v1 0) n1 := Eq.trans (hF.r hv1 (by rw [kv1]; rfl)) z882
                have z919 : q_ir (q_r f894 v1 1) l1 := Eq.trans (hF.r hv1 (by rw [kv1]; rfl)) z883
                have z920 : q_ir (q_r f894 v1 2) m1 := Eq.trans (hF.r hv1 (by rw [kv1]; rfl)) z884
                have z921 : q_ir (q_r f894 v3 0) n3 := Eq.trans (hF.r hv3 (by rw [kv3]; rfl)) z885
                have z922 : q_ir (q_r f894 v3 1) l3 := Eq.trans (hF.r hv3 (by rw [kv3]; rfl)) z886
                have z923 : q_ir (q_r f894 v3 2) m3 := Eq.trans (hF.r hv3 (by rw [kv3]; rfl)) z887
                have g924 : tw_nw K L 5 f894 := tw_nw_tr g889 (fun a9 h9 k9 => hF.j h9 (by rw [k9]; rfl))
                have g925 : ∃ s9 : tw_S, tw_vw K L 15 19 23 27 f894 v3 n3 l3 m3 d3 s9 := tw_ex_tr g890 (fun a9 h9 k9 c9 => hF.z h9 (by rw [k9]; rfl)) (fun a9 h9 k9 c9 => hF.z h9 (by rw [k9]; rfl)) (fun a9 h9 k9 c9 => hF.z h9 (by rw [k9]; rfl)) (fun a9 h9 k9 c9 => hF.z h9 (by rw [k9]; rfl)) (fun i9 => hF.r hn3 (by rw [kn3]; rfl)) (fun i9 => hF.r hl3 (by rw [kl3]; rfl)) (fun i9 => hF.r hm3 (by rw [km3]; rfl))
                have g926 : tw_nw K L 19 f894 := tw_nw_tr g891 (fun a9 h9 k9 => hF.j h9 (by rw [k9]; rfl))
                have g927 : tw_hk K L f894 ka A9 D9 (tw_hu S9 5 (tw_cp (S9 5) s0)) := tw_hk_tr g864 (fun a9 h9 k9 i9 => hF a9 h9 i9 (tw_krw rfl k9))
                refine q_iret cx hr hlk hB dX11_charge_43 ⟨by omega, by omega⟩ ?_
                exact ⟨(by omega), (Eq.trans z904 (by have e9 : sl = 5 := by omega; rw [e9]; rfl)), (Eq.trans z905 (by omega)), (by have t0_ : y895 = (tw_ae s0 a0 b0) (1 + Int.toNat a0) 4 := t897; (try simp only [t0_]); (repeat' split) <;> first | rfl | (exfalso; omega)), g898, g924, (tw_hkg g927 (by have e9 : sl = 5 := by omega; rw [e9]; rfl))⟩
              · refine q_cVv (As := [.ref v0]) (rest := []) cx hB (fun _ h => h) hN hhist khist (by decide) rfl (f_keep_6 l g hN hB.2.1 d0 s0 A9 D9 S9 hist hhist khist v0 hv0 kv0 n0 hn0 kn0 l0 hl0 kl0 m0 hm0 km0 ka hka kka tm (by omega) (by omega) nn (by omega) (by omega) ln (by omega) (by omega) mn (by omega) (by omega) my (by omega) (by omega) hf0 hf1 hf2 hf3 (Eq.trans hf5 (by omega)) hf6 hr7 hr9 hr10 hr11 hw0 hz0 hhk) q_cX11_107 q_dX2_keep (by decide) rfl rfl hl.1 rfl (Nat.le_of_ble_eq_true rfl) dX11_charge_31 (fun H locs f928 h930 hF hB => ?_)
                obtain ⟨z931, t932, g933⟩ := h930
                have z934 : q_is (q_z f928 v0 11) tm := Eq.trans (hF.z hv0 (by rw [kv0]; rfl)) hf0
                have z935 : q_is (q_z f928 v0 3) nn := Eq.trans (hF.z hv0 (by rw [kv0]; rfl)) hf1
                have z936 : q_is (q_z f928 v0 4) ln := Eq.trans (hF.z hv0 (by rw [kv0]; rfl)) hf2
                have z937 : q_is (q_z f928 v0 5) mn := Eq.trans (hF.z hv0 (by rw [kv0]; rfl)) hf3
                have z938 : q_is (q_z f928 v0 6) yr := Eq.trans (hF.z hv0 (by rw [kv0]; rfl)) hf4
                have z939 : q_ir (q_r f928 x 0) so := Eq.trans (hF.r hx (by rw [kx]; rfl)) hr0
                have z940 : q_ir (q_r f928 x 1) rd := Eq.trans (hF.r hx (by rw [kx]; rfl)) hr1
                have z941 : q_ir (q_r f928 x 3) fc := Eq.trans (hF.r hx (by rw [kx]; rfl)) hr2
                have z942 : q_ir (q_r f928 x 4) hist := Eq.trans (hF.r hx (by rw [kx]; rfl)) hr3
                have z943 : q_ir (q_r f928 x 6) v0 := Eq.trans (hF.r hx (by rw [kx]; rfl)) hr4
                have z944 : q_ir (q_r f928 x 7) v1 := Eq.trans (hF.r hx (by rw [kx]; rfl)) hr5
                have z945 : q_ir (q_r f928 so 0) ba := Eq.trans (hF.r hso (by rw [kso]; rfl)) hr6
                have z946 : q_ir (q_r f928 hist 0) ka := Eq.trans (hF.r hhist (by rw [khist]; rfl)) hr7
                have z947 : q_ir (q_r f928 fc 0) v3 := Eq.trans (hF.r hfc (by rw [kfc]; rfl)) hr8
                have z948 : q_ir (q_r f928 v0 0) n0 := Eq.trans (hF.r hv0 (by rw [kv0]; rfl)) hr9
                have z949 : q_ir (q_r f928 v0 1) l0 := Eq.trans (hF.r hv0 (by rw [kv0]; rfl)) hr10
                have z950 : q_ir (q_r f928 v0 2) m0 := Eq.trans (hF.r hv0 (by rw [kv0]; rfl)) hr11
                have z951 : q_ir (q_r f928 v1 0) n1 := Eq.trans (hF.r hv1 (by rw [kv1]; rfl)) hr12
                have z952 : q_ir (q_r f928 v1 1) l1 := Eq.trans (hF.r hv1 (by rw [kv1]; rfl)) hr13
                have z953 : q_ir (q_r f928 v1 2) m1 := Eq.trans (hF.r hv1 (by rw [kv1]; rfl)) hr14
                have z954 : q_ir (q_r f928 v3 0) n3 := Eq.trans (hF.r hv3 (by rw [kv3]; rfl)) hr15
                have z955 : q_ir (q_r f928 v3 1) l3 := Eq.trans (hF.r hv3 (by rw [kv3]; rfl)) hr16
                have z956 : q_ir (q_r f928 v3 2) m3 := Eq.trans (hF.r hv3 (by rw [kv3]; rfl)) hr17
                have g957 : tw_vw K L 10 5 3 4 f928 v0 n0 l0 m0 d0 s0 := tw_vw_tr hw0 (fun a9 h9 k9 c9 => hF.z h9 (by rw [k9]; rfl)) (fun a9 h9 k9 c9 => hF.z h9 (by rw [k9]; rfl)) (fun a9 h9 k9 c9 => hF.z h9 (by rw [k9]; rfl)) (fun a9 h9 k9 c9 => hF.z h9 (by rw [k9]; rfl)) (fun i9 => hF.r hn0 (by rw [kn0]; rfl)) (fun i9 => hF.r hl0 (by rw [kl0]; rfl)) (fun i9 => hF.r hm0 (by rw [km0]; rfl))
                have g958 : tw_nw K L 5 f928 := tw_nw_tr hz0 (fun a9 h9 k9 => hF.j h9 (by rw [k9]; rfl))
                have g959 : ∃ s9 : tw_S, tw_vw K L 15 19 23 27 f928 v3 n3 l3 m3 d3 s9 := tw_ex_tr he3 (fun a9 h9 k9 c9 => hF.z h9 (by rw [k9]; rfl)) (fun a9 h9 k9 c9 => hF.z h9 (by rw [k9]; rfl)) (fun a9 h9 k9 c9 => hF.z h9 (by rw [k9]; rfl)) (fun a9 h9 k9 c9 => hF.z h9 (by rw [k9]; rfl)) (fun i9 => hF.r hn3 (by rw [kn3]; rfl)) (fun i9 => hF.r hl3 (by rw [kl3]; rfl)) (fun i9 => hF.r hm3 (by rw [km3]; rfl))
                have g960 : tw_nw K L 19 f928 := tw_nw_tr hz3 (fun a9 h9 k9 => hF.j h9 (by rw [k9]; rfl))
                obtain ⟨y961, ey961, ny961⟩ : ∃ zz : Int, q_is (q_z f928 hist 2) zz ∧ zz = min 6 (my + 1) := ⟨_, t932, rfl⟩
                have ly961 : 1 ≤ y961 ∧ y961 ≤ 6 := by omega
                refine q_ald_n cx dX11_charge_34 rfl (lv_at hl 0 rfl) ?_
                refine q_gX11_54 cx hB hx kx z943 dX11_charge_35 (fun hb962 kb962 => ?_)
                refine q_ild_n cx dX11_charge_38 rfl (lv_at hl 1 rfl) ?_
                refine q_ild_n cx dX11_charge_39 rfl (lv_at hl 2 rfl) ?_
                refine q_cVi (As := [.int (q_i a0), .int (q_i b0)]) (rest := []) cx hB (fun _ h => h) hN hv0 kv0 (by decide) rfl (f_addEnergy l g hN hB.2.1 d0 s0 v0 hv0 kv0 a0 (by omega) (by omega) b0 (by omega) (by omega) n0 hn0 kn0 l0 hl0 kl0 m0 hm0 km0 z948 z949 z950 g957) q_cX11_308 q_dX10_addEnergy (by decide) rfl rfl hl.1 rfl (Nat.le_of_ble_eq_true rfl) dX11_charge_40 (fun y964 H locs f963 ry964 h965 hF hB => ?_)
                obtain ⟨uy964, t966, g967⟩ := h965
                have z968 : q_is (q_z f963 v0 11) tm := Eq.trans (hF.z hv0 (by rw [kv0]; rfl)) z934
                have z969 : q_is (q_z f963 v0 3) nn := Eq.trans (hF.z hv0 (by rw [kv0]; rfl)) z935
                have z970 : q_is (q_z f963 v0 4) ln := Eq.trans (hF.z hv0 (by rw [kv0]; rfl)) z936
                have z971 : q_is (q_z f963 v0 5) mn := Eq.trans (hF.z hv0 (by rw [kv0]; rfl)) z937
                have z972 : q_is (q_z f963 v0 6) yr := Eq.trans (hF.z hv0 (by rw [kv0]; rfl)) z938
                have z973 : q_is (q_z f963 hist 1) 1 := Eq.trans (hF.z hhist (by rw [khist]; rfl)) z931
                have z974 : q_is (q_z f963 hist 2) y961 := Eq.trans (hF.z hhist (by rw [khist]; rfl)) ey961
                have z975 : q_ir (q_r f963 x 0) so := Eq.trans (hF.r hx (by rw [kx]; rfl)) z939
                have z976 : q_ir (q_r f963 x 1) rd := Eq.trans (hF.r hx (by rw [kx]; rfl)) z940
                have z977 : q_ir (q_r f963 x 3) fc := Eq.trans (hF.r hx (by rw [kx]; rfl)) z941
                have z978 : q_ir (q_r f963 x 4) hist := Eq.trans (hF.r hx (by rw [kx]; rfl)) z942
                have z979 : q_ir (q_r f963 x 6) v0 := Eq.trans (hF.r hx (by rw [kx]; rfl)) z943
                have z980 : q_ir (q_r f963 x 7) v1 := Eq.trans (hF.r hx (by rw [kx]; rfl)) z944
                have z981 : q_ir (q_r f963 so 0) ba := Eq.trans (hF.r hso (by rw [kso]; rfl)) z945
                have z982 : q_ir (q_r f963 hist 0) ka := Eq.trans (hF.r hhist (by rw [khist]; rfl)) z946
                have z983 : q_ir (q_r f963 fc 0) v3 := Eq.trans (hF.r hfc (by rw [kfc]; rfl)) z947
                have z984 : q_ir (q_r f963 v0 0) n0 := Eq.trans (hF.r hv0 (by rw [kv0]; rfl)) z948
                have z985 : q_ir (q_r f963 v0 1) l0 := Eq.trans (hF.r hv0 (by rw [kv0]; rfl)) z949
                have z986 : q_ir (q_r f963 v0 2) m0 := Eq.trans (hF.r hv0 (by rw [kv0]; rfl)) z950
                have z987 : q_ir (q_r f963 v1 0) n1 := Eq.trans (hF.r hv1 (by rw [kv1]; rfl)) z951
                have z988 : q_ir (q_r f963 v1 1) l1 := Eq.trans (hF.r hv1 (by rw [kv1]; rfl)) z952
                have z989 : q_ir (q_r f963 v1 2) m1 := Eq.trans (hF.r hv1 (by rw [kv1]; rfl)) z953
                have z990 : q_ir (q_r f963 v3 0) n3 := Eq.trans (hF.r hv3 (by rw [kv3]; rfl)) z954
                have z991 : q_ir (q_r f963 v3 1) l3 := Eq.trans (hF.r hv3 (by rw [kv3]; rfl)) z955
                have z992 : q_ir (q_r f963 v3 2) m3 := Eq.trans (hF.r hv3 (by rw [kv3]; rfl)) z956
                have g993 : tw_nw K L 5 f963 := tw_nw_tr g958 (fun a9 h9 k9 => hF.j h9 (by rw [k9]; rfl))
                have g994 : ∃ s9 : tw_S, tw_vw K L 15 19 23 27 f963 v3 n3 l3 m3 d3 s9 := tw_ex_tr g959 (fun a9 h9 k9 c9 => hF.z h9 (by rw [k9]; rfl)) (fun a9 h9 k9 c9 => hF.z h9 (by rw [k9]; rfl)) (fun a9 h9 k9 c9 => hF.z h9 (by rw [k9]; rfl)) (fun a9 h9 k9 c9 => hF.z h9 (by rw [k9]; rfl)) (fun i9 => hF.r hn3 (by rw [kn3]; rfl)) (fun i9 => hF.r hl3 (by rw [kl3]; rfl)) (fun i9 => hF.r hm3 (by rw [km3]; rfl))
                have g995 : tw_nw K L 19 f963 := tw_nw_tr g960 (fun a9 h9 k9 => hF.j h9 (by rw [k9]; rfl))
                have g996 : tw_hk K L f963 ka A9 D9 (tw_hu S9 0 (tw_cp (S9 0) s0)) := tw_hk_tr g933 (fun a9 h9 k9 i9 => hF a9 h9 i9 (tw_krw rfl k9))
                refine q_iret cx hr hlk hB dX11_charge_43 ⟨by omega, by omega⟩ ?_
                exact ⟨(by omega), (Eq.trans z973 (by have e9 : sl = 6 := by omega; rw [e9]; rfl)), (Eq.trans z974 (by omega)), (by have t0_ : y964 = (tw_ae s0 a0 b0) (1 + Int.toNat a0) 4 := t966; (try simp only [t0_]); (repeat' split) <;> first | rfl | (exfalso; omega)), g967, g993, (tw_hkg g996 (by have e9 : sl = 6 := by omega; rw [e9]; rfl))⟩
  · exact absurd c505 (by omega)
