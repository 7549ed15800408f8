set_option maxHeartbeats 4000000 in
set_option maxRecDepth 100000 in
theorem f_xtick (l : Launch) (g : q_G) {K : Nat → Nat} {L : List Nat} (hN : L.Nodup) {f : Nat → va_E} (hT : q_Ty g K L f) (d0 : Nat → Nat) (s0 : tw_S) (d3 : Nat → Nat) (A9 : Nat → Nat → Nat) (D9 : Nat → Nat → Nat) (S9 : Nat → tw_S) (x : Nat) (hx : x ∈ L) (kx : K x = 11) (a0 : Int) (la0 : 1 ≤ a0) (ua0 : a0 ≤ 99) (so : Nat) (hso : so ∈ L) (kso : K so = 8) (rd : Nat) (hrd : rd ∈ L) (krd : K rd = 9) (fc : Nat) (hfc : fc ∈ L) (kfc : K fc = 1) (hist : Nat) (hhist : hist ∈ L) (khist : K hist = 2) (v0 : Nat) (hv0 : v0 ∈ L) (kv0 : K v0 = 10) (v1 : Nat) (hv1 : v1 ∈ L) (kv1 : K v1 = 13) (ba : Nat) (hba : ba ∈ L) (kba : K ba = 142) (ka : Nat) (hka : ka ∈ L) (kka : K ka = 218) (v3 : Nat) (hv3 : v3 ∈ L) (kv3 : K v3 = 15) (n0 : Nat) (hn0 : n0 ∈ L) (kn0 : K n0 = 110) (l0 : Nat) (hl0 : l0 ∈ L) (kl0 : K l0 = 120) (m0 : Nat) (hm0 : m0 ∈ L) (km0 : K m0 = 130) (n1 : Nat) (hn1 : n1 ∈ L) (kn1 : K n1 = 111) (l1 : Nat) (hl1 : l1 ∈ L) (kl1 : K l1 = 121) (m1 : Nat) (hm1 : m1 ∈ L) (km1 : K m1 = 131) (n3 : Nat) (hn3 : n3 ∈ L) (kn3 : K n3 = 113) (l3 : Nat) (hl3 : l3 ∈ L) (kl3 : K l3 = 123) (m3 : Nat) (hm3 : m3 ∈ L) (km3 : K m3 = 133) (tm : Int) (ltm : 0 ≤ tm) (utm : tm ≤ 9000) (nn : Int) (lnn : 0 ≤ nn) (unn : nn ≤ 10) (ln : Int) (lln : 0 ≤ ln) (uln : ln ≤ 16) (mn : Int) (lmn : 0 ≤ mn) (umn : mn ≤ 59) (yr : Int) (lyr : 4 ≤ yr) (uyr : yr ≤ 60) (sl : Int) (lsl : 0 ≤ sl) (usl : sl ≤ 6) (my : Int) (lmy : 0 ≤ my) (umy : my ≤ 6) (hf0 : q_is (q_z f v0 11) tm) (hf1 : q_is (q_z f v0 3) nn) (hf2 : q_is (q_z f v0 4) ln) (hf3 : q_is (q_z f v0 5) mn) (hf4 : q_is (q_z f v0 6) yr) (hf5 : q_is (q_z f hist 1) sl) (hf6 : q_is (q_z f hist 2) my) (hr0 : q_ir (q_r f x 0) so) (hr1 : q_ir (q_r f x 1) rd) (hr2 : q_ir (q_r f x 3) fc) (hr3 : q_ir (q_r f x 4) hist) (hr4 : q_ir (q_r f x 6) v0) (hr5 : q_ir (q_r f x 7) v1) (hr6 : q_ir (q_r f so 0) ba) (hr7 : q_ir (q_r f hist 0) ka) (hr8 : q_ir (q_r f fc 0) v3) (hr9 : q_ir (q_r f v0 0) n0) (hr10 : q_ir (q_r f v0 1) l0) (hr11 : q_ir (q_r f v0 2) m0) (hr12 : q_ir (q_r f v1 0) n1) (hr13 : q_ir (q_r f v1 1) l1) (hr14 : q_ir (q_r f v1 2) m1) (hr15 : q_ir (q_r f v3 0) n3) (hr16 : q_ir (q_r f v3 1) l3) (hr17 : q_ir (q_r f v3 2) m3) (hw0 : tw_vw K L 10 5 3 4 f v0 n0 l0 m0 d0 s0) (hz0 : tw_nw K L 5 f) (hhk : tw_hk K L f ka A9 D9 S9) (he3 : ∃ s9 : tw_S, tw_vw K L 15 19 23 27 f v3 n3 l3 m3 d3 s9) (hz3 : tw_nw K L 19 f) : q_Ct l g K L yX11_tick cX11_tick 2 (some .int) 5 125 [.ref x, .int (q_i a0)] f [(2, 1, 2), (3, 2, 4), (4, 2, 3), (4, 5, 6), (5, 3, 4), (5, 6, 9), (10, 11, 15), (50, 3, 12), (51, 3, 12), (52, 3, 12), (53, 3, 12), (54, 3, 12), (55, 3, 12), (56, 0, 8), (57, 0, 8), (58, 0, 8), (59, 0, 8), (60, 0, 8), (61, 0, 8), (62, 0, 4), (63, 0, 4), (64, 0, 4), (65, 0, 4), (66, 0, 4), (67, 0, 4), (68, 0, 7), (69, 0, 7), (70, 0, 7), (71, 0, 7), (72, 0, 7), (73, 0, 7)] (q_Pi (fun (z : Int) (f1 : Nat → va_E) => 0 ≤ z ∧ z ≤ 60000 ∧ q_is (q_z f1 v0 11) (tm + a0) ∧ (q_is (q_z f1 hist 1) (tw_ns sl)) ∧ (q_is (q_z f1 hist 2) (min 6 (my + 1))) ∧ (z = tw_tcl s0 (Int.toNat a0)) ∧ (tw_vw K L 10 5 3 4 f1 v0 n0 l0 m0 d0 (tw_tsl s0 (Int.toNat a0))) ∧ (tw_nw K L 5 f1) ∧ (tw_hk K L f1 ka A9 D9 (tw_hu S9 (tw_si sl) (tw_cp (S9 (tw_si sl)) s0))))) := by
  refine q_ofb (by decide +kernel) hN hT (Nat.le_of_ble_eq_true rfl) ?_
  intro p e s m below meth c ls cx hr hlk hB hl
  have hl : lv_has ls 2 [(0, .ref x), (1, .int (q_i a0))] := hl
  obtain ⟨H, hH⟩ : ∃ H : Heap, H = s.heap := ⟨_, rfl⟩
  obtain ⟨locs, hlocs⟩ : ∃ z : List Loc, z = [] := ⟨_, rfl⟩
  rw [← hH, ← hlocs] at hB
  rw [← hH, ← hlocs]
  refine q_ild_n cx dX11_tick_0 rfl (lv_at hl 1 rfl) ?_
  refine q_cSi (As := [.int (q_i a0)]) (rest := []) cx hB (fun _ h => h) hN (f_isTickCount l g hN hB.2.1 a0 (by omega) (by omega)) q_cX11_267 q_dX10_isTickCount (by decide) rfl rfl hl.1 rfl (Nat.le_of_ble_eq_true rfl) dX11_tick_1 (fun y509 H locs f508 ry509 h510 hF hB => ?_)
  obtain ⟨rfl, qy509⟩ := h510
  subst qy509
  refine q_ifne (tgt := 17) cx ⟨by decide, by decide⟩ dX11_tick_4 (by decide) (fun c511 => ?_) (fun c511 => ?_)
  · refine q_ald_n cx dX11_tick_17 rfl (lv_at hl 0 rfl) ?_
    refine q_gX11_54 cx hB hx kx hr4 dX11_tick_18 (fun hb512 kb512 => ?_)
    refine q_ild_n cx dX11_tick_21 rfl (lv_at hl 1 rfl) ?_
    refine q_cVi (As := [.int (q_i a0)]) (rest := []) cx hB (fun _ h => h) hN hv0 kv0 (by decide) rfl (f_hasTimeFor l g hN hB.2.1 v0 hv0 kv0 a0 (by omega) (by omega) tm (by omega) (by omega) hf0) q_cX11_270 q_dX10_hasTimeFor (by decide) rfl rfl hl.1 rfl (Nat.le_of_ble_eq_true rfl) dX11_tick_22 (fun y514 H locs f513 ry514 h515 hF hB => ?_)
    obtain ⟨rfl, qy514⟩ := h515
    subst qy514
    refine q_ifne (tgt := 39) cx ⟨by decide, by decide⟩ dX11_tick_25 (by decide) (fun c516 => ?_) (fun c516 => ?_)
    · refine q_ald_n cx dX11_tick_39 rfl (lv_at hl 0 rfl) ?_
      refine q_gX11_40 cx hB hx kx hr3 dX11_tick_40 (fun hb517 kb517 => ?_)
      refine q_ald_n cx dX11_tick_43 rfl (lv_at hl 0 rfl) ?_
      refine q_gX11_54 cx hB hx kx hr4 dX11_tick_44 (fun hb518 kb518 => ?_)
      by_cases c519 : sl ≤ 0
      · refine q_cVv (As := [.ref v0]) (rest := []) cx hB (fun _ h => h) hN hhist khist (by decide) rfl (f_keep_0 l g hN hB.2.1 d0 s0 A9 D9 S9 hist hhist khist v0 hv0 kv0 n0 hn0 kn0 l0 hl0 kl0 m0 hm0 km0 ka hka kka tm (by omega) (by omega) nn (by omega) (by omega) ln (by omega) (by omega) mn (by omega) (by omega) my (by omega) (by omega) hf0 hf1 hf2 hf3 (Eq.trans hf5 (by omega)) hf6 hr7 hr9 hr10 hr11 hw0 hz0 hhk) q_cX11_107 q_dX2_keep (by decide) rfl rfl hl.1 rfl (Nat.le_of_ble_eq_true rfl) dX11_tick_47 (fun H locs f520 h522 hF hB => ?_)
        obtain ⟨z523, t524, g525⟩ := h522
        have z526 : q_is (q_z f520 v0 11) tm := Eq.trans (hF.z hv0 (by rw [kv0]; rfl)) hf0
        have z527 : q_is (q_z f520 v0 3) nn := Eq.trans (hF.z hv0 (by rw [kv0]; rfl)) hf1
        have z528 : q_is (q_z f520 v0 4) ln := Eq.trans (hF.z hv0 (by rw [kv0]; rfl)) hf2
        have z529 : q_is (q_z f520 v0 5) mn := Eq.trans (hF.z hv0 (by rw [kv0]; rfl)) hf3
        have z530 : q_is (q_z f520 v0 6) yr := Eq.trans (hF.z hv0 (by rw [kv0]; rfl)) hf4
        have z531 : q_ir (q_r f520 x 0) so := Eq.trans (hF.r hx (by rw [kx]; rfl)) hr0
        have z532 : q_ir (q_r f520 x 1) rd := Eq.trans (hF.r hx (by rw [kx]; rfl)) hr1
        have z533 : q_ir (q_r f520 x 3) fc := Eq.trans (hF.r hx (by rw [kx]; rfl)) hr2
        have z534 : q_ir (q_r f520 x 4) hist := Eq.trans (hF.r hx (by rw [kx]; rfl)) hr3
        have z535 : q_ir (q_r f520 x 6) v0 := Eq.trans (hF.r hx (by rw [kx]; rfl)) hr4
        have z536 : q_ir (q_r f520 x 7) v1 := Eq.trans (hF.r hx (by rw [kx]; rfl)) hr5
        have z537 : q_ir (q_r f520 so 0) ba := Eq.trans (hF.r hso (by rw [kso]; rfl)) hr6
        have z538 : q_ir (q_r f520 hist 0) ka := Eq.trans (hF.r hhist (by rw [khist]; rfl)) hr7
        have z539 : q_ir (q_r f520 fc 0) v3 := Eq.trans (hF.r hfc (by rw [kfc]; rfl)) hr8
        have z540 : q_ir (q_r f520 v0 0) n0 := Eq.trans (hF.r hv0 (by rw [kv0]; rfl)) hr9
        have z541 : q_ir (q_r f520 v0 1) l0 := Eq.trans (hF.r hv0 (by rw [kv0]; rfl)) hr10
        have z542 : q_ir (q_r f520 v0 2) m0 := Eq.trans (hF.r hv0 (by rw [kv0]; rfl)) hr11
        have z543 : q_ir (q_r f520 v1 0) n1 := Eq.trans (hF.r hv1 (by rw [kv1]; rfl)) hr12
        have z544 : q_ir (q_r f520 v1 1) l1 := Eq.trans (hF.r hv1 (by rw [kv1]; rfl)) hr13
        have z545 : q_ir (q_r f520 v1 2) m1 := Eq.trans (hF.r hv1 (by rw [kv1]; rfl)) hr14
        have z546 : q_ir (q_r f520 v3 0) n3 := Eq.trans (hF.r hv3 (by rw [kv3]; rfl)) hr15
        have z547 : q_ir (q_r f520 v3 1) l3 := Eq.trans (hF.r hv3 (by rw [kv3]; rfl)) hr16
        have z548 : q_ir (q_r f520 v3 2) m3 := Eq.trans (hF.r hv3 (by rw [kv3]; rfl)) hr17
        have g549 : tw_vw K L 10 5 3 4 f520 v0 n0 l0 m0 d0 s0 := tw_vw_tr hw0 (fun a9 h9 k9 c9 => hF.z h9 (by rw [k9]; rfl)) (fun a9 h9 k9 c9 => hF.z h9 (by rw [k9]; rfl)) (fun a9 h9 k9 c9 => hF.z h9 (by rw [k9]; rfl)) (fun a9 h9 k9 c9 => hF.z h9 (by rw [k9]; rfl)) (fun i9 => hF.r hn0 (by rw [kn0]; rfl)) (fun i9 => hF.r hl0 (by rw [kl0]; rfl)) (fun i9 => hF.r hm0 (by rw [km0]; rfl))
        have g550 : tw_nw K L 5 f520 := tw_nw_tr hz0 (fun a9 h9 k9 => hF.j h9 (by rw [k9]; rfl))
        have g551 : ∃ s9 : tw_S, tw_vw K L 15 19 23 27 f520 v3 n3 l3 m3 d3 s9 := tw_ex_tr he3 (fun a9 h9 k9 c9 => hF.z h9 (by rw [k9]; rfl)) (fun a9 h9 k9 c9 => hF.z h9 (by rw [k9]; rfl)) (fun a9 h9 k9 c9 => hF.z h9 (by rw [k9]; rfl)) (fun a9 h9 k9 c9 => hF.z h9 (by rw [k9]; rfl)) (fun i9 => hF.r hn3 (by rw [kn3]; rfl)) (fun i9 => hF.r hl3 (by rw [kl3]; rfl)) (fun i9 => hF.r hm3 (by rw [km3]; rfl))
        have g552 : tw_nw K L 19 f520 := tw_nw_tr hz3 (fun a9 h9 k9 => hF.j h9 (by rw [k9]; rfl))
        obtain ⟨y553, ey553, ny553⟩ : ∃ zz : Int, q_is (q_z f520 hist 2) zz ∧ zz = min 6 (my + 1) := ⟨_, t524, rfl⟩
        have ly553 : 1 ≤ y553 ∧ y553 ≤ 6 := by omega
        refine q_ald_n cx dX11_tick_50 rfl (lv_at hl 0 rfl) ?_
        refine q_gX11_54 cx hB hx kx z535 dX11_tick_51 (fun hb554 kb554 => ?_)
        refine q_ild_n cx dX11_tick_54 rfl (lv_at hl 1 rfl) ?_
        refine q_cVi (As := [.int (q_i a0)]) (rest := []) cx hB (fun _ h => h) hN hv0 kv0 (by decide) rfl (f_passTicks0 l g hN hB.2.1 d0 s0 v0 hv0 kv0 a0 (by omega) (by omega) n0 hn0 kn0 l0 hl0 kl0 m0 hm0 km0 tm (by omega) (by omega) nn (by omega) (by omega) ln (by omega) (by omega) mn (by omega) (by omega) z526 z527 z528 z529 z540 z541 z542 g549 g550) q_cX11_275 q_dX10_passTicks (by decide) rfl rfl hl.1 rfl (Nat.le_of_ble_eq_true rfl) dX11_tick_55 (fun y556 H locs f555 ry556 h557 hF hB => ?_)
        obtain ⟨ly556, uy556, z558, t559, g560, g561⟩ := h557
        have z562 : q_is (q_z f555 v0 3) nn := Eq.trans (hF.z hv0 (by rw [kv0]; rfl)) z527
        have z563 : q_is (q_z f555 v0 4) ln := Eq.trans (hF.z hv0 (by rw [kv0]; rfl)) z528
        have z564 : q_is (q_z f555 v0 5) mn := Eq.trans (hF.z hv0 (by rw [kv0]; rfl)) z529
        have z565 : q_is (q_z f555 v0 6) yr := Eq.trans (hF.z hv0 (by rw [kv0]; rfl)) z530
        have z566 : q_is (q_z f555 hist 1) 1 := Eq.trans (hF.z hhist (by rw [khist]; rfl)) z523
        have z567 : q_is (q_z f555 hist 2) y553 := Eq.trans (hF.z hhist (by rw [khist]; rfl)) ey553
        have z568 : q_ir (q_r f555 x 0) so := Eq.trans (hF.r hx (by rw [kx]; rfl)) z531
        have z569 : q_ir (q_r f555 x 1) rd := Eq.trans (hF.r hx (by rw [kx]; rfl)) z532
        have z570 : q_ir (q_r f555 x 3) fc := Eq.trans (hF.r hx (by rw [kx]; rfl)) z533
        have z571 : q_ir (q_r f555 x 4) hist := Eq.trans (hF.r hx (by rw [kx]; rfl)) z534
        have z572 : q_ir (q_r f555 x 6) v0 := Eq.trans (hF.r hx (by rw [kx]; rfl)) z535
        have z573 : q_ir (q_r f555 x 7) v1 := Eq.trans (hF.r hx (by rw [kx]; rfl)) z536
        have z574 : q_ir (q_r f555 so 0) ba := Eq.trans (hF.r hso (by rw [kso]; rfl)) z537
        have z575 : q_ir (q_r f555 hist 0) ka := Eq.trans (hF.r hhist (by rw [khist]; rfl)) z538
        have z576 : q_ir (q_r f555 fc 0) v3 := Eq.trans (hF.r hfc (by rw [kfc]; rfl)) z539
        have z577 : q_ir (q_r f555 v0 0) n0 := Eq.trans (hF.r hv0 (by rw [kv0]; rfl)) z540
        have z578 : q_ir (q_r f555 v0 1) l0 := Eq.trans (hF.r hv0 (by rw [kv0]; rfl)) z541
        have z579 : q_ir (q_r f555 v0 2) m0 := Eq.trans (hF.r hv0 (by rw [kv0]; rfl)) z542
        have z580 : q_ir (q_r f555 v1 0) n1 := Eq.trans (hF.r hv1 (by rw [kv1]; rfl)) z543
        have z581 : q_ir (q_r f555 v1 1) l1 := Eq.trans (hF.r hv1 (by rw [kv1]; rfl)) z544
        have z582 : q_ir (q_r f555 v1 2) m1 := Eq.trans (hF.r hv1 (by rw [kv1]; rfl)) z545
        have z583 : q_ir (q_r f555 v3 0) n3 := Eq.trans (hF.r hv3 (by rw [kv3]; rfl)) z546
        have z584 : q_ir (q_r f555 v3 1) l3 := Eq.trans (hF.r hv3 (by rw [kv3]; rfl)) z547
        have z585 : q_ir (q_r f555 v3 2) m3 := Eq.trans (hF.r hv3 (by rw [kv3]; rfl)) z548
        have g586 : tw_nw K L 5 f555 := tw_nw_tr g550 (fun a9 h9 k9 => hF.j h9 (by rw [k9]; rfl))
        have g587 : ∃ s9 : tw_S, tw_vw K L 15 19 23 27 f555 v3 n3 l3 m3 d3 s9 := tw_ex_tr g551 (fun a9 h9 k9 c9 => hF.z h9 (by rw [k9]; rfl)) (fun a9 h9 k9 c9 => hF.z h9 (by rw [k9]; rfl)) (fun a9 h9 k9 c9 => hF.z h9 (by rw [k9]; rfl)) (fun a9 h9 k9 c9 => hF.z h9 (by rw [k9]; rfl)) (fun i9 => hF.r hn3 (by rw [kn3]; rfl)) (fun i9 => hF.r hl3 (by rw [kl3]; rfl)) (fun i9 => hF.r hm3 (by rw [km3]; rfl))
        have g588 : tw_nw K L 19 f555 := tw_nw_tr g552 (fun a9 h9 k9 => hF.j h9 (by rw [k9]; rfl))
        have g589 : tw_hk K L f555 ka A9 D9 (tw_hu S9 0 (tw_cp (S9 0) s0)) := tw_hk_tr g525 (fun a9 h9 k9 i9 => hF a9 h9 i9 (tw_krw rfl k9))
        refine q_iret cx hr hlk hB dX11_tick_58 ⟨by omega, by omega⟩ ?_
        exact ⟨(by omega), (by omega), z558, (Eq.trans z566 (by have e9 : sl = 0 := by omega; rw [e9]; rfl)), (Eq.trans z567 (by omega)), (by have t0_ : y556 = tw_tcl s0 (Int.toNat a0) := t559; (try simp only [t0_]); (repeat' split) <;> first | rfl | (exfalso; omega)), g560, g561, (tw_hkg g589 (by have e9 : sl = 0 := by omega; rw [e9]; rfl))⟩
      · by_cases c590 : sl ≤ 1
        · refine q_cVv (As := [.ref v0]) (rest := []) cx hB (fun _ h => h) hN hhist khist (by decide) rfl (f_keep_1 l g hN hB.2.1 d0 s0 A9 D9 S9 hist hhist khist v0 hv0 kv0 n0 hn0 kn0 l0 hl0 kl0 m0 hm0 km0 ka hka kka tm (by omega) (by omega) nn (by omega) (by omega) ln (by omega) (by omega) mn (by omega) (by omega) my (by omega) (by omega) hf0 hf1 hf2 hf3 (Eq.trans hf5 (by omega)) hf6 hr7 hr9 hr10 hr11 hw0 hz0 hhk) q_cX11_107 q_dX2_keep (by decide) rfl rfl hl.1 rfl (Nat.le_of_ble_eq_true rfl) dX11_tick_47 (fun H locs f591 h593 hF hB => ?_)
          obtain ⟨z594, t595, g596⟩ := h593
          have z597 : q_is (q_z f591 v0 11) tm := Eq.trans (hF.z hv0 (by rw [kv0]; rfl)) hf0
          have z598 : q_is (q_z f591 v0 3) nn := Eq.trans (hF.z hv0 (by rw [kv0]; rfl)) hf1
          have z599 : q_is (q_z f591 v0 4) ln := Eq.trans (hF.z hv0 (by rw [kv0]; rfl)) hf2
          have z600 : q_is (q_z f591 v0 5) mn := Eq.trans (hF.z hv0 (by rw [kv0]; rfl)) hf3
          have z601 : q_is (q_z f591 v0 6) yr := Eq.trans (hF.z hv0 (by rw [kv0]; rfl)) hf4
          have z602 : q_ir (q_r f591 x 0) so := Eq.trans (hF.r hx (by rw [kx]; rfl)) hr0
          have z603 : q_ir (q_r f591 x 1) rd := Eq.trans (hF.r hx (by rw [kx]; rfl)) hr1
          have z604 : q_ir (q_r f591 x 3) fc := Eq.trans (hF.r hx (by rw [kx]; rfl)) hr2
          have z605 : q_ir (q_r f591 x 4) hist := Eq.trans (hF.r hx (by rw [kx]; rfl)) hr3
          have z606 : q_ir (q_r f591 x 6) v0 := Eq.trans (hF.r hx (by rw [kx]; rfl)) hr4
          have z607 : q_ir (q_r f591 x 7) v1 := Eq.trans (hF.r hx (by rw [kx]; rfl)) hr5
          have z608 : q_ir (q_r f591 so 0) ba := Eq.trans (hF.r hso (by rw [kso]; rfl)) hr6
          have z609 : q_ir (q_r f591 hist 0) ka := Eq.trans (hF.r hhist (by rw [khist]; rfl)) hr7
          have z610 : q_ir (q_r f591 fc 0) v3 := Eq.trans (hF.r hfc (by rw [kfc]; rfl)) hr8
          have z611 : q_ir (q_r f591 v0 0) n0 := Eq.trans (hF.r hv0 (by rw [kv0]; rfl)) hr9
          have z612 : q_ir (q_r f591 v0 1) l0 := Eq.trans (hF.r hv0 (by rw [kv0]; rfl)) hr10
          have z613 : q_ir (q_r f591 v0 2) m0 := Eq.trans (hF.r hv0 (by rw [kv0]; rfl)) hr11
          have z614 : q_ir (q_r f591 v1 0) n1 := Eq.trans (hF.r hv1 (by rw [kv1]; rfl)) hr12
          have z615 : q_ir (q_r f591 v1 1) l1 := Eq.trans (hF.r hv1 (by rw [kv1]; rfl)) hr13
          have z616 : q_ir (q_r f591 v1 2) m1 := Eq.trans (hF.r hv1 (by rw [kv1]; rfl)) hr14
          have z617 : q_ir (q_r f591 v3 0) n3 := Eq.trans (hF.r hv3 (by rw [kv3]; rfl)) hr15
          have z618 : q_ir (q_r f591 v3 1) l3 := Eq.trans (hF.r hv3 (by rw [kv3]; rfl)) hr16
          have z619 : q_ir (q_r f591 v3 2) m3 := Eq.trans (hF.r hv3 (by rw [kv3]; rfl)) hr17
          have g620 : tw_vw K L 10 5 3 4 f591 v0 n0 l0 m0 d0 s0 := tw_vw_tr hw0 (fun a9 h9 k9 c9 => hF.z h9 (by rw [k9]; rfl)) (fun a9 h9 k9 c9 => hF.z h9 (by rw [k9]; rfl)) (fun a9 h9 k9 c9 => hF.z h9 (by rw [k9]; rfl)) (fun a9 h9 k9 c9 => hF.z h9 (by rw [k9]; rfl)) (fun i9 => hF.r hn0 (by rw [kn0]; rfl)) (fun i9 => hF.r hl0 (by rw [kl0]; rfl)) (fun i9 => hF.r hm0 (by rw [km0]; rfl))
          have g621 : tw_nw K L 5 f591 := tw_nw_tr hz0 (fun a9 h9 k9 => hF.j h9 (by rw [k9]; rfl))
          have g622 : ∃ s9 : tw_S, tw_vw K L 15 19 23 27 f591 v3 n3 l3 m3 d3 s9 := tw_ex_tr he3 (fun a9 h9 k9 c9 => hF.z h9 (by rw [k9]; rfl)) (fun a9 h9 k9 c9 => hF.z h9 (by rw [k9]; rfl)) (fun a9 h9 k9 c9 => hF.z h9 (by rw [k9]; rfl)) (fun a9 h9 k9 c9 => hF.z h9 (by rw [k9]; rfl)) (fun i9 => hF.r hn3 (by rw [kn3]; rfl)) (fun i9 => hF.r hl3 (by rw [kl3]; rfl)) (fun i9 => hF.r hm3 (by rw [km3]; rfl))
          have g623 : tw_nw K L 19 f591 := tw_nw_tr hz3 (fun a9 h9 k9 => hF.j h9 (by rw [k9]; rfl))
          obtain ⟨y624, ey624, ny624⟩ : ∃ zz : Int, q_is (q_z f591 hist 2) zz ∧ zz = min 6 (my + 1) := ⟨_, t595, rfl⟩
          have ly624 : 1 ≤ y624 ∧ y624 ≤ 6 := by omega
          refine q_ald_n cx dX11_tick_50 rfl (lv_at hl 0 rfl) ?_
          refine q_gX11_54 cx hB hx kx z606 dX11_tick_51 (fun hb625 kb625 => ?_)
          refine q_ild_n cx dX11_tick_54 rfl (lv_at hl 1 rfl) ?_
          refine q_cVi (As := [.int (q_i a0)]) (rest := []) cx hB (fun _ h => h) hN hv0 kv0 (by decide) rfl (f_passTicks0 l g hN hB.2.1 d0 s0 v0 hv0 kv0 a0 (by omega) (by omega) n0 hn0 kn0 l0 hl0 kl0 m0 hm0 km0 tm (by omega) (by omega) nn (by omega) (by omega) ln (by omega) (by omega) mn (by omega) (by omega) z597 z598 z599 z600 z611 z612 z613 g620 g621) q_cX11_275 q_dX10_passTicks (by decide) rfl rfl hl.1 rfl (Nat.le_of_ble_eq_true rfl) dX11_tick_55 (fun y627 H locs f626 ry627 h628 hF hB => ?_)
          obtain ⟨ly627, uy627, z629, t630, g631, g632⟩ := h628
          have z633 : q_is (q_z f626 v0 3) nn := Eq.trans (hF.z hv0 (by rw [kv0]; rfl)) z598
          have z634 : q_is (q_z f626 v0 4) ln := Eq.trans (hF.z hv0 (by rw [kv0]; rfl)) z599
          have z635 : q_is (q_z f626 v0 5) mn := Eq.trans (hF.z hv0 (by rw [kv0]; rfl)) z600
          have z636 : q_is (q_z f626 v0 6) yr := Eq.trans (hF.z hv0 (by rw [kv0]; rfl)) z601
          have z637 : q_is (q_z f626 hist 1) 2 := Eq.trans (hF.z hhist (by rw [khist]; rfl)) z594
          have z638 : q_is (q_z f626 hist 2) y624 := Eq.trans (hF.z hhist (by rw [khist]; rfl)) ey624
          have z639 : q_ir (q_r f626 x 0) so := Eq.trans (hF.r hx (by rw [kx]; rfl)) z602
          have z640 : q_ir (q_r f626 x 1) rd := Eq.trans (hF.r hx (by rw [kx]; rfl)) z603
          have z641 : q_ir (q_r f626 x 3) fc := Eq.trans (hF.r hx (by rw [kx]; rfl)) z604
          have z642 : q_ir (q_r f626 x 4) hist := Eq.trans (hF.r hx (by rw [kx]; rfl)) z605
          have z643 : q_ir (q_r f626 x 6) v0 := Eq.trans (hF.r hx (by rw [kx]; rfl)) z606
          have z644 : q_ir (q_r f626 x 7) v1 := Eq.trans (hF.r hx (by rw [kx]; rfl)) z607
          have z645 : q_ir (q_r f626 so 0) ba := Eq.trans (hF.r hso (by rw [kso]; rfl)) z608
          have z646 : q_ir (q_r f626 hist 0) ka := Eq.trans (hF.r hhist (by rw [khist]; rfl)) z609
          have z647 : q_ir (q_r f626 fc 0) v3 := Eq.trans (hF.r hfc (by rw [kfc]; rfl)) z610
          have z648 : q_ir (q_r f626 v0 0) n0 := Eq.trans (hF.r hv0 (by rw [kv0]; rfl)) z611
          have z649 : q_ir (q_r f626 v0 1) l0 := Eq.trans (hF.r hv0 (by rw [kv0]; rfl)) z612
          have z650 : q_ir (q_r f626 v0 2) m0 := Eq.trans (hF.r hv0 (by rw [kv0]; rfl)) z613
          have z651 : q_ir (q_r f626 v1 0) n1 := Eq.trans (hF.r hv1 (by rw [kv1]; rfl)) z614
          have z652 : q_ir (q_r f626 v1 1) l1 := Eq.trans (hF.r hv1 (by rw [kv1]; rfl)) z615
          have z653 : q_ir (q_r f626 v1 2) m1 := Eq.trans (hF.r hv1 (by rw [kv1]; rfl)) z616
          have z654 : q_ir (q_r f626 v3 0) n3 := Eq.trans (hF.r hv3 (by rw [kv3]; rfl)) z617
          have z655 : q_ir (q_r f626 v3 1) l3 := Eq.trans (hF.r hv3 (by rw [kv3]; rfl)) z618
          have z656 : q_ir (q_r f626 v3 2) m3 := Eq.trans (hF.r hv3 (by rw [kv3]; rfl)) z619
          have g657 : tw_nw K L 5 f626 := tw_nw_tr g621 (fun a9 h9 k9 => hF.j h9 (by rw [k9]; rfl))
          have g658 : ∃ s9 : tw_S, tw_vw K L 15 19 23 27 f626 v3 n3 l3 m3 d3 s9 := tw_ex_tr g622 (fun a9 h9 k9 c9 => hF.z h9 (by rw [k9]; rfl)) (fun a9 h9 k9 c9 => hF.z h9 (by rw [k9]; rfl)) (fun a9 h9 k9 c9 => hF.z h9 (by rw [k9]; rfl)) (fun a9 h9 k9 c9 => hF.z h9 (by rw [k9]; rfl)) (fun i9 => hF.r hn3 (by rw [kn3]; rfl)) (fun i9 => hF.r hl3 (by rw [kl3]; rfl)) (fun i9 => hF.r hm3 (by rw [km3]; rfl))
          have g659 : tw_nw K L 19 f626 := tw_nw_tr g623 (fun a9 h9 k9 => hF.j h9 (by rw [k9]; rfl))
          have g660 : tw_hk K L f626 ka A9 D9 (tw_hu S9 1 (tw_cp (S9 1) s0)) := tw_hk_tr g596 (fun a9 h9 k9 i9 => hF a9 h9 i9 (tw_krw rfl k9))
          refine q_iret cx hr hlk hB dX11_tick_58 ⟨by omega, by omega⟩ ?_
          exact ⟨(by omega), (by omega), z629, (Eq.trans z637 (by have e9 : sl = 1 := by omega; rw [e9]; rfl)), (Eq.trans z638 (by omega)), (by have t0_ : y627 = tw_tcl s0 (Int.toNat a0) := t630; (try simp only [t0_]); (repeat' split) <;> first | rfl | (exfalso; omega)), g631, g632, (tw_hkg g660 (by have e9 : sl = 1 := by omega; rw [e9]; rfl))⟩
        · by_cases c661 : sl ≤ 2
          · refine q_cVv (As := [.ref v0]) (rest := []) cx hB (fun _ h => h) hN hhist khist (by decide) rfl (f_keep_2 l g hN hB.2.1 d0 s0 A9 D9 S9 hist hhist khist v0 hv0 kv0 n0 hn0 kn0 l0 hl0 kl0 m0 hm0 km0 ka hka kka tm (by omega) (by omega) nn (by omega) (by omega) ln (by omega) (by omega) mn (by omega) (by omega) my (by omega) (by omega) hf0 hf1 hf2 hf3 (Eq.trans hf5 (by omega)) hf6 hr7 hr9 hr10 hr11 hw0 hz0 hhk) q_cX11_107 q_dX2_keep (by decide) rfl rfl hl.1 rfl (Nat.le_of_ble_eq_true rfl) dX11_tick_47 (fun H locs f662 h664 hF hB => ?_)
            obtain ⟨z665, t666, g667⟩ := h664
            have z668 : q_is (q_z f662 v0 11) tm := Eq.trans (hF.z hv0 (by rw [kv0]; rfl)) hf0
            have z669 : q_is (q_z f662 v0 3) nn := Eq.trans (hF.z hv0 (by rw [kv0]; rfl)) hf1
            have z670 : q_is (q_z f662 v0 4) ln := Eq.trans (hF.z hv0 (by rw [kv0]; rfl)) hf2
            have z671 : q_is (q_z f662 v0 5) mn := Eq.trans (hF.z hv0 (by rw [kv0]; rfl)) hf3
            have z672 : q_is (q_z f662 v0 6) yr := Eq.trans (hF.z hv0 (by rw [kv0]; rfl)) hf4
            have z673 : q_ir (q_r f662 x 0) so := Eq.trans (hF.r hx (by rw [kx]; rfl)) hr0
            have z674 : q_ir (q_r f662 x 1) rd := Eq.trans (hF.r hx (by rw [kx]; rfl)) hr1
            have z675 : q_ir (q_r f662 x 3) fc := Eq.trans (hF.r hx (by rw [kx]; rfl)) hr2
            have z676 : q_ir (q_r f662 x 4) hist := Eq.trans (hF.r hx (by rw [kx]; rfl)) hr3
            have z677 : q_ir (q_r f662 x 6) v0 := Eq.trans (hF.r hx (by rw [kx]; rfl)) hr4
            have z678 : q_ir (q_r f662 x 7) v1 := Eq.trans (hF.r hx (by rw [kx]; rfl)) hr5
            have z679 : q_ir (q_r f662 so 0) ba := Eq.trans (hF.r hso (by rw [kso]; rfl)) hr6
            have z680 : q_ir (q_r f662 hist 0) ka := Eq.trans (hF.r hhist (by rw [khist]; rfl)) hr7
            have z681 : q_ir (q_r f662 fc 0) v3 := Eq.trans (hF.r hfc (by rw [kfc]; rfl)) hr8
            have z682 : q_ir (q_r f662 v0 0) n0 := Eq.trans (hF.r hv0 (by rw [kv0]; rfl)) hr9
            have z683 : q_ir (q_r f662 v0 1) l0 := Eq.trans (hF.r hv0 (by rw [kv0]; rfl)) hr10
            have z684 : q_ir (q_r f662 v0 2) m0 := Eq.trans (hF.r hv0 (by rw [kv0]; rfl)) hr11
            have z685 : q_ir (q_r f662 v1 0) n1 := Eq.trans (hF.r hv1 (by rw [kv1]; rfl)) hr12
            have z686 : q_ir (q_r f662 v1 1) l1 := Eq.trans (hF.r hv1 (by rw [kv1]; rfl)) hr13
            have z687 : q_ir (q_r f662 v1 2) m1 := Eq.trans (hF.r hv1 (by rw [kv1]; rfl)) hr14
            have z688 : q_ir (q_r f662 v3 0) n3 := Eq.trans (hF.r hv3 (by rw [kv3]; rfl)) hr15
            have z689 : q_ir (q_r f662 v3 1) l3 := Eq.trans (hF.r hv3 (by rw [kv3]; rfl)) hr16
            have z690 : q_ir (q_r f662 v3 2) m3 := Eq.trans (hF.r hv3 (by rw [kv3]; rfl)) hr17
            have g691 : tw_vw K L 10 5 3 4 f662 v0 n0 l0 m0 d0 s0 := tw_vw_tr hw0 (fun a9 h9 k9 c9 => hF.z h9 (by rw [k9]; rfl)) (fun a9 h9 k9 c9 => hF.z h9 (by rw [k9]; rfl)) (fun a9 h9 k9 c9 => hF.z h9 (by rw [k9]; rfl)) (fun a9 h9 k9 c9 => hF.z h9 (by rw [k9]; rfl)) (fun i9 => hF.r hn0 (by rw [kn0]; rfl)) (fun i9 => hF.r hl0 (by rw [kl0]; rfl)) (fun i9 => hF.r hm0 (by rw [km0]; rfl))
            have g692 : tw_nw K L 5 f662 := tw_nw_tr hz0 (fun a9 h9 k9 => hF.j h9 (by rw [k9]; rfl))
            have g693 : ∃ s9 : tw_S, tw_vw K L 15 19 23 27 f662 v3 n3 l3 m3 d3 s9 := tw_ex_tr he3 (fun a9 h9 k9 c9 => hF.z h9 (by rw [k9]; rfl)) (fun a9 h9 k9 c9 => hF.z h9 (by rw [k9]; rfl)) (fun a9 h9 k9 c9 => hF.z h9 (by rw [k9]; rfl)) (fun a9 h9 k9 c9 => hF.z h9 (by rw [k9]; rfl)) (fun i9 => hF.r hn3 (by rw [kn3]; rfl)) (fun i9 => hF.r hl3 (by rw [kl3]; rfl)) (fun i9 => hF.r hm3 (by rw [km3]; rfl))
            have g694 : tw_nw K L 19 f662 := tw_nw_tr hz3 (fun a9 h9 k9 => hF.j h9 (by rw [k9]; rfl))
            obtain ⟨y695, ey695, ny695⟩ : ∃ zz : Int, q_is (q_z f662 hist 2) zz ∧ zz = min 6 (my + 1) := ⟨_, t666, rfl⟩
            have ly695 : 1 ≤ y695 ∧ y695 ≤ 6 := by omega
            refine q_ald_n cx dX11_tick_50 rfl (lv_at hl 0 rfl) ?_
            refine q_gX11_54 cx hB hx kx z677 dX11_tick_51 (fun hb696 kb696 => ?_)
            refine q_ild_n cx dX11_tick_54 rfl (lv_at hl 1 rfl) ?_
            refine q_cVi (As := [.int (q_i a0)]) (rest := []) cx hB (fun _ h => h) hN hv0 kv0 (by decide) rfl (f_passTicks0 l g hN hB.2.1 d0 s0 v0 hv0 kv0 a0 (by omega) (by omega) n0 hn0 kn0 l0 hl0 kl0 m0 hm0 km0 tm (by omega) (by omega) nn (by omega) (by omega) ln (by omega) (by omega) mn (by omega) (by omega) z668 z669 z670 z671 z682 z683 z684 g691 g692) q_cX11_275 q_dX10_passTicks (by decide) rfl rfl hl.1 rfl (Nat.le_of_ble_eq_true rfl) dX11_tick_55 (fun y698 H locs f697 ry698 h699 hF hB => ?_)
            obtain ⟨ly698, uy698, z700, t701, g702, g703⟩ := h699
            have z704 : q_is (q_z f697 v0 3) nn := Eq.trans (hF.z hv0 (by rw [kv0]; rfl)) z669
            have z705 : q_is (q_z f697 v0 4) ln := Eq.trans (hF.z hv0 (by rw [kv0]; rfl)) z670
            have z706 : q_is (q_z f697 v0 5) mn := Eq.trans (hF.z hv0 (by rw [kv0]; rfl)) z671
            have z707 : q_is (q_z f697 v0 6) yr := Eq.trans (hF.z hv0 (by rw [kv0]; rfl)) z672
            have z708 : q_is (q_z f697 hist 1) 3 := Eq.trans (hF.z hhist (by rw [khist]; rfl)) z665
            have z709 : q_is (q_z f697 hist 2) y695 := Eq.trans (hF.z hhist (by rw [khist]; rfl)) ey695
            have z710 : q_ir (q_r f697 x 0) so := Eq.trans (hF.r hx (by rw [kx]; rfl)) z673
            have z711 : q_ir (q_r f697 x 1) rd := Eq.trans (hF.r hx (by rw [kx]; rfl)) z674
            have z712 : q_ir (q_r f697 x 3) fc := Eq.trans (hF.r hx (by rw [kx]; rfl)) z675
            have z713 : q_ir (q_r f697 x 4) hist := Eq.trans (hF.r hx (by rw [kx]; rfl)) z676
            have z714 : q_ir (q_r f697 x 6) v0 := Eq.trans (hF.r hx (by rw [kx]; rfl)) z677
            have z715 : q_ir (q_r f697 x 7) v1 := Eq.trans (hF.r hx (by rw [kx]; rfl)) z678
            have z716 : q_ir (q_r f697 so 0) ba := Eq.trans (hF.r hso (by rw [kso]; rfl)) z679
            have z717 : q_ir (q_r f697 hist 0) ka := Eq.trans (hF.r hhist (by rw [khist]; rfl)) z680
            have z718 : q_ir (q_r f697 fc 0) v3 := Eq.trans (hF.r hfc (by rw [kfc]; rfl)) z681
            have z719 : q_ir (q_r f697 v0 0) n0 := Eq.trans (hF.r hv0 (by rw [kv0]; rfl)) z682
            have z720 : q_ir (q_r f697 v0 1) l0 := Eq.trans (hF.r hv0 (by rw [kv0]; rfl)) z683
            have z721 : q_ir (q_r f697 v0 2) m0 := Eq.trans (hF.r hv0 (by rw [kv0]; rfl)) z684
            have z722 : q_ir (q_r f697 v1 0) n1 := Eq.trans (hF.r hv1 (by rw [kv1]; rfl)) z685
            have z723 : q_ir (q_r f697 v1 1) l1 := Eq.trans (hF.r hv1 (by rw [kv1]; rfl)) z686
            have z724 : q_ir (q_r f697 v1 2) m1 := Eq.trans (hF.r hv1 (by rw [kv1]; rfl)) z687
            have z725 : q_ir (q_r f697 v3 0) n3 := Eq.trans (hF.r hv3 (by rw [kv3]; rfl)) z688
            have z726 : q_ir (q_r f697 v3 1) l3 := Eq.trans (hF.r hv3 (by rw [kv3]; rfl)) z689
            have z727 : q_ir (q_r f697 v3 2) m3 := Eq.trans (hF.r hv3 (by rw [kv3]; rfl)) z690
            have g728 : tw_nw K L 5 f697 := tw_nw_tr g692 (fun a9 h9 k9 => hF.j h9 (by rw [k9]; rfl))
            have g729 : ∃ s9 : tw_S, tw_vw K L 15 19 23 27 f697 v3 n3 l3 m3 d3 s9 := tw_ex_tr g693 (fun a9 h9 k9 c9 => hF.z h9 (by rw [k9]; rfl)) (fun a9 h9 k9 c9 => hF.z h9 (by rw [k9]; rfl)) (fun a9 h9 k9 c9 => hF.z h9 (by rw [k9]; rfl)) (fun a9 h9 k9 c9 => hF.z h9 (by rw [k9]; rfl)) (fun i9 => hF.r hn3 (by rw [kn3]; rfl)) (fun i9 => hF.r hl3 (by rw [kl3]; rfl)) (fun i9 => hF.r hm3 (by rw [km3]; rfl))
            have g730 : tw_nw K L 19 f697 := tw_nw_tr g694 (fun a9 h9 k9 => hF.j h9 (by rw [k9]; rfl))
            have g731 : tw_hk K L f697 ka A9 D9 (tw_hu S9 2 (tw_cp (S9 2) s0)) := tw_hk_tr g667 (fun a9 h9 k9 i9 => hF a9 h9 i9 (tw_krw rfl k9))
            refine q_iret cx hr hlk hB dX11_tick_58 ⟨by omega, by omega⟩ ?_
            exact ⟨(by omega), (by omega), z700, (Eq.trans z708 (by have e9 : sl = 2 := by omega; rw [e9]; rfl)), (Eq.trans z709 (by omega)), (by have t0_ : y698 = tw_tcl s0 (Int.toNat a0) := t701; (try simp only [t0_]); (repeat' split) <;> first | rfl | (exfalso; omega)), g702, g703, (tw_hkg g731 (by have e9 : sl = 2 := by omega; rw [e9]; rfl))⟩
          · by_cases c732 : sl ≤ 3
            · refine q_cVv (As := [.ref v0]) (rest := []) cx hB (fun _ h => h) hN hhist khist (by decide) rfl (f_keep_3 l g hN hB.2.1 d0 s0 A9 D9 S9 hist hhist khist v0 hv0 kv0 n0 hn0 kn0 l0 hl0 kl0 m0 hm0 km0 ka hka kka tm (by omega) (by omega) nn (by omega) (by omega) ln (by omega) (by omega) mn (by omega) (by omega) my (by omega) (by omega) hf0 hf1 hf2 hf3 (Eq.trans hf5 (by omega)) hf6 hr7 hr9 hr10 hr11 hw0 hz0 hhk) q_cX11_107 q_dX2_keep (by decide) rfl rfl hl.1 rfl (Nat.le_of_ble_eq_true rfl) dX11_tick_47 (fun H locs f733 h735 hF hB => ?_)
              obtain ⟨z736, t737, g738⟩ := h735
              have z739 : q_is (q_z f733 v0 11) tm := Eq.trans (hF.z hv0 (by rw [kv0]; rfl)) hf0
              have z740 : q_is (q_z f733 v0 3) nn := Eq.trans (hF.z hv0 (by rw [kv0]; rfl)) hf1
              have z741 : q_is (q_z f733 v0 4) ln := Eq.trans (hF.z hv0 (by rw [kv0]; rfl)) hf2
              have z742 : q_is (q_z f733 v0 5) mn := Eq.trans (hF.z hv0 (by rw [kv0]; rfl)) hf3
              have z743 : q_is (q_z f733 v0 6) yr := Eq.trans (hF.z hv0 (by rw [kv0]; rfl)) hf4
              have z744 : q_ir (q_r f733 x 0) so := Eq.trans (hF.r hx (by rw [kx]; rfl)) hr0
              have z745 : q_ir (q_r f733 x 1) rd := Eq.trans (hF.r hx (by rw [kx]; rfl)) hr1
              have z746 : q_ir (q_r f733 x 3) fc := Eq.trans (hF.r hx (by rw [kx]; rfl)) hr2
              have z747 : q_ir (q_r f733 x 4) hist := Eq.trans (hF.r hx (by rw [kx]; rfl)) hr3
              have z748 : q_ir (q_r f733 x 6) v0 := Eq.trans (hF.r hx (by rw [kx]; rfl)) hr4
              have z749 : q_ir (q_r f733 x 7) v1 := Eq.trans (hF.r hx (by rw [kx]; rfl)) hr5
              have z750 : q_ir (q_r f733 so 0) ba := Eq.trans (hF.r hso (by rw [kso]; rfl)) hr6
              have z751 : q_ir (q_r f733 hist 0) ka := Eq.trans (hF.r hhist (by rw [khist]; rfl)) hr7
              have z752 : q_ir (q_r f733 fc 0) v3 := Eq.trans (hF.r hfc (by rw [kfc]; rfl)) hr8
              have z753 : q_ir (q_r f733 v0 0) n0 := Eq.trans (hF.r hv0 (by rw [kv0]; rfl)) hr9
              have z754 : q_ir (q_r f733 v0 1) l0 := Eq.trans (hF.r hv0 (by rw [kv0]; rfl)) hr10
              have z755 : q_ir (q_r f733 v0 2) m0 := Eq.trans (hF.r hv0 (by rw [kv0]; rfl)) hr11
              have z756 : q_ir (q_r f733 v1 0) n1 := Eq.trans (hF.r hv1 (by rw [kv1]; rfl)) hr12
              have z757 : q_ir (q_r f733 v1 1) l1 := Eq.trans (hF.r hv1 (by rw [kv1]; rfl)) hr13
              have z758 : q_ir (q_r f733 v1 2) m1 := Eq.trans (hF.r hv1 (by rw [kv1]; rfl)) hr14
              have z759 : q_ir (q_r f733 v3 0) n3 := Eq.trans (hF.r hv3 (by rw [kv3]; rfl)) hr15
              have z760 : q_ir (q_r f733 v3 1) l3 := Eq.trans (hF.r hv3 (by rw [kv3]; rfl)) hr16
              have z761 : q_ir (q_r f733 v3 2) m3 := Eq.trans (hF.r hv3 (by rw [kv3]; rfl)) hr17
              have g762 : tw_vw K L 10 5 3 4 f733 v0 n0 l0 m0 d0 s0 := tw_vw_tr hw0 (fun a9 h9 k9 c9 => hF.z h9 (by rw [k9]; rfl)) (fun a9 h9 k9 c9 => hF.z h9 (by rw [k9]; rfl)) (fun a9 h9 k9 c9 => hF.z h9 (by rw [k9]; rfl)) (fun a9 h9 k9 c9 => hF.z h9 (by rw [k9]; rfl)) (fun i9 => hF.r hn0 (by rw [kn0]; rfl)) (fun i9 => hF.r hl0 (by rw [kl0]; rfl)) (fun i9 => hF.r hm0 (by rw [km0]; rfl))
              have g763 : tw_nw K L 5 f733 := tw_nw_tr hz0 (fun a9 h9 k9 => hF.j h9 (by rw [k9]; rfl))
              have g764 : ∃ s9 : tw_S, tw_vw K L 15 19 23 27 f733 v3 n3 l3 m3 d3 s9 := tw_ex_tr he3 (fun a9 h9 k9 c9 => hF.z h9 (by rw [k9]; rfl)) (fun a9 h9 k9 c9 => hF.z h9 (by rw [k9]; rfl)) (fun a9 h9 k9 c9 => hF.z h9 (by rw [k9]; rfl)) (fun a9 h9 k9 c9 => hF.z h9 (by rw [k9]; rfl)) (fun i9 => hF.r hn3 (by rw [kn3]; rfl)) (fun i9 => hF.r hl3 (by rw [kl3]; rfl)) (fun i9 => hF.r hm3 (by rw [km3]; rfl))
              have g765 : tw_nw K L 19 f733 := tw_nw_tr hz3 (fun a9 h9 k9 => hF.j h9 (by rw [k9]; rfl))
              obtain ⟨y766, ey766, ny766⟩ : ∃ zz : Int, q_is (q_z f733 hist 2) zz ∧ zz = min 6 (my + 1) := ⟨_, t737, rfl⟩
              have ly766 : 1 ≤ y766 ∧ y766 ≤ 6 := by omega
              refine q_ald_n cx dX11_tick_50 rfl (lv_at hl 0 rfl) ?_
              refine q_gX11_54 cx hB hx kx z748 dX11_tick_51 (fun hb767 kb767 => ?_)
              refine q_ild_n cx dX11_tick_54 rfl (lv_at hl 1 rfl) ?_
              refine q_cVi (As := [.int (q_i a0)]) (rest := []) cx hB (fun _ h => h) hN hv0 kv0 (by decide) rfl (f_passTicks0 l g hN hB.2.1 d0 s0 v0 hv0 kv0 a0 (by omega) (by omega) n0 hn0 kn0 l0 hl0 kl0 m0 hm0 km0 tm (by omega) (by omega) nn (by omega) (by omega) ln (by omega) (by omega) mn (by omega) (by omega) z739 z740 z741 z742 z753 z754 z755 g762 g763) q_cX11_275 q_dX10_passTicks (by decide) rfl rfl hl.1 rfl (Nat.le_of_ble_eq_true rfl) dX11_tick_55 (fun y769 H locs f768 ry769 h770 hF hB => ?_)
              obtain ⟨ly769, uy769, z771, t772, g773, g774⟩ := h770
              have z775 : q_is (q_z f768 v0 3) nn := Eq.trans (hF.z hv0 (by rw [kv0]; rfl)) z740
              have z776 : q_is (q_z f768 v0 4) ln := Eq.trans (hF.z hv0 (by rw [kv0]; rfl)) z741
              have z777 : q_is (q_z f768 v0 5) mn := Eq.trans (hF.z hv0 (by rw [kv0]; rfl)) z742
              have z778 : q_is (q_z f768 v0 6) yr := Eq.trans (hF.z hv0 (by rw [kv0]; rfl)) z743
              have z779 : q_is (q_z f768 hist 1) 4 := Eq.trans (hF.z hhist (by rw [khist]; rfl)) z736
              have z780 : q_is (q_z f768 hist 2) y766 := Eq.trans (hF.z hhist (by rw [khist]; rfl)) ey766
              have z781 : q_ir (q_r f768 x 0) so := Eq.trans (hF.r hx (by rw [kx]; rfl)) z744
              have z782 : q_ir (q_r f768 x 1) rd := Eq.trans (hF.r hx (by rw [kx]; rfl)) z745
              have z783 : q_ir (q_r f768 x 3) fc := Eq.trans (hF.r hx (by rw [kx]; rfl)) z746
              have z784 : q_ir (q_r f768 x 4) hist := Eq.trans (hF.r hx (by rw [kx]; rfl)) z747
              have z785 : q_ir (q_r f768 x 6) v0 := Eq.trans (hF.r hx (by rw [kx]; rfl)) z748
              have z786 : q_ir (q_r f768 x 7) v1 := Eq.trans (hF.r hx (by rw [kx]; rfl)) z749
              have z787 : q_ir (q_r f768 so 0) ba := Eq.trans (hF.r hso (by rw [kso]; rfl)) z750
              have z788 : q_ir (q_r f768 hist 0) ka := Eq.trans (hF.r hhist (by rw [khist]; rfl)) z751
              have z789 : q_ir (q_r f768 fc 0) v3 := Eq.trans (hF.r hfc (by rw [kfc]; rfl)) z752
              have z790 : q_ir (q_r f768 v0 0) n0 := Eq.trans (hF.r hv0 (by rw [kv0]; rfl)) z753
              have z791 : q_ir (q_r f768 v0 1) l0 := Eq.trans (hF.r hv0 (by rw [kv0]; rfl)) z754
              have z792 : q_ir (q_r f768 v0 2) m0 := Eq.trans (hF.r hv0 (by rw [kv0]; rfl)) z755
              have z793 : q_ir (q_r f768 v1 0) n1 := Eq.trans (hF.r hv1 (by rw [kv1]; rfl)) z756
              have z794 : q_ir (q_r f768 v1 1) l1 := Eq.trans (hF.r hv1 (by rw [kv1]; rfl)) z757
              have z795 : q_ir (q_r f768 v1 2) m1 := Eq.trans (hF.r hv1 (by rw [kv1]; rfl)) z758
              have z796 : q_ir (q_r f768 v3 0) n3 := Eq.trans (hF.r hv3 (by rw [kv3]; rfl)) z759
              have z797 : q_ir (q_r f768 v3 1) l3 := Eq.trans (hF.r hv3 (by rw [kv3]; rfl)) z760
              have z798 : q_ir (q_r f768 v3 2) m3 := Eq.trans (hF.r hv3 (by rw [kv3]; rfl)) z761
              have g799 : tw_nw K L 5 f768 := tw_nw_tr g763 (fun a9 h9 k9 => hF.j h9 (by rw [k9]; rfl))
              have g800 : ∃ s9 : tw_S, tw_vw K L 15 19 23 27 f768 v3 n3 l3 m3 d3 s9 := tw_ex_tr g764 (fun a9 h9 k9 c9 => hF.z h9 (by rw [k9]; rfl)) (fun a9 h9 k9 c9 => hF.z h9 (by rw [k9]; rfl)) (fun a9 h9 k9 c9 => hF.z h9 (by rw [k9]; rfl)) (fun a9 h9 k9 c9 => hF.z h9 (by rw [k9]; rfl)) (fun i9 => hF.r hn3 (by rw [kn3]; rfl)) (fun i9 => hF.r hl3 (by rw [kl3]; rfl)) (fun i9 => hF.r hm3 (by rw [km3]; rfl))
              have g801 : tw_nw K L 19 f768 := tw_nw_tr g765 (fun a9 h9 k9 => hF.j h9 (by rw [k9]; rfl))
              have g802 : tw_hk K L f768 ka A9 D9 (tw_hu S9 3 (tw_cp (S9 3) s0)) := tw_hk_tr g738 (fun a9 h9 k9 i9 => hF a9 h9 i9 (tw_krw rfl k9))
              refine q_iret cx hr hlk hB dX11_tick_58 ⟨by omega, by omega⟩ ?_
              exact ⟨(by omega), (by omega), z771, (Eq.trans z779 (by have e9 : sl = 3 := by omega; rw [e9]; rfl)), (Eq.trans z780 (by omega)), (by have t0_ : y769 = tw_tcl s0 (Int.toNat a0) := t772; (try simp only [t0_]); (repeat' split) <;> first | rfl | (exfalso; omega)), g773, g774, (tw_hkg g802 (by have e9 : sl = 3 := by omega; rw [e9]; rfl))⟩
            · by_cases c803 : sl ≤ 4
              · refine q_cVv (As := [.ref v0]) (rest := []) cx hB (fun _ h => h) hN hhist khist (by decide) rfl (f_keep_4 l g hN hB.2.1 d0 s0 A9 D9 S9 hist hhist khist v0 hv0 kv0 n0 hn0 kn0 l0 hl0 kl0 m0 hm0 km0 ka hka kka tm (by omega) (by omega) nn (by omega) (by omega) ln (by omega) (by omega) mn (by omega) (by omega) my (by omega) (by omega) hf0 hf1 hf2 hf3 (Eq.trans hf5 (by omega)) hf6 hr7 hr9 hr10 hr11 hw0 hz0 hhk) q_cX11_107 q_dX2_keep (by decide) rfl rfl hl.1 rfl (Nat.le_of_ble_eq_true rfl) dX11_tick_47 (fun H locs f804 h806 hF hB => ?_)
                obtain ⟨z807, t808, g809⟩ := h806
                have z810 : q_is (q_z f804 v0 11) tm := Eq.trans (hF.z hv0 (by rw [kv0]; rfl)) hf0
                have z811 : q_is (q_z f804 v0 3) nn := Eq.trans (hF.z hv0 (by rw [kv0]; rfl)) hf1
                have z812 : q_is (q_z f804 v0 4) ln := Eq.trans (hF.z hv0 (by rw [kv0]; rfl)) hf2
                have z813 : q_is (q_z f804 v0 5) mn := Eq.trans (hF.z hv0 (by rw [kv0]; rfl)) hf3
                have z814 : q_is (q_z f804 v0 6) yr := Eq.trans (hF.z hv0 (by rw [kv0]; rfl)) hf4
                have z815 : q_ir (q_r f804 x 0) so := Eq.trans (hF.r hx (by rw [kx]; rfl)) hr0
                have z816 : q_ir (q_r f804 x 1) rd := Eq.trans (hF.r hx (by rw [kx]; rfl)) hr1
                have z817 : q_ir (q_r f804 x 3) fc := Eq.trans (hF.r hx (by rw [kx]; rfl)) hr2
                have z818 : q_ir (q_r f804 x 4) hist := Eq.trans (hF.r hx (by rw [kx]; rfl)) hr3
                have z819 : q_ir (q_r f804 x 6) v0 := Eq.trans (hF.r hx (by rw [kx]; rfl)) hr4
                have z820 : q_ir (q_r f804 x 7) v1 := Eq.trans (hF.r hx (by rw [kx]; rfl)) hr5
                have z821 : q_ir (q_r f804 so 0) ba := Eq.trans (hF.r hso (by rw [kso]; rfl)) hr6
                have z822 : q_ir (q_r f804 hist 0) ka := Eq.trans (hF.r hhist (by rw [khist]; rfl)) hr7
                have z823 : q_ir (q_r f804 fc 0) v3 := Eq.trans (hF.r hfc (by rw [kfc]; rfl)) hr8
                have z824 : q_ir (q_r f804 v0 0) n0 := Eq.trans (hF.r hv0 (by rw [kv0]; rfl)) hr9
                have z825 : q_ir (q_r f804 v0 1) l0 := Eq.trans (hF.r hv0 (by rw [kv0]; rfl)) hr10
                have z826 : q_ir (q_r f804 v0 2) m0 := Eq.trans (hF.r hv0 (by rw [kv0]; rfl)) hr11
                have z827 : q_ir (q_r f804 v1 0) n1 := Eq.trans (hF.r hv1 (by rw [kv1]; rfl)) hr12
                have z828 : q_ir (q_r f804 v1 1) l1 := Eq.trans (hF.r hv1 (by rw [kv1]; rfl)) hr13
                have z829 : q_ir (q_r f804 v1 2) m1 := Eq.trans (hF.r hv1 (by rw [kv1]; rfl)) hr14
                have z830 : q_ir (q_r f804 v3 0) n3 := Eq.trans (hF.r hv3 (by rw [kv3]; rfl)) hr15
                have z831 : q_ir (q_r f804 v3 1) l3 := Eq.trans (hF.r hv3 (by rw [kv3]; rfl)) hr16
                have z832 : q_ir (q_r f804 v3 2) m3 := Eq.trans (hF.r hv3 (by rw [kv3]; rfl)) hr17
                have g833 : tw_vw K L 10 5 3 4 f804 v0 n0 l0 m0 d0 s0 := tw_vw_tr hw0 (fun a9 h9 k9 c9 => hF.z h9 (by rw [k9]; rfl)) (fun a9 h9 k9 c9 => hF.z h9 (by rw [k9]; rfl)) (fun a9 h9 k9 c9 => hF.z h9 (by rw [k9]; rfl)) (fun a9 h9 k9 c9 => hF.z h9 (by rw [k9]; rfl)) (fun i9 => hF.r hn0 (by rw [kn0]; rfl)) (fun i9 => hF.r hl0 (by rw [kl0]; rfl)) (fun i9 => hF.r hm0 (by rw [km0]; rfl))
                have g834 : tw_nw K L 5 f804 := tw_nw_tr hz0 (fun a9 h9 k9 => hF.j h9 (by rw [k9]; rfl))
                have g835 : ∃ s9 : tw_S, tw_vw K L 15 19 23 27 f804 v3 n3 l3 m3 d3 s9 := tw_ex_tr he3 (fun a9 h9 k9 c9 => hF.z h9 (by rw [k9]; rfl)) (fun a9 h9 k9 c9 => hF.z h9 (by rw [k9]; rfl)) (fun a9 h9 k9 c9 => hF.z h9 (by rw [k9]; rfl)) (fun a9 h9 k9 c9 => hF.z h9 (by rw [k9]; rfl)) (fun i9 => hF.r hn3 (by rw [kn3]; rfl)) (fun i9 => hF.r hl3 (by rw [kl3]; rfl)) (fun i9 => hF.r hm3 (by rw [km3]; rfl))
                have g836 : tw_nw K L 19 f804 := tw_nw_tr hz3 (fun a9 h9 k9 => hF.j h9 (by rw [k9]; rfl))
                obtain ⟨y837, ey837, ny837⟩ : ∃ zz : Int, q_is (q_z f804 hist 2) zz ∧ zz = min 6 (my + 1) := ⟨_, t808, rfl⟩
                have ly837 : 1 ≤ y837 ∧ y837 ≤ 6 := by omega
                refine q_ald_n cx dX11_tick_50 rfl (lv_at hl 0 rfl) ?_
                refine q_gX11_54 cx hB hx kx z819 dX11_tick_51 (fun hb838 kb838 => ?_)
                refine q_ild_n cx dX11_tick_54 rfl (lv_at hl 1 rfl) ?_
                refine q_cVi (As := [.int (q_i a0)]) (rest := []) cx hB (fun _ h => h) hN hv0 kv0 (by decide) rfl (f_passTicks0 l g hN hB.2.1 d0 s0 v0 hv0 kv0 a0 (by omega) (by omega) n0 hn0 kn0 l0 hl0 kl0 m0 hm0 km0 tm (by omega) (by omega) nn (by omega) (by omega) ln (by omega) (by omega) mn (by omega) (by omega) z810 z811 z812 z813 z824 z825 z826 g833 g834) q_cX11_275 q_dX10_passTicks (by decide) rfl rfl hl.1 rfl (Nat.le_of_ble_eq_true rfl) dX11_tick_55 (fun y840 H locs f839 ry840 h841 hF hB => ?_)
                obtain ⟨ly840, uy840, z842, t843, g844, g845⟩ := h841
                have z846 : q_is (q_z f839 v0 3) nn := Eq.trans (hF.z hv0 (by rw [kv0]; rfl)) z811
                have z847 : q_is (q_z f839 v0 4) ln := Eq.trans (hF.z hv0 (by rw [kv0]; rfl)) z812
                have z848 : q_is (q_z f839 v0 5) mn := Eq.trans (hF.z hv0 (by rw [kv0]; rfl)) z813
                have z849 : q_is (q_z f839 v0 6) yr := Eq.trans (hF.z hv0 (by rw [kv0]; rfl)) z814
                have z850 : q_is (q_z f839 hist 1) 5 := Eq.trans (hF.z hhist (by rw [khist]; rfl)) z807
                have z851 : q_is (q_z f839 hist 2) y837 := Eq.trans (hF.z hhist (by rw [khist]; rfl)) ey837
                have z852 : q_ir (q_r f839 x 0) so := Eq.trans (hF.r hx (by rw [kx]; rfl)) z815
                have z853 : q_ir (q_r f839 x 1) rd := Eq.trans (hF.r hx (by rw [kx]; rfl)) z816
                have z854 : q_ir (q_r f839 x 3) fc := Eq.trans (hF.r hx (by rw [kx]; rfl)) z817
                have z855 : q_ir (q_r f839 x 4) hist := Eq.trans (hF.r hx (by rw [kx]; rfl)) z818
                have z856 : q_ir (q_r f839 x 6) v0 := Eq.trans (hF.r hx (by rw [kx]; rfl)) z819
                have z857 : q_ir (q_r f839 x 7) v1 := Eq.trans (hF.r hx (by rw [kx]; rfl)) z820
                have z858 : q_ir (q_r f839 so 0) ba := Eq.trans (hF.r hso (by rw [kso]; rfl)) z821
                have z859 : q_ir (q_r f839 hist 0) ka := Eq.trans (hF.r hhist (by rw [khist]; rfl)) z822
                have z860 : q_ir (q_r f839 fc 0) v3 := Eq.trans (hF.r hfc (by rw [kfc]; rfl)) z823
                have z861 : q_ir (q_r f839 v0 0) n0 := Eq.trans (hF.r hv0 (by rw [kv0]; rfl)) z824
                have z862 : q_ir (q_r f839 v0 1) l0 := Eq.trans (hF.r hv0 (by rw [kv0]; rfl)) z825
                have z863 : q_ir (q_r f839 v0 2) m0 := Eq.trans (hF.r hv0 (by rw [kv0]; rfl)) z826
                have z864 : q_ir (q_r f839 v1 0) n1 := Eq.trans (hF.r hv1 (by rw [kv1]; rfl)) z827
                have z865 : q_ir (q_r f839 v1 1) l1 := Eq.trans (hF.r hv1 (by rw [kv1]; rfl)) z828
                have z866 : q_ir (q_r f839 v1 2) m1 := Eq.trans (hF.r hv1 (by rw [kv1]; rfl)) z829
                have z867 : q_ir (q_r f839 v3 0) n3 := Eq.trans (hF.r hv3 (by rw [kv3]; rfl)) z830
                have z868 : q_ir (q_r f839 v3 1) l3 := Eq.trans (hF.r hv3 (by rw [kv3]; rfl)) z831
                have z869 : q_ir (q_r f839 v3 2) m3 := Eq.trans (hF.r hv3 (by rw [kv3]; rfl)) z832
                have g870 : tw_nw K L 5 f839 := tw_nw_tr g834 (fun a9 h9 k9 => hF.j h9 (by rw [k9]; rfl))
                have g871 : ∃ s9 : tw_S, tw_vw K L 15 19 23 27 f839 v3 n3 l3 m3 d3 s9 := tw_ex_tr g835 (fun a9 h9 k9 c9 => hF.z h9 (by rw [k9]; rfl)) (fun a9 h9 k9 c9 => hF.z h9 (by rw [k9]; rfl)) (fun a9 h9 k9 c9 => hF.z h9 (by rw [k9]; rfl)) (fun a9 h9 k9 c9 => hF.z h9 (by rw [k9]; rfl)) (fun i9 => hF.r hn3 (by rw [kn3]; rfl)) (fun i9 => hF.r hl3 (by rw [kl3]; rfl)) (fun i9 => hF.r hm3 (by rw [km3]; rfl))
                have g872 : tw_nw K L 19 f839 := tw_nw_tr g836 (fun a9 h9 k9 => hF.j h9 (by rw [k9]; rfl))
                have g873 : tw_hk K L f839 ka A9 D9 (tw_hu S9 4 (tw_cp (S9 4) s0)) := tw_hk_tr g809 (fun a9 h9 k9 i9 => hF a9 h9 i9 (tw_krw rfl k9))
                refine q_iret cx hr hlk hB dX11_tick_58 ⟨by omega, by omega⟩ ?_
                exact ⟨(by omega), (by omega), z842, (Eq.trans z850 (by have e9 : sl = 4 := by omega; rw [e9]; rfl)), (Eq.trans z851 (by omega)), (by have t0_ : y840 = tw_tcl s0 (Int.toNat a0) := t843; (try simp only [t0_]); (repeat' split) <;> first | rfl | (exfalso; omega)), g844, g845, (tw_hkg g873 (by have e9 : sl = 4 := by omega; rw [e9]; rfl))⟩
              · by_cases c874 : sl ≤ 5
                · refine q_cVv (As := [.ref v0]) (rest := []) cx hB (fun _ h => h) hN hhist khist (by decide) rfl (f_keep_5 l g hN hB.2.1 d0 s0 A9 D9 S9 hist hhist khist v0 hv0 kv0 n0 hn0 kn0 l0 hl0 kl0 m0 hm0 km0 ka hka kka tm (by omega) (by omega) nn (by omega) (by omega) ln (by omega) (by omega) mn (by omega) (by omega) my (by omega) (by omega) hf0 hf1 hf2 hf3 (Eq.trans hf5 (by omega)) hf6 hr7 hr9 hr10 hr11 hw0 hz0 hhk) q_cX11_107 q_dX2_keep (by decide) rfl rfl hl.1 rfl (Nat.le_of_ble_eq_true rfl) dX11_tick_47 (fun H locs f875 h877 hF hB => ?_)
                  obtain ⟨z878, t879, g880⟩ := h877
                  have z881 : q_is (q_z f875 v0 11) tm := Eq.trans (hF.z hv0 (by rw [kv0]; rfl)) hf0
                  have z882 : q_is (q_z f875 v0 3) nn := Eq.trans (hF.z hv0 (by rw [kv0]; rfl)) hf1
                  have z883 : q_is (q_z f875 v0 4) ln := Eq.trans (hF.z hv0 (by rw [kv0]; rfl)) hf2
                  have z884 : q_is (q_z f875 v0 5) mn := Eq.trans (hF.z hv0 (by rw [kv0]; rfl)) hf3
                  have z885 : q_is (q_z f875 v0 6) yr := Eq.trans (hF.z hv0 (by rw [kv0]; rfl)) hf4
                  have z886 : q_ir (q_r f875 x 0) so := Eq.trans (hF.r hx (by rw [kx]; rfl)) hr0
                  have z887 : q_ir (q_r f875 x 1) rd := Eq.trans (hF.r hx (by rw [kx]; rfl)) hr1
                  have z888 : q_ir (q_r f875 x 3) fc := Eq.trans (hF.r hx (by rw [kx]; rfl)) hr2
                  have z889 : q_ir (q_r f875 x 4) hist := Eq.trans (hF.r hx (by rw [kx]; rfl)) hr3
                  have z890 : q_ir (q_r f875 x 6) v0 := Eq.trans (hF.r hx (by rw [kx]; rfl)) hr4
                  have z891 : q_ir (q_r f875 x 7) v1 := Eq.trans (hF.r hx (by rw [kx]; rfl)) hr5
                  have z892 : q_ir (q_r f875 so 0) ba := Eq.trans (hF.r hso (by rw [kso]; rfl)) hr6
                  have z893 : q_ir (q_r f875 hist 0) ka := Eq.trans (hF.r hhist (by rw [khist]; rfl)) hr7
                  have z894 : q_ir (q_r f875 fc 0) v3 := Eq.trans (hF.r hfc (by rw [kfc]; rfl)) hr8
                  have z895 : q_ir (q_r f875 v0 0) n0 := Eq.trans (hF.r hv0 (by rw [kv0]; rfl)) hr9
                  have z896 : q_ir (q_r f875 v0 1) l0 := Eq.trans (hF.r hv0 (by rw [kv0]; rfl)) hr10
                  have z897 : q_ir (q_r f875 v0 2) m0 := Eq.trans (hF.r hv0 (by rw [kv0]; rfl)) hr11
                  have z898 : q_ir (q_r f875 v1 0) n1 := Eq.trans (hF.r hv1 (by rw [kv1]; rfl)) hr12
                  have z899 : q_ir (q_r f875 v1 1) l1 := Eq.trans (hF.r hv1 (by rw [kv1]; rfl)) hr13
                  have z900 : q_ir (q_r f875 v1 2) m1 := Eq.trans (hF.r hv1 (by rw [kv1]; rfl)) hr14
                  have z901 : q_ir (q_r f875 v3 0) n3 := Eq.trans (hF.r hv3 (by rw [kv3]; rfl)) hr15
                  have z902 : q_ir (q_r f875 v3 1) l3 := Eq.trans (hF.r hv3 (by rw [kv3]; rfl)) hr16
                  have z903 : q_ir (q_r f875 v3 2) m3 := Eq.trans (hF.r hv3 (by rw [kv3]; rfl)) hr17
                  have g904 : tw_vw K L 10 5 3 4 f875 v0 n0 l0 m0 d0 s0 := tw_vw_tr hw0 (fun a9 h9 k9 c9 => hF.z h9 (by rw [k9]; rfl)) (fun a9 h9 k9 c9 => hF.z h9 (by rw [k9]; rfl)) (fun a9 h9 k9 c9 => hF.z h9 (by rw [k9]; rfl)) (fun a9 h9 k9 c9 => hF.z h9 (by rw [k9]; rfl)) (fun i9 => hF.r hn0 (by rw [kn0]; rfl)) (fun i9 => hF.r hl0 (by rw [kl0]; rfl)) (fun i9 => hF.r hm0 (by rw [km0]; rfl))
                  have g905 : tw_nw K L 5 f875 := tw_nw_tr hz0 (fun a9 h9 k9 => hF.j h9 (by rw [k9]; rfl))
                  have g906 : ∃ s9 : tw_S, tw_vw K L 15 19 23 27 f875 v3 n3 l3 m3 d3 s9 := tw_ex_tr he3 (fun a9 h9 k9 c9 => hF.z h9 (by rw [k9]; rfl)) (fun a9 h9 k9 c9 => hF.z h9 (by rw [k9]; rfl)) (fun a9 h9 k9 c9 => hF.z h9 (by rw [k9]; rfl)) (fun a9 h9 k9 c9 => hF.z h9 (by rw [k9]; rfl)) (fun i9 => hF.r hn3 (by rw [kn3]; rfl)) (fun i9 => hF.r hl3 (by rw [kl3]; rfl)) (fun i9 => hF.r hm3 (by rw [km3]; rfl))
                  have g907 : tw_nw K L 19 f875 := tw_nw_tr hz3 (fun a9 h9 k9 => hF.j h9 (by rw [k9]; rfl))
                  obtain ⟨y908, ey908, ny908⟩ : ∃ zz : Int, q_is (q_z f875 hist 2) zz ∧ zz = min 6 (my + 1) := ⟨_, t879, rfl⟩
                  have ly908 : 1 ≤ y908 ∧ y908 ≤ 6 := by omega
                  refine q_ald_n cx dX11_tick_50 rfl (lv_at hl 0 rfl) ?_
                  refine q_gX11_54 cx hB hx kx z890 dX11_tick_51 (fun hb909 kb909 => ?_)
                  refine q_ild_n cx dX11_tick_54 rfl (lv_at hl 1 rfl) ?_
                  refine q_cVi (As := [.int (q_i a0)]) (rest := []) cx hB (fun _ h => h) hN hv0 kv0 (by decide) rfl (f_passTicks0 l g hN hB.2.1 d0 s0 v0 hv0 kv0 a0 (by omega) (by omega) n0 hn0 kn0 l0 hl0 kl0 m0 hm0 km0 tm (by omega) (by omega) nn (by omega) (by omega) ln (by omega) (by omega) mn (by omega) (by omega) z881 z882 z883 z884 z895 z896 z897 g904 g905) q_cX11_275 q_dX10_passTicks (by decide) rfl rfl hl.1 rfl (Nat.le_of_ble_eq_true rfl) dX11_tick_55 (fun y911 H locs f910 ry911 h912 hF hB => ?_)
                  obtain ⟨ly911, uy911, z913, t914, g915, g916⟩ := h912
                  have z917 : q_is (q_z f910 v0 3) nn := Eq.trans (hF.z hv0 (by rw [kv0]; rfl)) z882
                  have z918 : q_is (q_z f910 v0 4) ln := Eq.trans (hF.z hv0 (by rw [kv0]; rfl)) z883
                  have z919 : q_is (q_z f910 v0 5) mn := Eq.trans (hF.z hv0 (by rw [kv0]; rfl)) z884
                  have z920 : q_is (q_z f910 v0 6) yr := Eq.trans (hF.z hv0 (by rw [kv0]; rfl)) z885
                  have z921 : q_is (q_z f910 hist 1) 6 := Eq.trans (hF.z hhist (by rw [khist]; rfl)) z878
                  have z922 : q_is (q_z f910 hist 2) y908 := Eq.trans (hF.z hhist (by rw [khist]; rfl)) ey908
                  have z923 : q_ir (q_r f910 x 0) so := Eq.trans (hF.r hx (by rw [kx]; rfl)) z886
                  have z924 : q_ir (q_r f910 x 1) rd := Eq.trans (hF.r hx (by rw [kx]; rfl)) z887
                  have z925 : q_ir (q_r f910 x 3) fc := Eq.trans (hF.r hx (by rw [kx]; rfl)) z888
                  have z926 : q_ir (q_r f910 x 4) hist := Eq.trans (hF.r hx (by rw [kx]; rfl)) z889
                  have z927 : q_ir (q_r f910 x 6) v0 := Eq.trans (hF.r hx (by rw [kx]; rfl)) z890
                  have z928 : q_ir (q_r f910 x 7) v1 := Eq.trans (hF.r hx (by rw [kx]; rfl)) z891
                  have z929 : q_ir (q_r f910 so 0) ba := Eq.trans (hF.r hso (by rw [kso]; rfl)) z892
                  have z930 : q_ir (q_r f910 hist 0) ka := Eq.trans (hF.r hhist (by rw [khist]; rfl)) z893
                  have z931 : q_ir (q_r f910 fc 0) v3 := Eq.trans (hF.r hfc (by rw [kfc]; rfl)) z894
                  have z932 : q_ir (q_r f910 v0 0) n0 := Eq.trans (hF.r hv0 (by rw [kv0]; rfl)) z895
                  have z933 : q_ir (q_r f910 v0 1) l0 := Eq.trans (hF.r hv0 (by rw [kv0]; rfl)) z896
                  have z934 : q_ir (q_r f910 v0 2) m0 := Eq.trans (hF.r hv0 (by rw [kv0]; rfl)) z897
                  have z935 : q_ir (q_r f910 v1 0) n1 := Eq.trans (hF.r hv1 (by rw [kv1]; rfl)) z898
                  have z936 : q_ir (q_r f910 v1 1) l1 := Eq.trans (hF.r hv1 (by rw [kv1]; rfl)) z899
                  have z937 : q_ir (q_r f910 v1 2) m1 := Eq.trans (hF.r hv1 (by rw [kv1]; rfl)) z900
                  have z938 : q_ir (q_r f910 v3 0) n3 := Eq.trans (hF.r hv3 (by rw [kv3]; rfl)) z901
                  have z939 : q_ir (q_r f910 v3 1) l3 := Eq.trans (hF.r hv3 (by rw [kv3]; rfl)) z902
                  have z940 : q_ir (q_r f910 v3 2) m3 := Eq.trans (hF.r hv3 (by rw [kv3]; rfl)) z903
                  have g941 : tw_nw K L 5 f910 := tw_nw_tr g905 (fun a9 h9 k9 => hF.j h9 (by rw [k9]; rfl))
                  have g942 : ∃ s9 : tw_S, tw_vw K L 15 19 23 27 f910 v3 n3 l3 m3 d3 s9 := tw_ex_tr g906 (fun a9 h9 k9 c9 => hF.z h9 (by rw [k9]; rfl)) (fun a9 h9 k9 c9 => hF.z h9 (by rw [k9]; rfl)) (fun a9 h9 k9 c9 => hF.z h9 (by rw [k9]; rfl)) (fun a9 h9 k9 c9 => hF.z h9 (by rw [k9]; rfl)) (fun i9 => hF.r hn3 (by rw [kn3]; rfl)) (fun i9 => hF.r hl3 (by rw [kl3]; rfl)) (fun i9 => hF.r hm3 (by rw [km3]; rfl))
                  have g943 : tw_nw K L 19 f910 := tw_nw_tr g907 (fun a9 h9 k9 => hF.j h9 (by rw [k9]; rfl))
                  have g944 : tw_hk K L f910 ka A9 D9 (tw_hu S9 5 (tw_cp (S9 5) s0)) := tw_hk_tr g880 (fun a9 h9 k9 i9 => hF a9 h9 i9 (tw_krw rfl k9))
                  refine q_iret cx hr hlk hB dX11_tick_58 ⟨by omega, by omega⟩ ?_
                  exact ⟨(by omega), (by omega), z913, (Eq.trans z921 (by have e9 : sl = 5 := by omega; rw [e9]; rfl)), (Eq.trans z922 (by omega)), (by have t0_ : y911 = tw_tcl s0 (Int.toNat a0) := t914; (try simp only [t0_]); (repeat' split) <;> first | rfl | (exfalso; omega)), g915, g916, (tw_hkg g944 (by have e9 : sl = 5 := by omega; rw [e9]; rfl))⟩
                · refine q_cVv (As := [.ref v0]) (rest := []) cx hB (fun _ h => h) hN hhist khist (by decide) rfl (f_keep_6 l g hN hB.2.1 d0 s0 A9 D9 S9 hist hhist khist v0 hv0 kv0 n0 hn0 kn0 l0 hl0 kl0 m0 hm0 km0 ka hka kka tm (by omega) (by omega) nn (by omega) (by omega) ln (by omega) (by omega) mn (by omega) (by omega) my (by omega) (by omega) hf0 hf1 hf2 hf3 (Eq.trans hf5 (by omega)) hf6 hr7 hr9 hr10 hr11 hw0 hz0 hhk) q_cX11_107 q_dX2_keep (by decide) rfl rfl hl.1 rfl (Nat.le_of_ble_eq_true rfl) dX11_tick_47 (fun H locs f945 h947 hF hB => ?_)
                  obtain ⟨z948, t949, g950⟩ := h947
                  have z951 : q_is (q_z f945 v0 11) tm := Eq.trans (hF.z hv0 (by rw [kv0]; rfl)) hf0
                  have z952 : q_is (q_z f945 v0 3) nn := Eq.trans (hF.z hv0 (by rw [kv0]; rfl)) hf1
                  have z953 : q_is (q_z f945 v0 4) ln := Eq.trans (hF.z hv0 (by rw [kv0]; rfl)) hf2
                  have z954 : q_is (q_z f945 v0 5) mn := Eq.trans (hF.z hv0 (by rw [kv0]; rfl)) hf3
                  have z955 : q_is (q_z f945 v0 6) yr := Eq.trans (hF.z hv0 (by rw [kv0]; rfl)) hf4
                  have z956 : q_ir (q_r f945 x 0) so := Eq.trans (hF.r hx (by rw [kx]; rfl)) hr0
                  have z957 : q_ir (q_r f945 x 1) rd := Eq.trans (hF.r hx (by rw [kx]; rfl)) hr1
                  have z958 : q_ir (q_r f945 x 3) fc := Eq.trans (hF.r hx (by rw [kx]; rfl)) hr2
                  have z959 : q_ir (q_r f945 x 4) hist := Eq.trans (hF.r hx (by rw [kx]; rfl)) hr3
                  have z960 : q_ir (q_r f945 x 6) v0 := Eq.trans (hF.r hx (by rw [kx]; rfl)) hr4
                  have z961 : q_ir (q_r f945 x 7) v1 := Eq.trans (hF.r hx (by rw [kx]; rfl)) hr5
                  have z962 : q_ir (q_r f945 so 0) ba := Eq.trans (hF.r hso (by rw [kso]; rfl)) hr6
                  have z963 : q_ir (q_r f945 hist 0) ka := Eq.trans (hF.r hhist (by rw [khist]; rfl)) hr7
                  have z964 : q_ir (q_r f945 fc 0) v3 := Eq.trans (hF.r hfc (by rw [kfc]; rfl)) hr8
                  have z965 : q_ir (q_r f945 v0 0) n0 := Eq.trans (hF.r hv0 (by rw [kv0]; rfl)) hr9
                  have z966 : q_ir (q_r f945 v0 1) l0 := Eq.trans (hF.r hv0 (by rw [kv0]; rfl)) hr10
                  have z967 : q_ir (q_r f945 v0 2) m0 := Eq.trans (hF.r hv0 (by rw [kv0]; rfl)) hr11
                  have z968 : q_ir (q_r f945 v1 0) n1 := Eq.trans (hF.r hv1 (by rw [kv1]; rfl)) hr12
                  have z969 : q_ir (q_r f945 v1 1) l1 := Eq.trans (hF.r hv1 (by rw [kv1]; rfl)) hr13
                  have z970 : q_ir (q_r f945 v1 2) m1 := Eq.trans (hF.r hv1 (by rw [kv1]; rfl)) hr14
                  have z971 : q_ir (q_r f945 v3 0) n3 := Eq.trans (hF.r hv3 (by rw [kv3]; rfl)) hr15
                  have z972 : q_ir (q_r f945 v3 1) l3 := Eq.trans (hF.r hv3 (by rw [kv3]; rfl)) hr16
                  have z973 : q_ir (q_r f945 v3 2) m3 := Eq.trans (hF.r hv3 (by rw [kv3]; rfl)) hr17
                  have g974 : tw_vw K L 10 5 3 4 f945 v0 n0 l0 m0 d0 s0 := tw_vw_tr hw0 (fun a9 h9 k9 c9 => hF.z h9 (by rw [k9]; rfl)) (fun a9 h9 k9 c9 => hF.z h9 (by rw [k9]; rfl)) (fun a9 h9 k9 c9 => hF.z h9 (by rw [k9]; rfl)) (fun a9 h9 k9 c9 => hF.z h9 (by rw [k9]; rfl)) (fun i9 => hF.r hn0 (by rw [kn0]; rfl)) (fun i9 => hF.r hl0 (by rw [kl0]; rfl)) (fun i9 => hF.r hm0 (by rw [km0]; rfl))
                  have g975 : tw_nw K L 5 f945 := tw_nw_tr hz0 (fun a9 h9 k9 => hF.j h9 (by rw [k9]; rfl))
                  have g976 : ∃ s9 : tw_S, tw_vw K L 15 19 23 27 f945 v3 n3 l3 m3 d3 s9 := tw_ex_tr he3 (fun a9 h9 k9 c9 => hF.z h9 (by rw [k9]; rfl)) (fun a9 h9 k9 c9 => hF.z h9 (by rw [k9]; rfl)) (fun a9 h9 k9 c9 => hF.z h9 (by rw [k9]; rfl)) (fun a9 h9 k9 c9 => hF.z h9 (by rw [k9]; rfl)) (fun i9 => hF.r hn3 (by rw [kn3]; rfl)) (fun i9 => hF.r hl3 (by rw [kl3]; rfl)) (fun i9 => hF.r hm3 (by rw [km3]; rfl))
                  have g977 : tw_nw K L 19 f945 := tw_nw_tr hz3 (fun a9 h9 k9 => hF.j h9 (by rw [k9]; rfl))
                  obtain ⟨y978, ey978, ny978⟩ : ∃ zz : Int, q_is (q_z f945 hist 2) zz ∧ zz = min 6 (my + 1) := ⟨_, t949, rfl⟩
                  have ly978 : 1 ≤ y978 ∧ y978 ≤ 6 := by omega
                  refine q_ald_n cx dX11_tick_50 rfl (lv_at hl 0 rfl) ?_
                  refine q_gX11_54 cx hB hx kx z960 dX11_tick_51 (fun hb979 kb979 => ?_)
                  refine q_ild_n cx dX11_tick_54 rfl (lv_at hl 1 rfl) ?_
                  refine q_cVi (As := [.int (q_i a0)]) (rest := []) cx hB (fun _ h => h) hN hv0 kv0 (by decide) rfl (f_passTicks0 l g hN hB.2.1 d0 s0 v0 hv0 kv0 a0 (by omega) (by omega) n0 hn0 kn0 l0 hl0 kl0 m0 hm0 km0 tm (by omega) (by omega) nn (by omega) (by omega) ln (by omega) (by omega) mn (by omega) (by omega) z951 z952 z953 z954 z965 z966 z967 g974 g975) q_cX11_275 q_dX10_passTicks (by decide) rfl rfl hl.1 rfl (Nat.le_of_ble_eq_true rfl) dX11_tick_55 (fun y981 H locs f980 ry981 h982 hF hB => ?_)
                  obtain ⟨ly981, uy981, z983, t984, g985, g986⟩ := h982
                  have z987 : q_is (q_z f980 v0 3) nn := Eq.trans (hF.z hv0 (by rw [kv0]; rfl)) z952
                  have z988 : q_is (q_z f980 v0 4) ln := Eq.trans (hF.z hv0 (by rw [kv0]; rfl)) z953
                  have z989 : q_is (q_z f980 v0 5) mn := Eq.trans (hF.z hv0 (by rw [kv0]; rfl)) z954
                  have z990 : q_is (q_z f980 v0 6) yr := Eq.trans (hF.z hv0 (by rw [kv0]; rfl)) z955
                  have z991 : q_is (q_z f980 hist 1) 1 := Eq.trans (hF.z hhist (by rw [khist]; rfl)) z948
                  have z992 : q_is (q_z f980 hist 2) y978 := Eq.trans (hF.z hhist (by rw [khist]; rfl)) ey978
                  have z993 : q_ir (q_r f980 x 0) so := Eq.trans (hF.r hx (by rw [kx]; rfl)) z956
                  have z994 : q_ir (q_r f980 x 1) rd := Eq.trans (hF.r hx (by rw [kx]; rfl)) z957
                  have z995 : q_ir (q_r f980 x 3) fc := Eq.trans (hF.r hx (by rw [kx]; rfl)) z958
                  have z996 : q_ir (q_r f980 x 4) hist := Eq.trans (hF.r hx (by rw [kx]; rfl)) z959
                  have z997 : q_ir (q_r f980 x 6) v0 := Eq.trans (hF.r hx (by rw [kx]; rfl)) z960
                  have z998 : q_ir (q_r f980 x 7) v1 := Eq.trans (hF.r hx (by rw [kx]; rfl)) z961
                  have z999 : q_ir (q_r f980 so 0) ba := Eq.trans (hF.r hso (by rw [kso]; rfl)) z962
                  have z1000 : q_ir (q_r f980 hist 0) ka := Eq.trans (hF.r hhist (by rw [khist]; rfl)) z963
                  have z1001 : q_ir (q_r f980 fc 0) v3 := Eq.trans (hF.r hfc (by rw [kfc]; rfl)) z964
                  have z1002 : q_ir (q_r f980 v0 0) n0 := Eq.trans (hF.r hv0 (by rw [kv0]; rfl)) z965
                  have z1003 : q_ir (q_r f980 v0 1) l0 := Eq.trans (hF.r hv0 (by rw [kv0]; rfl)) z966
                  have z1004 : q_ir (q_r f980 v0 2) m0 := Eq.trans (hF.r hv0 (by rw [kv0]; rfl)) z967
                  have z1005 : q_ir (q_r f980 v1 0) n1 := Eq.trans (hF.r hv1 (by rw [kv1]; rfl)) z968
                  have z1006 : q_ir (q_r f980 v1 1) l1 := Eq.trans (hF.r hv1 (by rw [kv1]; rfl)) z969
                  have z1007 : q_ir (q_r f980 v1 2) m1 := Eq.trans (hF.r hv1 (by rw [kv1]; rfl)) z970
                  have z1008 : q_ir (q_r f980 v3 0) n3 := Eq.trans (hF.r hv3 (by rw [kv3]; rfl)) z971
                  have z1009 : q_ir (q_r f980 v3 1) l3 := Eq.trans (hF.r hv3 (by rw [kv3]; rfl)) z972
                  have z1010 : q_ir (q_r f980 v3 2) m3 := Eq.trans (hF.r hv3 (by rw [kv3]; rfl)) z973
                  have g1011 : tw_nw K L 5 f980 := tw_nw_tr g975 (fun a9 h9 k9 => hF.j h9 (by rw [k9]; rfl))
                  have g1012 : ∃ s9 : tw_S, tw_vw K L 15 19 23 27 f980 v3 n3 l3 m3 d3 s9 := tw_ex_tr g976 (fun a9 h9 k9 c9 => hF.z h9 (by rw [k9]; rfl)) (fun a9 h9 k9 c9 => hF.z h9 (by rw [k9]; rfl)) (fun a9 h9 k9 c9 => hF.z h9 (by rw [k9]; rfl)) (fun a9 h9 k9 c9 => hF.z h9 (by rw [k9]; rfl)) (fun i9 => hF.r hn3 (by rw [kn3]; rfl)) (fun i9 => hF.r hl3 (by rw [kl3]; rfl)) (fun i9 => hF.r hm3 (by rw [km3]; rfl))
                  have g1013 : tw_nw K L 19 f980 := tw_nw_tr g977 (fun a9 h9 k9 => hF.j h9 (by rw [k9]; rfl))
                  have g1014 : tw_hk K L f980 ka A9 D9 (tw_hu S9 0 (tw_cp (S9 0) s0)) := tw_hk_tr g950 (fun a9 h9 k9 i9 => hF a9 h9 i9 (tw_krw rfl k9))
                  refine q_iret cx hr hlk hB dX11_tick_58 ⟨by omega, by omega⟩ ?_
                  exact ⟨(by omega), (by omega), z983, (Eq.trans z991 (by have e9 : sl = 6 := by omega; rw [e9]; rfl)), (Eq.trans z992 (by omega)), (by have t0_ : y981 = tw_tcl s0 (Int.toNat a0) := t984; (try simp only [t0_]); (repeat' split) <;> first | rfl | (exfalso; omega)), g985, g986, (tw_hkg g1014 (by have e9 : sl = 6 := by omega; rw [e9]; rfl))⟩
    · exact absurd c516 (by omega)
  · exact absurd c511 (by omega)
