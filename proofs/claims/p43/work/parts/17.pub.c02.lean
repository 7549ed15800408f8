set_option maxHeartbeats 4000000 in
set_option maxRecDepth 100000 in
theorem f_xsend (l : Launch) (g : q_G) {K : Nat → Nat} {L : List Nat} (hN : L.Nodup) {f : Nat → va_E} (hT : q_Ty g K L f) (d0 : Nat → Nat) (s0 : tw_S) (d3 : Nat → Nat) (A9 : Nat → Nat → Nat) (D9 : Nat → Nat → Nat) (S9 : Nat → tw_S) (x : Nat) (hx : x ∈ L) (kx : K x = 11) (a0 : Int) (la0 : 0 ≤ a0) (ua0 : a0 ≤ 9) (b0 : Int) (lb0 : 0 ≤ b0) (ub0 : b0 ≤ 9) (c0 : Int) (lc0 : 1 ≤ c0) (uc0 : c0 ≤ 999) (z0 : Int) (lz0 : 0 ≤ z0) (uz0 : z0 ≤ 1) (so : Nat) (hso : so ∈ L) (kso : K so = 8) (rd : Nat) (hrd : rd ∈ L) (krd : K rd = 9) (fc : Nat) (hfc : fc ∈ L) (kfc : K fc = 1) (hist : Nat) (hhist : hist ∈ L) (khist : K hist = 2) (v0 : Nat) (hv0 : v0 ∈ L) (kv0 : K v0 = 10) (v1 : Nat) (hv1 : v1 ∈ L) (kv1 : K v1 = 13) (ba : Nat) (hba : ba ∈ L) (kba : K ba = 142) (ka : Nat) (hka : ka ∈ L) (kka : K ka = 218) (v3 : Nat) (hv3 : v3 ∈ L) (kv3 : K v3 = 15) (n0 : Nat) (hn0 : n0 ∈ L) (kn0 : K n0 = 110) (l0 : Nat) (hl0 : l0 ∈ L) (kl0 : K l0 = 120) (m0 : Nat) (hm0 : m0 ∈ L) (km0 : K m0 = 130) (n1 : Nat) (hn1 : n1 ∈ L) (kn1 : K n1 = 111) (l1 : Nat) (hl1 : l1 ∈ L) (kl1 : K l1 = 121) (m1 : Nat) (hm1 : m1 ∈ L) (km1 : K m1 = 131) (n3 : Nat) (hn3 : n3 ∈ L) (kn3 : K n3 = 113) (l3 : Nat) (hl3 : l3 ∈ L) (kl3 : K l3 = 123) (m3 : Nat) (hm3 : m3 ∈ L) (km3 : K m3 = 133) (tm : Int) (ltm : 0 ≤ tm) (utm : tm ≤ 9000) (nn : Int) (lnn : 0 ≤ nn) (unn : nn ≤ 10) (ln : Int) (lln : 0 ≤ ln) (uln : ln ≤ 16) (mn : Int) (lmn : 0 ≤ mn) (umn : mn ≤ 59) (yr : Int) (lyr : 4 ≤ yr) (uyr : yr ≤ 60) (sl : Int) (lsl : 0 ≤ sl) (usl : sl ≤ 6) (my : Int) (lmy : 0 ≤ my) (umy : my ≤ 6) (hf0 : q_is (q_z f v0 11) tm) (hf1 : q_is (q_z f v0 3) nn) (hf2 : q_is (q_z f v0 4) ln) (hf3 : q_is (q_z f v0 5) mn) (hf4 : q_is (q_z f v0 6) yr) (hf5 : q_is (q_z f hist 1) sl) (hf6 : q_is (q_z f hist 2) my) (hr0 : q_ir (q_r f x 0) so) (hr1 : q_ir (q_r f x 1) rd) (hr2 : q_ir (q_r f x 3) fc) (hr3 : q_ir (q_r f x 4) hist) (hr4 : q_ir (q_r f x 6) v0) (hr5 : q_ir (q_r f x 7) v1) (hr6 : q_ir (q_r f so 0) ba) (hr7 : q_ir (q_r f hist 0) ka) (hr8 : q_ir (q_r f fc 0) v3) (hr9 : q_ir (q_r f v0 0) n0) (hr10 : q_ir (q_r f v0 1) l0) (hr11 : q_ir (q_r f v0 2) m0) (hr12 : q_ir (q_r f v1 0) n1) (hr13 : q_ir (q_r f v1 1) l1) (hr14 : q_ir (q_r f v1 2) m1) (hr15 : q_ir (q_r f v3 0) n3) (hr16 : q_ir (q_r f v3 1) l3) (hr17 : q_ir (q_r f v3 2) m3) (hp0 : a0 < nn) (hp1 : b0 < nn) (hp2 : a0 ≠ b0) (hp3 : tw_ou s0 a0 = 0) (hp4 : tw_ou s0 b0 = 0) (hw0 : tw_vw K L 10 5 3 4 f v0 n0 l0 m0 d0 s0) (hz0 : tw_nw K L 5 f) (hhk : tw_hk K L f ka A9 D9 S9) (he3 : ∃ s9 : tw_S, tw_vw K L 15 19 23 27 f v3 n3 l3 m3 d3 s9) (hz3 : tw_nw K L 19 f) : q_Ct l g K L yX11_send cX11_send 5 (some .int) 3 64 [.ref x, .int (q_i a0), .int (q_i b0), .int (q_i c0), .int (q_i z0)] f [(2, 1, 2), (4, 0, 7), (10, 5, 5), (50, 3, 12), (51, 3, 12), (52, 3, 12), (53, 3, 12), (54, 3, 12), (55, 3, 12), (56, 0, 8), (57, 0, 8), (58, 0, 8), (59, 0, 8), (60, 0, 8), (61, 0, 8), (62, 0, 4), (63, 0, 4), (64, 0, 4), (65, 0, 4), (66, 0, 4), (67, 0, 4), (68, 0, 7), (69, 0, 7), (70, 0, 7), (71, 0, 7), (72, 0, 7), (73, 0, 7)] (q_Pi (fun (z : Int) (f1 : Nat → va_E) => 0 ≤ z ∧ z ≤ 60 ∧ q_is (q_z f1 v0 5) (mn + 1) ∧ (q_is (q_z f1 hist 1) (tw_ns sl)) ∧ (q_is (q_z f1 hist 2) (min 6 (my + 1))) ∧ (z = mn) ∧ (tw_vw K L 10 5 3 4 f1 v0 n0 l0 m0 d0 (tw_am s0 a0 b0 c0 z0)) ∧ (tw_nw K L 5 f1) ∧ (tw_hk K L f1 ka A9 D9 (tw_hu S9 (tw_si sl) (tw_cp (S9 (tw_si sl)) s0))))) := by
  refine q_ofb (by decide +kernel) hN hT (Nat.le_of_ble_eq_true rfl) ?_
  intro p e s m below meth c ls cx hr hlk hB hl
  have hl : lv_has ls 5 [(0, .ref x), (1, .int (q_i a0)), (2, .int (q_i b0)), (3, .int (q_i c0)), (4, .int (q_i z0))] := hl
  obtain ⟨H, hH⟩ : ∃ H : Heap, H = s.heap := ⟨_, rfl⟩
  obtain ⟨locs, hlocs⟩ : ∃ z : List Loc, z = [] := ⟨_, rfl⟩
  rw [← hH, ← hlocs] at hB
  rw [← hH, ← hlocs]
  refine q_ald_n cx dX11_send_0 rfl (lv_at hl 0 rfl) ?_
  refine q_ild_n cx dX11_send_1 rfl (lv_at hl 1 rfl) ?_
  refine q_cVv (As := [.int (q_i a0)]) (rest := []) cx hB (fun _ h => h) hN hx kx (by decide) rfl (f_xrequireNode l g hN hB.2.1 d0 s0 d3 A9 D9 S9 x hx kx a0 (by omega) (by omega) so hso kso rd hrd krd fc hfc kfc hist hhist khist v0 hv0 kv0 v1 hv1 kv1 ba hba kba ka hka kka v3 hv3 kv3 n0 hn0 kn0 l0 hl0 kl0 m0 hm0 km0 n1 hn1 kn1 l1 hl1 kl1 m1 hm1 km1 n3 hn3 kn3 l3 hl3 kl3 m3 hm3 km3 tm (by omega) (by omega) nn (by omega) (by omega) ln (by omega) (by omega) mn (by omega) (by omega) yr (by omega) (by omega) sl (by omega) (by omega) my (by omega) (by omega) hf0 hf1 hf2 hf3 hf4 hf5 hf6 hr0 hr1 hr2 hr3 hr4 hr5 hr6 hr7 hr8 hr9 hr10 hr11 hr12 hr13 hr14 hr15 hr16 hr17 (by omega) hw0 hz0 hhk he3 hz3) q_cX11_129 q_dX11_requireNode (by decide) rfl rfl hl.1 rfl (Nat.le_of_ble_eq_true rfl) dX11_send_2 (fun H locs f522 h524 hF hB => ?_)
  obtain rfl := h524
  refine q_ald_n cx dX11_send_5 rfl (lv_at hl 0 rfl) ?_
  refine q_ild_n cx dX11_send_6 rfl (lv_at hl 2 rfl) ?_
  refine q_cVv (As := [.int (q_i b0)]) (rest := []) cx hB (fun _ h => h) hN hx kx (by decide) rfl (f_xrequireNode l g hN hB.2.1 d0 s0 d3 A9 D9 S9 x hx kx b0 (by omega) (by omega) so hso kso rd hrd krd fc hfc kfc hist hhist khist v0 hv0 kv0 v1 hv1 kv1 ba hba kba ka hka kka v3 hv3 kv3 n0 hn0 kn0 l0 hl0 kl0 m0 hm0 km0 n1 hn1 kn1 l1 hl1 kl1 m1 hm1 km1 n3 hn3 kn3 l3 hl3 kl3 m3 hm3 km3 tm (by omega) (by omega) nn (by omega) (by omega) ln (by omega) (by omega) mn (by omega) (by omega) yr (by omega) (by omega) sl (by omega) (by omega) my (by omega) (by omega) hf0 hf1 hf2 hf3 hf4 hf5 hf6 hr0 hr1 hr2 hr3 hr4 hr5 hr6 hr7 hr8 hr9 hr10 hr11 hr12 hr13 hr14 hr15 hr16 hr17 (by omega) hw0 hz0 hhk he3 hz3) q_cX11_129 q_dX11_requireNode (by decide) rfl rfl hl.1 rfl (Nat.le_of_ble_eq_true rfl) dX11_send_7 (fun H locs f525 h527 hF hB => ?_)
  obtain rfl := h527
  refine q_ild_n cx dX11_send_10 rfl (lv_at hl 1 rfl) ?_
  refine q_ild_n cx dX11_send_11 rfl (lv_at hl 2 rfl) ?_
  refine q_ild_n cx dX11_send_12 rfl (lv_at hl 3 rfl) ?_
  refine q_cSi (As := [.int (q_i a0), .int (q_i b0), .int (q_i c0)]) (rest := []) cx hB (fun _ h => h) hN (f_isSending l g hN hB.2.1 a0 (by omega) (by omega) b0 (by omega) (by omega) c0 (by omega) (by omega)) q_cX11_278 q_dX10_isSending (by decide) rfl rfl hl.1 rfl (Nat.le_of_ble_eq_true rfl) dX11_send_13 (fun y529 H locs f528 ry529 h530 hF hB => ?_)
  rcases h530 with h531 | h532
  · obtain ⟨rfl, qy529, t533⟩ := h531
    subst qy529
    refine q_ifne (tgt := 30) cx ⟨by decide, by decide⟩ dX11_send_16 (by decide) (fun c534 => ?_) (fun c534 => ?_)
    · refine q_ald_n cx dX11_send_30 rfl (lv_at hl 0 rfl) ?_
      refine q_gX11_54 cx hB hx kx hr4 dX11_send_31 (fun hb535 kb535 => ?_)
      refine q_ild_n cx dX11_send_34 rfl (lv_at hl 1 rfl) ?_
      refine q_ild_n cx dX11_send_35 rfl (lv_at hl 2 rfl) ?_
      refine q_cVi (As := [.int (q_i a0), .int (q_i b0)]) (rest := []) cx hB (fun _ h => h) hN hv0 kv0 (by decide) rfl (f_canSend l g hN hB.2.1 d0 s0 v0 hv0 kv0 a0 (by omega) (by omega) b0 (by omega) (by omega) n0 hn0 kn0 l0 hl0 kl0 m0 hm0 km0 mn (by omega) (by omega) hf3 hr9 hr10 hr11 hw0) q_cX11_284 q_dX10_canSend (by decide) rfl rfl hl.1 rfl (Nat.le_of_ble_eq_true rfl) dX11_send_36 (fun y537 H locs f536 ry537 h538 hF hB => ?_)
      rcases h538 with h539 | h540
      · obtain ⟨rfl, qy537, t541⟩ := h539
        subst qy537
        refine q_ifne (tgt := 53) cx ⟨by decide, by decide⟩ dX11_send_39 (by decide) (fun c542 => ?_) (fun c542 => ?_)
        · refine q_ald_n cx dX11_send_53 rfl (lv_at hl 0 rfl) ?_
          refine q_gX11_40 cx hB hx kx hr3 dX11_send_54 (fun hb543 kb543 => ?_)
          refine q_ald_n cx dX11_send_57 rfl (lv_at hl 0 rfl) ?_
          refine q_gX11_54 cx hB hx kx hr4 dX11_send_58 (fun hb544 kb544 => ?_)
          by_cases c545 : sl ≤ 0
          · refine q_cVv (As := [.ref v0]) (rest := []) cx hB (fun _ h => h) hN hhist khist (by decide) rfl (f_keep_0 l g hN hB.2.1 d0 s0 A9 D9 S9 hist hhist khist v0 hv0 kv0 n0 hn0 kn0 l0 hl0 kl0 m0 hm0 km0 ka hka kka tm (by omega) (by omega) nn (by omega) (by omega) ln (by omega) (by omega) mn (by omega) (by omega) my (by omega) (by omega) hf0 hf1 hf2 hf3 (Eq.trans hf5 (by omega)) hf6 hr7 hr9 hr10 hr11 hw0 hz0 hhk) q_cX11_107 q_dX2_keep (by decide) rfl rfl hl.1 rfl (Nat.le_of_ble_eq_true rfl) dX11_send_61 (fun H locs f546 h548 hF hB => ?_)
            obtain ⟨z549, t550, g551⟩ := h548
            have z552 : q_is (q_z f546 v0 11) tm := Eq.trans (hF.z hv0 (by rw [kv0]; rfl)) hf0
            have z553 : q_is (q_z f546 v0 3) nn := Eq.trans (hF.z hv0 (by rw [kv0]; rfl)) hf1
            have z554 : q_is (q_z f546 v0 4) ln := Eq.trans (hF.z hv0 (by rw [kv0]; rfl)) hf2
            have z555 : q_is (q_z f546 v0 5) mn := Eq.trans (hF.z hv0 (by rw [kv0]; rfl)) hf3
            have z556 : q_is (q_z f546 v0 6) yr := Eq.trans (hF.z hv0 (by rw [kv0]; rfl)) hf4
            have z557 : q_ir (q_r f546 x 0) so := Eq.trans (hF.r hx (by rw [kx]; rfl)) hr0
            have z558 : q_ir (q_r f546 x 1) rd := Eq.trans (hF.r hx (by rw [kx]; rfl)) hr1
            have z559 : q_ir (q_r f546 x 3) fc := Eq.trans (hF.r hx (by rw [kx]; rfl)) hr2
            have z560 : q_ir (q_r f546 x 4) hist := Eq.trans (hF.r hx (by rw [kx]; rfl)) hr3
            have z561 : q_ir (q_r f546 x 6) v0 := Eq.trans (hF.r hx (by rw [kx]; rfl)) hr4
            have z562 : q_ir (q_r f546 x 7) v1 := Eq.trans (hF.r hx (by rw [kx]; rfl)) hr5
            have z563 : q_ir (q_r f546 so 0) ba := Eq.trans (hF.r hso (by rw [kso]; rfl)) hr6
            have z564 : q_ir (q_r f546 hist 0) ka := Eq.trans (hF.r hhist (by rw [khist]; rfl)) hr7
            have z565 : q_ir (q_r f546 fc 0) v3 := Eq.trans (hF.r hfc (by rw [kfc]; rfl)) hr8
            have z566 : q_ir (q_r f546 v0 0) n0 := Eq.trans (hF.r hv0 (by rw [kv0]; rfl)) hr9
            have z567 : q_ir (q_r f546 v0 1) l0 := Eq.trans (hF.r hv0 (by rw [kv0]; rfl)) hr10
            have z568 : q_ir (q_r f546 v0 2) m0 := Eq.trans (hF.r hv0 (by rw [kv0]; rfl)) hr11
            have z569 : q_ir (q_r f546 v1 0) n1 := Eq.trans (hF.r hv1 (by rw [kv1]; rfl)) hr12
            have z570 : q_ir (q_r f546 v1 1) l1 := Eq.trans (hF.r hv1 (by rw [kv1]; rfl)) hr13
            have z571 : q_ir (q_r f546 v1 2) m1 := Eq.trans (hF.r hv1 (by rw [kv1]; rfl)) hr14
            have z572 : q_ir (q_r f546 v3 0) n3 := Eq.trans (hF.r hv3 (by rw [kv3]; rfl)) hr15
            have z573 : q_ir (q_r f546 v3 1) l3 := Eq.trans (hF.r hv3 (by rw [kv3]; rfl)) hr16
            have z574 : q_ir (q_r f546 v3 2) m3 := Eq.trans (hF.r hv3 (by rw [kv3]; rfl)) hr17
            have g575 : tw_vw K L 10 5 3 4 f546 v0 n0 l0 m0 d0 s0 := tw_vw_tr hw0 (fun a9 h9 k9 c9 => hF.z h9 (by rw [k9]; rfl)) (fun a9 h9 k9 c9 => hF.z h9 (by rw [k9]; rfl)) (fun a9 h9 k9 c9 => hF.z h9 (by rw [k9]; rfl)) (fun a9 h9 k9 c9 => hF.z h9 (by rw [k9]; rfl)) (fun i9 => hF.r hn0 (by rw [kn0]; rfl)) (fun i9 => hF.r hl0 (by rw [kl0]; rfl)) (fun i9 => hF.r hm0 (by rw [km0]; rfl))
            have g576 : tw_nw K L 5 f546 := tw_nw_tr hz0 (fun a9 h9 k9 => hF.j h9 (by rw [k9]; rfl))
            have g577 : ∃ s9 : tw_S, tw_vw K L 15 19 23 27 f546 v3 n3 l3 m3 d3 s9 := tw_ex_tr he3 (fun a9 h9 k9 c9 => hF.z h9 (by rw [k9]; rfl)) (fun a9 h9 k9 c9 => hF.z h9 (by rw [k9]; rfl)) (fun a9 h9 k9 c9 => hF.z h9 (by rw [k9]; rfl)) (fun a9 h9 k9 c9 => hF.z h9 (by rw [k9]; rfl)) (fun i9 => hF.r hn3 (by rw [kn3]; rfl)) (fun i9 => hF.r hl3 (by rw [kl3]; rfl)) (fun i9 => hF.r hm3 (by rw [km3]; rfl))
            have g578 : tw_nw K L 19 f546 := tw_nw_tr hz3 (fun a9 h9 k9 => hF.j h9 (by rw [k9]; rfl))
            obtain ⟨y579, ey579, ny579⟩ : ∃ zz : Int, q_is (q_z f546 hist 2) zz ∧ zz = min 6 (my + 1) := ⟨_, t550, rfl⟩
            have ly579 : 1 ≤ y579 ∧ y579 ≤ 6 := by omega
            refine q_ald_n cx dX11_send_64 rfl (lv_at hl 0 rfl) ?_
            refine q_gX11_54 cx hB hx kx z561 dX11_send_65 (fun hb580 kb580 => ?_)
            refine q_ild_n cx dX11_send_68 rfl (lv_at hl 1 rfl) ?_
            refine q_ild_n cx dX11_send_69 rfl (lv_at hl 2 rfl) ?_
            refine q_ild_n cx dX11_send_70 rfl (lv_at hl 3 rfl) ?_
            refine lv_iload cx.1 cx.2.1 dX11_send_71 (lv_at hl 4 rfl) ?_
            refine q_cVi (As := [.int (q_i a0), .int (q_i b0), .int (q_i c0), .int (q_i z0)]) (rest := []) cx hB (fun _ h => h) hN hv0 kv0 (by decide) rfl (f_addMessage0 l g hN hB.2.1 d0 s0 v0 hv0 kv0 a0 (by omega) (by omega) b0 (by omega) (by omega) c0 (by omega) (by omega) z0 (by omega) (by omega) n0 hn0 kn0 l0 hl0 kl0 m0 hm0 km0 mn (by omega) (by omega) tm (by omega) (by omega) z555 z552 z566 z567 z568 g575) q_cX11_290 q_dX10_addMessage (by decide) rfl rfl hl.1 rfl (Nat.le_of_ble_eq_true rfl) dX11_send_73 (fun y582 H locs f581 ry582 h583 hF hB => ?_)
            obtain ⟨ly582, uy582, z584, t585, t586, g587⟩ := h583
            have z588 : q_is (q_z f581 v0 11) tm := Eq.trans (hF.z hv0 (by rw [kv0]; rfl)) z552
            have z589 : q_is (q_z f581 v0 3) nn := Eq.trans (hF.z hv0 (by rw [kv0]; rfl)) z553
            have z590 : q_is (q_z f581 v0 4) ln := Eq.trans (hF.z hv0 (by rw [kv0]; rfl)) z554
            have z591 : q_is (q_z f581 v0 6) yr := Eq.trans (hF.z hv0 (by rw [kv0]; rfl)) z556
            have z592 : q_is (q_z f581 hist 1) 1 := Eq.trans (hF.z hhist (by rw [khist]; rfl)) z549
            have z593 : q_is (q_z f581 hist 2) y579 := Eq.trans (hF.z hhist (by rw [khist]; rfl)) ey579
            have z594 : q_ir (q_r f581 x 0) so := Eq.trans (hF.r hx (by rw [kx]; rfl)) z557
            have z595 : q_ir (q_r f581 x 1) rd := Eq.trans (hF.r hx (by rw [kx]; rfl)) z558
            have z596 : q_ir (q_r f581 x 3) fc := Eq.trans (hF.r hx (by rw [kx]; rfl)) z559
            have z597 : q_ir (q_r f581 x 4) hist := Eq.trans (hF.r hx (by rw [kx]; rfl)) z560
            have z598 : q_ir (q_r f581 x 6) v0 := Eq.trans (hF.r hx (by rw [kx]; rfl)) z561
            have z599 : q_ir (q_r f581 x 7) v1 := Eq.trans (hF.r hx (by rw [kx]; rfl)) z562
            have z600 : q_ir (q_r f581 so 0) ba := Eq.trans (hF.r hso (by rw [kso]; rfl)) z563
            have z601 : q_ir (q_r f581 hist 0) ka := Eq.trans (hF.r hhist (by rw [khist]; rfl)) z564
            have z602 : q_ir (q_r f581 fc 0) v3 := Eq.trans (hF.r hfc (by rw [kfc]; rfl)) z565
            have z603 : q_ir (q_r f581 v0 0) n0 := Eq.trans (hF.r hv0 (by rw [kv0]; rfl)) z566
            have z604 : q_ir (q_r f581 v0 1) l0 := Eq.trans (hF.r hv0 (by rw [kv0]; rfl)) z567
            have z605 : q_ir (q_r f581 v0 2) m0 := Eq.trans (hF.r hv0 (by rw [kv0]; rfl)) z568
            have z606 : q_ir (q_r f581 v1 0) n1 := Eq.trans (hF.r hv1 (by rw [kv1]; rfl)) z569
            have z607 : q_ir (q_r f581 v1 1) l1 := Eq.trans (hF.r hv1 (by rw [kv1]; rfl)) z570
            have z608 : q_ir (q_r f581 v1 2) m1 := Eq.trans (hF.r hv1 (by rw [kv1]; rfl)) z571
            have z609 : q_ir (q_r f581 v3 0) n3 := Eq.trans (hF.r hv3 (by rw [kv3]; rfl)) z572
            have z610 : q_ir (q_r f581 v3 1) l3 := Eq.trans (hF.r hv3 (by rw [kv3]; rfl)) z573
            have z611 : q_ir (q_r f581 v3 2) m3 := Eq.trans (hF.r hv3 (by rw [kv3]; rfl)) z574
            have g612 : tw_nw K L 5 f581 := tw_nw_tr g576 (fun a9 h9 k9 => hF.j h9 (by rw [k9]; rfl))
            have g613 : ∃ s9 : tw_S, tw_vw K L 15 19 23 27 f581 v3 n3 l3 m3 d3 s9 := tw_ex_tr g577 (fun a9 h9 k9 c9 => hF.z h9 (by rw [k9]; rfl)) (fun a9 h9 k9 c9 => hF.z h9 (by rw [k9]; rfl)) (fun a9 h9 k9 c9 => hF.z h9 (by rw [k9]; rfl)) (fun a9 h9 k9 c9 => hF.z h9 (by rw [k9]; rfl)) (fun i9 => hF.r hn3 (by rw [kn3]; rfl)) (fun i9 => hF.r hl3 (by rw [kl3]; rfl)) (fun i9 => hF.r hm3 (by rw [km3]; rfl))
            have g614 : tw_nw K L 19 f581 := tw_nw_tr g578 (fun a9 h9 k9 => hF.j h9 (by rw [k9]; rfl))
            have g615 : tw_hk K L f581 ka A9 D9 (tw_hu S9 0 (tw_cp (S9 0) s0)) := tw_hk_tr g551 (fun a9 h9 k9 i9 => hF a9 h9 i9 (tw_krw rfl k9))
            refine q_iret cx hr hlk hB dX11_send_76 ⟨by omega, by omega⟩ ?_
            exact ⟨(by omega), (by omega), z584, (Eq.trans z592 (by have e9 : sl = 0 := by omega; rw [e9]; rfl)), (Eq.trans z593 (by omega)), (by omega), g587, g612, (tw_hkg g615 (by have e9 : sl = 0 := by omega; rw [e9]; rfl))⟩
          · by_cases c616 : sl ≤ 1
            · refine q_cVv (As := [.ref v0]) (rest := []) cx hB (fun _ h => h) hN hhist khist (by decide) rfl (f_keep_1 l g hN hB.2.1 d0 s0 A9 D9 S9 hist hhist khist v0 hv0 kv0 n0 hn0 kn0 l0 hl0 kl0 m0 hm0 km0 ka hka kka tm (by omega) (by omega) nn (by omega) (by omega) ln (by omega) (by omega) mn (by omega) (by omega) my (by omega) (by omega) hf0 hf1 hf2 hf3 (Eq.trans hf5 (by omega)) hf6 hr7 hr9 hr10 hr11 hw0 hz0 hhk) q_cX11_107 q_dX2_keep (by decide) rfl rfl hl.1 rfl (Nat.le_of_ble_eq_true rfl) dX11_send_61 (fun H locs f617 h619 hF hB => ?_)
              obtain ⟨z620, t621, g622⟩ := h619
              have z623 : q_is (q_z f617 v0 11) tm := Eq.trans (hF.z hv0 (by rw [kv0]; rfl)) hf0
              have z624 : q_is (q_z f617 v0 3) nn := Eq.trans (hF.z hv0 (by rw [kv0]; rfl)) hf1
              have z625 : q_is (q_z f617 v0 4) ln := Eq.trans (hF.z hv0 (by rw [kv0]; rfl)) hf2
              have z626 : q_is (q_z f617 v0 5) mn := Eq.trans (hF.z hv0 (by rw [kv0]; rfl)) hf3
              have z627 : q_is (q_z f617 v0 6) yr := Eq.trans (hF.z hv0 (by rw [kv0]; rfl)) hf4
              have z628 : q_ir (q_r f617 x 0) so := Eq.trans (hF.r hx (by rw [kx]; rfl)) hr0
              have z629 : q_ir (q_r f617 x 1) rd := Eq.trans (hF.r hx (by rw [kx]; rfl)) hr1
              have z630 : q_ir (q_r f617 x 3) fc := Eq.trans (hF.r hx (by rw [kx]; rfl)) hr2
              have z631 : q_ir (q_r f617 x 4) hist := Eq.trans (hF.r hx (by rw [kx]; rfl)) hr3
              have z632 : q_ir (q_r f617 x 6) v0 := Eq.trans (hF.r hx (by rw [kx]; rfl)) hr4
              have z633 : q_ir (q_r f617 x 7) v1 := Eq.trans (hF.r hx (by rw [kx]; rfl)) hr5
              have z634 : q_ir (q_r f617 so 0) ba := Eq.trans (hF.r hso (by rw [kso]; rfl)) hr6
              have z635 : q_ir (q_r f617 hist 0) ka := Eq.trans (hF.r hhist (by rw [khist]; rfl)) hr7
              have z636 : q_ir (q_r f617 fc 0) v3 := Eq.trans (hF.r hfc (by rw [kfc]; rfl)) hr8
              have z637 : q_ir (q_r f617 v0 0) n0 := Eq.trans (hF.r hv0 (by rw [kv0]; rfl)) hr9
              have z638 : q_ir (q_r f617 v0 1) l0 := Eq.trans (hF.r hv0 (by rw [kv0]; rfl)) hr10
              have z639 : q_ir (q_r f617 v0 2) m0 := Eq.trans (hF.r hv0 (by rw [kv0]; rfl)) hr11
              have z640 : q_ir (q_r f617 v1 0) n1 := Eq.trans (hF.r hv1 (by rw [kv1]; rfl)) hr12
              have z641 : q_ir (q_r f617 v1 1) l1 := Eq.trans (hF.r hv1 (by rw [kv1]; rfl)) hr13
              have z642 : q_ir (q_r f617 v1 2) m1 := Eq.trans (hF.r hv1 (by rw [kv1]; rfl)) hr14
              have z643 : q_ir (q_r f617 v3 0) n3 := Eq.trans (hF.r hv3 (by rw [kv3]; rfl)) hr15
              have z644 : q_ir (q_r f617 v3 1) l3 := Eq.trans (hF.r hv3 (by rw [kv3]; rfl)) hr16
              have z645 : q_ir (q_r f617 v3 2) m3 := Eq.trans (hF.r hv3 (by rw [kv3]; rfl)) hr17
              have g646 : tw_vw K L 10 5 3 4 f617 v0 n0 l0 m0 d0 s0 := tw_vw_tr hw0 (fun a9 h9 k9 c9 => hF.z h9 (by rw [k9]; rfl)) (fun a9 h9 k9 c9 => hF.z h9 (by rw [k9]; rfl)) (fun a9 h9 k9 c9 => hF.z h9 (by rw [k9]; rfl)) (fun a9 h9 k9 c9 => hF.z h9 (by rw [k9]; rfl)) (fun i9 => hF.r hn0 (by rw [kn0]; rfl)) (fun i9 => hF.r hl0 (by rw [kl0]; rfl)) (fun i9 => hF.r hm0 (by rw [km0]; rfl))
              have g647 : tw_nw K L 5 f617 := tw_nw_tr hz0 (fun a9 h9 k9 => hF.j h9 (by rw [k9]; rfl))
              have g648 : ∃ s9 : tw_S, tw_vw K L 15 19 23 27 f617 v3 n3 l3 m3 d3 s9 := tw_ex_tr he3 (fun a9 h9 k9 c9 => hF.z h9 (by rw [k9]; rfl)) (fun a9 h9 k9 c9 => hF.z h9 (by rw [k9]; rfl)) (fun a9 h9 k9 c9 => hF.z h9 (by rw [k9]; rfl)) (fun a9 h9 k9 c9 => hF.z h9 (by rw [k9]; rfl)) (fun i9 => hF.r hn3 (by rw [kn3]; rfl)) (fun i9 => hF.r hl3 (by rw [kl3]; rfl)) (fun i9 => hF.r hm3 (by rw [km3]; rfl))
              have g649 : tw_nw K L 19 f617 := tw_nw_tr hz3 (fun a9 h9 k9 => hF.j h9 (by rw [k9]; rfl))
              obtain ⟨y650, ey650, ny650⟩ : ∃ zz : Int, q_is (q_z f617 hist 2) zz ∧ zz = min 6 (my + 1) := ⟨_, t621, rfl⟩
              have ly650 : 1 ≤ y650 ∧ y650 ≤ 6 := by omega
              refine q_ald_n cx dX11_send_64 rfl (lv_at hl 0 rfl) ?_
              refine q_gX11_54 cx hB hx kx z632 dX11_send_65 (fun hb651 kb651 => ?_)
              refine q_ild_n cx dX11_send_68 rfl (lv_at hl 1 rfl) ?_
              refine q_ild_n cx dX11_send_69 rfl (lv_at hl 2 rfl) ?_
              refine q_ild_n cx dX11_send_70 rfl (lv_at hl 3 rfl) ?_
              refine lv_iload cx.1 cx.2.1 dX11_send_71 (lv_at hl 4 rfl) ?_
              refine q_cVi (As := [.int (q_i a0), .int (q_i b0), .int (q_i c0), .int (q_i z0)]) (rest := []) cx hB (fun _ h => h) hN hv0 kv0 (by decide) rfl (f_addMessage0 l g hN hB.2.1 d0 s0 v0 hv0 kv0 a0 (by omega) (by omega) b0 (by omega) (by omega) c0 (by omega) (by omega) z0 (by omega) (by omega) n0 hn0 kn0 l0 hl0 kl0 m0 hm0 km0 mn (by omega) (by omega) tm (by omega) (by omega) z626 z623 z637 z638 z639 g646) q_cX11_290 q_dX10_addMessage (by decide) rfl rfl hl.1 rfl (Nat.le_of_ble_eq_true rfl) dX11_send_73 (fun y653 H locs f652 ry653 h654 hF hB => ?_)
              obtain ⟨ly653, uy653, z655, t656, t657, g658⟩ := h654
              have z659 : q_is (q_z f652 v0 11) tm := Eq.trans (hF.z hv0 (by rw [kv0]; rfl)) z623
              have z660 : q_is (q_z f652 v0 3) nn := Eq.trans (hF.z hv0 (by rw [kv0]; rfl)) z624
              have z661 : q_is (q_z f652 v0 4) ln := Eq.trans (hF.z hv0 (by rw [kv0]; rfl)) z625
              have z662 : q_is (q_z f652 v0 6) yr := Eq.trans (hF.z hv0 (by rw [kv0]; rfl)) z627
              have z663 : q_is (q_z f652 hist 1) 2 := Eq.trans (hF.z hhist (by rw [khist]; rfl)) z620
              have z664 : q_is (q_z f652 hist 2) y650 := Eq.trans (hF.z hhist (by rw [khist]; rfl)) ey650
              have z665 : q_ir (q_r f652 x 0) so := Eq.trans (hF.r hx (by rw [kx]; rfl)) z628
              have z666 : q_ir (q_r f652 x 1) rd := Eq.trans (hF.r hx (by rw [kx]; rfl)) z629
              have z667 : q_ir (q_r f652 x 3) fc := Eq.trans (hF.r hx (by rw [kx]; rfl)) z630
              have z668 : q_ir (q_r f652 x 4) hist := Eq.trans (hF.r hx (by rw [kx]; rfl)) z631
              have z669 : q_ir (q_r f652 x 6) v0 := Eq.trans (hF.r hx (by rw [kx]; rfl)) z632
              have z670 : q_ir (q_r f652 x 7) v1 := Eq.trans (hF.r hx (by rw [kx]; rfl)) z633
              have z671 : q_ir (q_r f652 so 0) ba := Eq.trans (hF.r hso (by rw [kso]; rfl)) z634
              have z672 : q_ir (q_r f652 hist 0) ka := Eq.trans (hF.r hhist (by rw [khist]; rfl)) z635
              have z673 : q_ir (q_r f652 fc 0) v3 := Eq.trans (hF.r hfc (by rw [kfc]; rfl)) z636
              have z674 : q_ir (q_r f652 v0 0) n0 := Eq.trans (hF.r hv0 (by rw [kv0]; rfl)) z637
              have z675 : q_ir (q_r f652 v0 1) l0 := Eq.trans (hF.r hv0 (by rw [kv0]; rfl)) z638
              have z676 : q_ir (q_r f652 v0 2) m0 := Eq.trans (hF.r hv0 (by rw [kv0]; rfl)) z639
              have z677 : q_ir (q_r f652 v1 0) n1 := Eq.trans (hF.r hv1 (by rw [kv1]; rfl)) z640
              have z678 : q_ir (q_r f652 v1 1) l1 := Eq.trans (hF.r hv1 (by rw [kv1]; rfl)) z641
              have z679 : q_ir (q_r f652 v1 2) m1 := Eq.trans (hF.r hv1 (by rw [kv1]; rfl)) z642
              have z680 : q_ir (q_r f652 v3 0) n3 := Eq.trans (hF.r hv3 (by rw [kv3]; rfl)) z643
              have z681 : q_ir (q_r f652 v3 1) l3 := Eq.trans (hF.r hv3 (by rw [kv3]; rfl)) z644
              have z682 : q_ir (q_r f652 v3 2) m3 := Eq.trans (hF.r hv3 (by rw [kv3]; rfl)) z645
              have g683 : tw_nw K L 5 f652 := tw_nw_tr g647 (fun a9 h9 k9 => hF.j h9 (by rw [k9]; rfl))
              have g684 : ∃ s9 : tw_S, tw_vw K L 15 19 23 27 f652 v3 n3 l3 m3 d3 s9 := tw_ex_tr g648 (fun a9 h9 k9 c9 => hF.z h9 (by rw [k9]; rfl)) (fun a9 h9 k9 c9 => hF.z h9 (by rw [k9]; rfl)) (fun a9 h9 k9 c9 => hF.z h9 (by rw [k9]; rfl)) (fun a9 h9 k9 c9 => hF.z h9 (by rw [k9]; rfl)) (fun i9 => hF.r hn3 (by rw [kn3]; rfl)) (fun i9 => hF.r hl3 (by rw [kl3]; rfl)) (fun i9 => hF.r hm3 (by rw [km3]; rfl))
              have g685 : tw_nw K L 19 f652 := tw_nw_tr g649 (fun a9 h9 k9 => hF.j h9 (by rw [k9]; rfl))
              have g686 : tw_hk K L f652 ka A9 D9 (tw_hu S9 1 (tw_cp (S9 1) s0)) := tw_hk_tr g622 (fun a9 h9 k9 i9 => hF a9 h9 i9 (tw_krw rfl k9))
              refine q_iret cx hr hlk hB dX11_send_76 ⟨by omega, by omega⟩ ?_
              exact ⟨(by omega), (by omega), z655, (Eq.trans z663 (by have e9 : sl = 1 := by omega; rw [e9]; rfl)), (Eq.trans z664 (by omega)), (by omega), g658, g683, (tw_hkg g686 (by have e9 : sl = 1 := by omega; rw [e9]; rfl))⟩
            · by_cases c687 : sl ≤ 2
              · refine q_cVv (As := [.ref v0]) (rest := []) cx hB (fun _ h => h) hN hhist khist (by decide) rfl (f_keep_2 l g hN hB.2.1 d0 s0 A9 D9 S9 hist hhist khist v0 hv0 kv0 n0 hn0 kn0 l0 hl0 kl0 m0 hm0 km0 ka hka kka tm (by omega) (by omega) nn (by omega) (by omega) ln (by omega) (by omega) mn (by omega) (by omega) my (by omega) (by omega) hf0 hf1 hf2 hf3 (Eq.trans hf5 (by omega)) hf6 hr7 hr9 hr10 hr11 hw0 hz0 hhk) q_cX11_107 q_dX2_keep (by decide) rfl rfl hl.1 rfl (Nat.le_of_ble_eq_true rfl) dX11_send_61 (fun H locs f688 h690 hF hB => ?_)
                obtain ⟨z691, t692, g693⟩ := h690
                have z694 : q_is (q_z f688 v0 11) tm := Eq.trans (hF.z hv0 (by rw [kv0]; rfl)) hf0
                have z695 : q_is (q_z f688 v0 3) nn := Eq.trans (hF.z hv0 (by rw [kv0]; rfl)) hf1
                have z696 : q_is (q_z f688 v0 4) ln := Eq.trans (hF.z hv0 (by rw [kv0]; rfl)) hf2
                have z697 : q_is (q_z f688 v0 5) mn := Eq.trans (hF.z hv0 (by rw [kv0]; rfl)) hf3
                have z698 : q_is (q_z f688 v0 6) yr := Eq.trans (hF.z hv0 (by rw [kv0]; rfl)) hf4
                have z699 : q_ir (q_r f688 x 0) so := Eq.trans (hF.r hx (by rw [kx]; rfl)) hr0
                have z700 : q_ir (q_r f688 x 1) rd := Eq.trans (hF.r hx (by rw [kx]; rfl)) hr1
                have z701 : q_ir (q_r f688 x 3) fc := Eq.trans (hF.r hx (by rw [kx]; rfl)) hr2
                have z702 : q_ir (q_r f688 x 4) hist := Eq.trans (hF.r hx (by rw [kx]; rfl)) hr3
                have z703 : q_ir (q_r f688 x 6) v0 := Eq.trans (hF.r hx (by rw [kx]; rfl)) hr4
                have z704 : q_ir (q_r f688 x 7) v1 := Eq.trans (hF.r hx (by rw [kx]; rfl)) hr5
                have z705 : q_ir (q_r f688 so 0) ba := Eq.trans (hF.r hso (by rw [kso]; rfl)) hr6
                have z706 : q_ir (q_r f688 hist 0) ka := Eq.trans (hF.r hhist (by rw [khist]; rfl)) hr7
                have z707 : q_ir (q_r f688 fc 0) v3 := Eq.trans (hF.r hfc (by rw [kfc]; rfl)) hr8
                have z708 : q_ir (q_r f688 v0 0) n0 := Eq.trans (hF.r hv0 (by rw [kv0]; rfl)) hr9
                have z709 : q_ir (q_r f688 v0 1) l0 := Eq.trans (hF.r hv0 (by rw [kv0]; rfl)) hr10
                have z710 : q_ir (q_r f688 v0 2) m0 := Eq.trans (hF.r hv0 (by rw [kv0]; rfl)) hr11
                have z711 : q_ir (q_r f688 v1 0) n1 := Eq.trans (hF.r hv1 (by rw [kv1]; rfl)) hr12
                have z712 : q_ir (q_r f688 v1 1) l1 := Eq.trans (hF.r hv1 (by rw [kv1]; rfl)) hr13
                have z713 : q_ir (q_r f688 v1 2) m1 := Eq.trans (hF.r hv1 (by rw [kv1]; rfl)) hr14
                have z714 : q_ir (q_r f688 v3 0) n3 := Eq.trans (hF.r hv3 (by rw [kv3]; rfl)) hr15
                have z715 : q_ir (q_r f688 v3 1) l3 := Eq.trans (hF.r hv3 (by rw [kv3]; rfl)) hr16
                have z716 : q_ir (q_r f688 v3 2) m3 := Eq.trans (hF.r hv3 (by rw [kv3]; rfl)) hr17
                have g717 : tw_vw K L 10 5 3 4 f688 v0 n0 l0 m0 d0 s0 := tw_vw_tr hw0 (fun a9 h9 k9 c9 => hF.z h9 (by rw [k9]; rfl)) (fun a9 h9 k9 c9 => hF.z h9 (by rw [k9]; rfl)) (fun a9 h9 k9 c9 => hF.z h9 (by rw [k9]; rfl)) (fun a9 h9 k9 c9 => hF.z h9 (by rw [k9]; rfl)) (fun i9 => hF.r hn0 (by rw [kn0]; rfl)) (fun i9 => hF.r hl0 (by rw [kl0]; rfl)) (fun i9 => hF.r hm0 (by rw [km0]; rfl))
                have g718 : tw_nw K L 5 f688 := tw_nw_tr hz0 (fun a9 h9 k9 => hF.j h9 (by rw [k9]; rfl))
                have g719 : ∃ s9 : tw_S, tw_vw K L 15 19 23 27 f688 v3 n3 l3 m3 d3 s9 := tw_ex_tr he3 (fun a9 h9 k9 c9 => hF.z h9 (by rw [k9]; rfl)) (fun a9 h9 k9 c9 => hF.z h9 (by rw [k9]; rfl)) (fun a9 h9 k9 c9 => hF.z h9 (by rw [k9]; rfl)) (fun a9 h9 k9 c9 => hF.z h9 (by rw [k9]; rfl)) (fun i9 => hF.r hn3 (by rw [kn3]; rfl)) (fun i9 => hF.r hl3 (by rw [kl3]; rfl)) (fun i9 => hF.r hm3 (by rw [km3]; rfl))
                have g720 : tw_nw K L 19 f688 := tw_nw_tr hz3 (fun a9 h9 k9 => hF.j h9 (by rw [k9]; rfl))
                obtain ⟨y721, ey721, ny721⟩ : ∃ zz : Int, q_is (q_z f688 hist 2) zz ∧ zz = min 6 (my + 1) := ⟨_, t692, rfl⟩
                have ly721 : 1 ≤ y721 ∧ y721 ≤ 6 := by omega
                refine q_ald_n cx dX11_send_64 rfl (lv_at hl 0 rfl) ?_
                refine q_gX11_54 cx hB hx kx z703 dX11_send_65 (fun hb722 kb722 => ?_)
                refine q_ild_n cx dX11_send_68 rfl (lv_at hl 1 rfl) ?_
                refine q_ild_n cx dX11_send_69 rfl (lv_at hl 2 rfl) ?_
                refine q_ild_n cx dX11_send_70 rfl (lv_at hl 3 rfl) ?_
                refine lv_iload cx.1 cx.2.1 dX11_send_71 (lv_at hl 4 rfl) ?_
                refine q_cVi (As := [.int (q_i a0), .int (q_i b0), .int (q_i c0), .int (q_i z0)]) (rest := []) cx hB (fun _ h => h) hN hv0 kv0 (by decide) rfl (f_addMessage0 l g hN hB.2.1 d0 s0 v0 hv0 kv0 a0 (by omega) (by omega) b0 (by omega) (by omega) c0 (by omega) (by omega) z0 (by omega) (by omega) n0 hn0 kn0 l0 hl0 kl0 m0 hm0 km0 mn (by omega) (by omega) tm (by omega) (by omega) z697 z694 z708 z709 z710 g717) q_cX11_290 q_dX10_addMessage (by decide) rfl rfl hl.1 rfl (Nat.le_of_ble_eq_true rfl) dX11_send_73 (fun y724 H locs f723 ry724 h725 hF hB => ?_)
                obtain ⟨ly724, uy724, z726, t727, t728, g729⟩ := h725
                have z730 : q_is (q_z f723 v0 11) tm := Eq.trans (hF.z hv0 (by rw [kv0]; rfl)) z694
                have z731 : q_is (q_z f723 v0 3) nn := Eq.trans (hF.z hv0 (by rw [kv0]; rfl)) z695
                have z732 : q_is (q_z f723 v0 4) ln := Eq.trans (hF.z hv0 (by rw [kv0]; rfl)) z696
                have z733 : q_is (q_z f723 v0 6) yr := Eq.trans (hF.z hv0 (by rw [kv0]; rfl)) z698
                have z734 : q_is (q_z f723 hist 1) 3 := Eq.trans (hF.z hhist (by rw [khist]; rfl)) z691
                have z735 : q_is (q_z f723 hist 2) y721 := Eq.trans (hF.z hhist (by rw [khist]; rfl)) ey721
                have z736 : q_ir (q_r f723 x 0) so := Eq.trans (hF.r hx (by rw [kx]; rfl)) z699
                have z737 : q_ir (q_r f723 x 1) rd := Eq.trans (hF.r hx (by rw [kx]; rfl)) z700
                have z738 : q_ir (q_r f723 x 3) fc := Eq.trans (hF.r hx (by rw [kx]; rfl)) z701
                have z739 : q_ir (q_r f723 x 4) hist := Eq.trans (hF.r hx (by rw [kx]; rfl)) z702
                have z740 : q_ir (q_r f723 x 6) v0 := Eq.trans (hF.r hx (by rw [kx]; rfl)) z703
                have z741 : q_ir (q_r f723 x 7) v1 := Eq.trans (hF.r hx (by rw [kx]; rfl)) z704
                have z742 : q_ir (q_r f723 so 0) ba := Eq.trans (hF.r hso (by rw [kso]; rfl)) z705
                have z743 : q_ir (q_r f723 hist 0) ka := Eq.trans (hF.r hhist (by rw [khist]; rfl)) z706
                have z744 : q_ir (q_r f723 fc 0) v3 := Eq.trans (hF.r hfc (by rw [kfc]; rfl)) z707
                have z745 : q_ir (q_r f723 v0 0) n0 := Eq.trans (hF.r hv0 (by rw [kv0]; rfl)) z708
                have z746 : q_ir (q_r f723 v0 1) l0 := Eq.trans (hF.r hv0 (by rw [kv0]; rfl)) z709
                have z747 : q_ir (q_r f723 v0 2) m0 := Eq.trans (hF.r hv0 (by rw [kv0]; rfl)) z710
                have z748 : q_ir (q_r f723 v1 0) n1 := Eq.trans (hF.r hv1 (by rw [kv1]; rfl)) z711
                have z749 : q_ir (q_r f723 v1 1) l1 := Eq.trans (hF.r hv1 (by rw [kv1]; rfl)) z712
                have z750 : q_ir (q_r f723 v1 2) m1 := Eq.trans (hF.r hv1 (by rw [kv1]; rfl)) z713
                have z751 : q_ir (q_r f723 v3 0) n3 := Eq.trans (hF.r hv3 (by rw [kv3]; rfl)) z714
                have z752 : q_ir (q_r f723 v3 1) l3 := Eq.trans (hF.r hv3 (by rw [kv3]; rfl)) z715
                have z753 : q_ir (q_r f723 v3 2) m3 := Eq.trans (hF.r hv3 (by rw [kv3]; rfl)) z716
                have g754 : tw_nw K L 5 f723 := tw_nw_tr g718 (fun a9 h9 k9 => hF.j h9 (by rw [k9]; rfl))
                have g755 : ∃ s9 : tw_S, tw_vw K L 15 19 23 27 f723 v3 n3 l3 m3 d3 s9 := tw_ex_tr g719 (fun a9 h9 k9 c9 => hF.z h9 (by rw [k9]; rfl)) (fun a9 h9 k9 c9 => hF.z h9 (by rw [k9]; rfl)) (fun a9 h9 k9 c9 => hF.z h9 (by rw [k9]; rfl)) (fun a9 h9 k9 c9 => hF.z h9 (by rw [k9]; rfl)) (fun i9 => hF.r hn3 (by rw [kn3]; rfl)) (fun i9 => hF.r hl3 (by rw [kl3]; rfl)) (fun i9 => hF.r hm3 (by rw [km3]; rfl))
                have g756 : tw_nw K L 19 f723 := tw_nw_tr g720 (fun a9 h9 k9 => hF.j h9 (by rw [k9]; rfl))
                have g757 : tw_hk K L f723 ka A9 D9 (tw_hu S9 2 (tw_cp (S9 2) s0)) := tw_hk_tr g693 (fun a9 h9 k9 i9 => hF a9 h9 i9 (tw_krw rfl k9))
                refine q_iret cx hr hlk hB dX11_send_76 ⟨by omega, by omega⟩ ?_
                exact ⟨(by omega), (by omega), z726, (Eq.trans z734 (by have e9 : sl = 2 := by omega; rw [e9]; rfl)), (Eq.trans z735 (by omega)), (by omega), g729, g754, (tw_hkg g757 (by have e9 : sl = 2 := by omega; rw [e9]; rfl))⟩
              · by_cases c758 : sl ≤ 3
                · refine q_cVv (As := [.ref v0]) (rest := []) cx hB (fun _ h => h) hN hhist khist (by decide) rfl (f_keep_3 l g hN hB.2.1 d0 s0 A9 D9 S9 hist hhist khist v0 hv0 kv0 n0 hn0 kn0 l0 hl0 kl0 m0 hm0 km0 ka hka kka tm (by omega) (by omega) nn (by omega) (by omega) ln (by omega) (by omega) mn (by omega) (by omega) my (by omega) (by omega) hf0 hf1 hf2 hf3 (Eq.trans hf5 (by omega)) hf6 hr7 hr9 hr10 hr11 hw0 hz0 hhk) q_cX11_107 q_dX2_keep (by decide) rfl rfl hl.1 rfl (Nat.le_of_ble_eq_true rfl) dX11_send_61 (fun H locs f759 h761 hF hB => ?_)
                  obtain ⟨z762, t763, g764⟩ := h761
                  have z765 : q_is (q_z f759 v0 11) tm := Eq.trans (hF.z hv0 (by rw [kv0]; rfl)) hf0
                  have z766 : q_is (q_z f759 v0 3) nn := Eq.trans (hF.z hv0 (by rw [kv0]; rfl)) hf1
                  have z767 : q_is (q_z f759 v0 4) ln := Eq.trans (hF.z hv0 (by rw [kv0]; rfl)) hf2
                  have z768 : q_is (q_z f759 v0 5) mn := Eq.trans (hF.z hv0 (by rw [kv0]; rfl)) hf3
                  have z769 : q_is (q_z f759 v0 6) yr := Eq.trans (hF.z hv0 (by rw [kv0]; rfl)) hf4
                  have z770 : q_ir (q_r f759 x 0) so := Eq.trans (hF.r hx (by rw [kx]; rfl)) hr0
                  have z771 : q_ir (q_r f759 x 1) rd := Eq.trans (hF.r hx (by rw [kx]; rfl)) hr1
                  have z772 : q_ir (q_r f759 x 3) fc := Eq.trans (hF.r hx (by rw [kx]; rfl)) hr2
                  have z773 : q_ir (q_r f759 x 4) hist := Eq.trans (hF.r hx (by rw [kx]; rfl)) hr3
                  have z774 : q_ir (q_r f759 x 6) v0 := Eq.trans (hF.r hx (by rw [kx]; rfl)) hr4
                  have z775 : q_ir (q_r f759 x 7) v1 := Eq.trans (hF.r hx (by rw [kx]; rfl)) hr5
                  have z776 : q_ir (q_r f759 so 0) ba := Eq.trans (hF.r hso (by rw [kso]; rfl)) hr6
                  have z777 : q_ir (q_r f759 hist 0) ka := Eq.trans (hF.r hhist (by rw [khist]; rfl)) hr7
                  have z778 : q_ir (q_r f759 fc 0) v3 := Eq.trans (hF.r hfc (by rw [kfc]; rfl)) hr8
                  have z779 : q_ir (q_r f759 v0 0) n0 := Eq.trans (hF.r hv0 (by rw [kv0]; rfl)) hr9
                  have z780 : q_ir (q_r f759 v0 1) l0 := Eq.trans (hF.r hv0 (by rw [kv0]; rfl)) hr10
                  have z781 : q_ir (q_r f759 v0 2) m0 := Eq.trans (hF.r hv0 (by rw [kv0]; rfl)) hr11
                  have z782 : q_ir (q_r f759 v1 0) n1 := Eq.trans (hF.r hv1 (by rw [kv1]; rfl)) hr12
                  have z783 : q_ir (q_r f759 v1 1) l1 := Eq.trans (hF.r hv1 (by rw [kv1]; rfl)) hr13
                  have z784 : q_ir (q_r f759 v1 2) m1 := Eq.trans (hF.r hv1 (by rw [kv1]; rfl)) hr14
                  have z785 : q_ir (q_r f759 v3 0) n3 := Eq.trans (hF.r hv3 (by rw [kv3]; rfl)) hr15
                  have z786 : q_ir (q_r f759 v3 1) l3 := Eq.trans (hF.r hv3 (by rw [kv3]; rfl)) hr16
                  have z787 : q_ir (q_r f759 v3 2) m3 := Eq.trans (hF.r hv3 (by rw [kv3]; rfl)) hr17
                  have g788 : tw_vw K L 10 5 3 4 f759 v0 n0 l0 m0 d0 s0 := tw_vw_tr hw0 (fun a9 h9 k9 c9 => hF.z h9 (by rw [k9]; rfl)) (fun a9 h9 k9 c9 => hF.z h9 (by rw [k9]; rfl)) (fun a9 h9 k9 c9 => hF.z h9 (by rw [k9]; rfl)) (fun a9 h9 k9 c9 => hF.z h9 (by rw [k9]; rfl)) (fun i9 => hF.r hn0 (by rw [kn0]; rfl)) (fun i9 => hF.r hl0 (by rw [kl0]; rfl)) (fun i9 => hF.r hm0 (by rw [km0]; rfl))
                  have g789 : tw_nw K L 5 f759 := tw_nw_tr hz0 (fun a9 h9 k9 => hF.j h9 (by rw [k9]; rfl))
                  have g790 : ∃ s9 : tw_S, tw_vw K L 15 19 23 27 f759 v3 n3 l3 m3 d3 s9 := tw_ex_tr he3 (fun a9 h9 k9 c9 => hF.z h9 (by rw [k9]; rfl)) (fun a9 h9 k9 c9 => hF.z h9 (by rw [k9]; rfl)) (fun a9 h9 k9 c9 => hF.z h9 (by rw [k9]; rfl)) (fun a9 h9 k9 c9 => hF.z h9 (by rw [k9]; rfl)) (fun i9 => hF.r hn3 (by rw [kn3]; rfl)) (fun i9 => hF.r hl3 (by rw [kl3]; rfl)) (fun i9 => hF.r hm3 (by rw [km3]; rfl))
                  have g791 : tw_nw K L 19 f759 := tw_nw_tr hz3 (fun a9 h9 k9 => hF.j h9 (by rw [k9]; rfl))
                  obtain ⟨y792, ey792, ny792⟩ : ∃ zz : Int, q_is (q_z f759 hist 2) zz ∧ zz = min 6 (my + 1) := ⟨_, t763, rfl⟩
                  have ly792 : 1 ≤ y792 ∧ y792 ≤ 6 := by omega
                  refine q_ald_n cx dX11_send_64 rfl (lv_at hl 0 rfl) ?_
                  refine q_gX11_54 cx hB hx kx z774 dX11_send_65 (fun hb793 kb793 => ?_)
                  refine q_ild_n cx dX11_send_68 rfl (lv_at hl 1 rfl) ?_
                  refine q_ild_n cx dX11_send_69 rfl (lv_at hl 2 rfl) ?_
                  refine q_ild_n cx dX11_send_70 rfl (lv_at hl 3 rfl) ?_
                  refine lv_iload cx.1 cx.2.1 dX11_send_71 (lv_at hl 4 rfl) ?_
                  refine q_cVi (As := [.int (q_i a0), .int (q_i b0), .int (q_i c0), .int (q_i z0)]) (rest := []) cx hB (fun _ h => h) hN hv0 kv0 (by decide) rfl (f_addMessage0 l g hN hB.2.1 d0 s0 v0 hv0 kv0 a0 (by omega) (by omega) b0 (by omega) (by omega) c0 (by omega) (by omega) z0 (by omega) (by omega) n0 hn0 kn0 l0 hl0 kl0 m0 hm0 km0 mn (by omega) (by omega) tm (by omega) (by omega) z768 z765 z779 z780 z781 g788) q_cX11_290 q_dX10_addMessage (by decide) rfl rfl hl.1 rfl (Nat.le_of_ble_eq_true rfl) dX11_send_73 (fun y795 H locs f794 ry795 h796 hF hB => ?_)
                  obtain ⟨ly795, uy795, z797, t798, t799, g800⟩ := h796
                  have z801 : q_is (q_z f794 v0 11) tm := Eq.trans (hF.z hv0 (by rw [kv0]; rfl)) z765
                  have z802 : q_is (q_z f794 v0 3) nn := Eq.trans (hF.z hv0 (by rw [kv0]; rfl)) z766
                  have z803 : q_is (q_z f794 v0 4) ln := Eq.trans (hF.z hv0 (by rw [kv0]; rfl)) z767
                  have z804 : q_is (q_z f794 v0 6) yr := Eq.trans (hF.z hv0 (by rw [kv0]; rfl)) z769
                  have z805 : q_is (q_z f794 hist 1) 4 := Eq.trans (hF.z hhist (by rw [khist]; rfl)) z762
                  have z806 : q_is (q_z f794 hist 2) y792 := Eq.trans (hF.z hhist (by rw [khist]; rfl)) ey792
                  have z807 : q_ir (q_r f794 x 0) so := Eq.trans (hF.r hx (by rw [kx]; rfl)) z770
                  have z808 : q_ir (q_r f794 x 1) rd := Eq.trans (hF.r hx (by rw [kx]; rfl)) z771
                  have z809 : q_ir (q_r f794 x 3) fc := Eq.trans (hF.r hx (by rw [kx]; rfl)) z772
                  have z810 : q_ir (q_r f794 x 4) hist := Eq.trans (hF.r hx (by rw [kx]; rfl)) z773
                  have z811 : q_ir (q_r f794 x 6) v0 := Eq.trans (hF.r hx (by rw [kx]; rfl)) z774
                  have z812 : q_ir (q_r f794 x 7) v1 := Eq.trans (hF.r hx (by rw [kx]; rfl)) z775
                  have z813 : q_ir (q_r f794 so 0) ba := Eq.trans (hF.r hso (by rw [kso]; rfl)) z776
                  have z814 : q_ir (q_r f794 hist 0) ka := Eq.trans (hF.r hhist (by rw [khist]; rfl)) z777
                  have z815 : q_ir (q_r f794 fc 0) v3 := Eq.trans (hF.r hfc (by rw [kfc]; rfl)) z778
                  have z816 : q_ir (q_r f794 v0 0) n0 := Eq.trans (hF.r hv0 (by rw [kv0]; rfl)) z779
                  have z817 : q_ir (q_r f794 v0 1) l0 := Eq.trans (hF.r hv0 (by rw [kv0]; rfl)) z780
                  have z818 : q_ir (q_r f794 v0 2) m0 := Eq.trans (hF.r hv0 (by rw [kv0]; rfl)) z781
                  have z819 : q_ir (q_r f794 v1 0) n1 := Eq.trans (hF.r hv1 (by rw [kv1]; rfl)) z782
                  have z820 : q_ir (q_r f794 v1 1) l1 := Eq.trans (hF.r hv1 (by rw [kv1]; rfl)) z783
                  have z821 : q_ir (q_r f794 v1 2) m1 := Eq.trans (hF.r hv1 (by rw [kv1]; rfl)) z784
                  have z822 : q_ir (q_r f794 v3 0) n3 := Eq.trans (hF.r hv3 (by rw [kv3]; rfl)) z785
                  have z823 : q_ir (q_r f794 v3 1) l3 := Eq.trans (hF.r hv3 (by rw [kv3]; rfl)) z786
                  have z824 : q_ir (q_r f794 v3 2) m3 := Eq.trans (hF.r hv3 (by rw [kv3]; rfl)) z787
                  have g825 : tw_nw K L 5 f794 := tw_nw_tr g789 (fun a9 h9 k9 => hF.j h9 (by rw [k9]; rfl))
                  have g826 : ∃ s9 : tw_S, tw_vw K L 15 19 23 27 f794 v3 n3 l3 m3 d3 s9 := tw_ex_tr g790 (fun a9 h9 k9 c9 => hF.z h9 (by rw [k9]; rfl)) (fun a9 h9 k9 c9 => hF.z h9 (by rw [k9]; rfl)) (fun a9 h9 k9 c9 => hF.z h9 (by rw [k9]; rfl)) (fun a9 h9 k9 c9 => hF.z h9 (by rw [k9]; rfl)) (fun i9 => hF.r hn3 (by rw [kn3]; rfl)) (fun i9 => hF.r hl3 (by rw [kl3]; rfl)) (fun i9 => hF.r hm3 (by rw [km3]; rfl))
                  have g827 : tw_nw K L 19 f794 := tw_nw_tr g791 (fun a9 h9 k9 => hF.j h9 (by rw [k9]; rfl))
                  have g828 : tw_hk K L f794 ka A9 D9 (tw_hu S9 3 (tw_cp (S9 3) s0)) := tw_hk_tr g764 (fun a9 h9 k9 i9 => hF a9 h9 i9 (tw_krw rfl k9))
                  refine q_iret cx hr hlk hB dX11_send_76 ⟨by omega, by omega⟩ ?_
                  exact ⟨(by omega), (by omega), z797, (Eq.trans z805 (by have e9 : sl = 3 := by omega; rw [e9]; rfl)), (Eq.trans z806 (by omega)), (by omega), g800, g825, (tw_hkg g828 (by have e9 : sl = 3 := by omega; rw [e9]; rfl))⟩
                · by_cases c829 : sl ≤ 4
                  · refine q_cVv (As := [.ref v0]) (rest := []) cx hB (fun _ h => h) hN hhist khist (by decide) rfl (f_keep_4 l g hN hB.2.1 d0 s0 A9 D9 S9 hist hhist khist v0 hv0 kv0 n0 hn0 kn0 l0 hl0 kl0 m0 hm0 km0 ka hka kka tm (by omega) (by omega) nn (by omega) (by omega) ln (by omega) (by omega) mn (by omega) (by omega) my (by omega) (by omega) hf0 hf1 hf2 hf3 (Eq.trans hf5 (by omega)) hf6 hr7 hr9 hr10 hr11 hw0 hz0 hhk) q_cX11_107 q_dX2_keep (by decide) rfl rfl hl.1 rfl (Nat.le_of_ble_eq_true rfl) dX11_send_61 (fun H locs f830 h832 hF hB => ?_)
                    obtain ⟨z833, t834, g835⟩ := h832
                    have z836 : q_is (q_z f830 v0 11) tm := Eq.trans (hF.z hv0 (by rw [kv0]; rfl)) hf0
                    have z837 : q_is (q_z f830 v0 3) nn := Eq.trans (hF.z hv0 (by rw [kv0]; rfl)) hf1
                    have z838 : q_is (q_z f830 v0 4) ln := Eq.trans (hF.z hv0 (by rw [kv0]; rfl)) hf2
                    have z839 : q_is (q_z f830 v0 5) mn := Eq.trans (hF.z hv0 (by rw [kv0]; rfl)) hf3
                    have z840 : q_is (q_z f830 v0 6) yr := Eq.trans (hF.z hv0 (by rw [kv0]; rfl)) hf4
                    have z841 : q_ir (q_r f830 x 0) so := Eq.trans (hF.r hx (by rw [kx]; rfl)) hr0
                    have z842 : q_ir (q_r f830 x 1) rd := Eq.trans (hF.r hx (by rw [kx]; rfl)) hr1
                    have z843 : q_ir (q_r f830 x 3) fc := Eq.trans (hF.r hx (by rw [kx]; rfl)) hr2
                    have z844 : q_ir (q_r f830 x 4) hist := Eq.trans (hF.r hx (by rw [kx]; rfl)) hr3
                    have z845 : q_ir (q_r f830 x 6) v0 := Eq.trans (hF.r hx (by rw [kx]; rfl)) hr4
                    have z846 : q_ir (q_r f830 x 7) v1 := Eq.trans (hF.r hx (by rw [kx]; rfl)) hr5
                    have z847 : q_ir (q_r f830 so 0) ba := Eq.trans (hF.r hso (by rw [kso]; rfl)) hr6
                    have z848 : q_ir (q_r f830 hist 0) ka := Eq.trans (hF.r hhist (by rw [khist]; rfl)) hr7
                    have z849 : q_ir (q_r f830 fc 0) v3 := Eq.trans (hF.r hfc (by rw [kfc]; rfl)) hr8
                    have z850 : q_ir (q_r f830 v0 0) n0 := Eq.trans (hF.r hv0 (by rw [kv0]; rfl)) hr9
                    have z851 : q_ir (q_r f830 v0 1) l0 := Eq.trans (hF.r hv0 (by rw [kv0]; rfl)) hr10
                    have z852 : q_ir (q_r f830 v0 2) m0 := Eq.trans (hF.r hv0 (by rw [kv0]; rfl)) hr11
                    have z853 : q_ir (q_r f830 v1 0) n1 := Eq.trans (hF.r hv1 (by rw [kv1]; rfl)) hr12
                    have z854 : q_ir (q_r f830 v1 1) l1 := Eq.trans (hF.r hv1 (by rw [kv1]; rfl)) hr13
                    have z855 : q_ir (q_r f830 v1 2) m1 := Eq.trans (hF.r hv1 (by rw [kv1]; rfl)) hr14
                    have z856 : q_ir (q_r f830 v3 0) n3 := Eq.trans (hF.r hv3 (by rw [kv3]; rfl)) hr15
                    have z857 : q_ir (q_r f830 v3 1) l3 := Eq.trans (hF.r hv3 (by rw [kv3]; rfl)) hr16
                    have z858 : q_ir (q_r f830 v3 2) m3 := Eq.trans (hF.r hv3 (by rw [kv3]; rfl)) hr17
                    have g859 : tw_vw K L 10 5 3 4 f830 v0 n0 l0 m0 d0 s0 := tw_vw_tr hw0 (fun a9 h9 k9 c9 => hF.z h9 (by rw [k9]; rfl)) (fun a9 h9 k9 c9 => hF.z h9 (by rw [k9]; rfl)) (fun a9 h9 k9 c9 => hF.z h9 (by rw [k9]; rfl)) (fun a9 h9 k9 c9 => hF.z h9 (by rw [k9]; rfl)) (fun i9 => hF.r hn0 (by rw [kn0]; rfl)) (fun i9 => hF.r hl0 (by rw [kl0]; rfl)) (fun i9 => hF.r hm0 (by rw [km0]; rfl))
                    have g860 : tw_nw K L 5 f830 := tw_nw_tr hz0 (fun a9 h9 k9 => hF.j h9 (by rw [k9]; rfl))
                    have g861 : ∃ s9 : tw_S, tw_vw K L 15 19 23 27 f830 v3 n3 l3 m3 d3 s9 := tw_ex_tr he3 (fun a9 h9 k9 c9 => hF.z h9 (by rw [k9]; rfl)) (fun a9 h9 k9 c9 => hF.z h9 (by rw [k9]; rfl)) (fun a9 h9 k9 c9 => hF.z h9 (by rw [k9]; rfl)) (fun a9 h9 k9 c9 => hF.z h9 (by rw [k9]; rfl)) (fun i9 => hF.r hn3 (by rw [kn3]; rfl)) (fun i9 => hF.r hl3 (by rw [kl3]; rfl)) (fun i9 => hF.r hm3 (by rw [km3]; rfl))
                    have g862 : tw_nw K L 19 f830 := tw_nw_tr hz3 (fun a9 h9 k9 => hF.j h9 (by rw [k9]; rfl))
                    obtain ⟨y863, ey863, ny863⟩ : ∃ zz : Int, q_is (q_z f830 hist 2) zz ∧ zz = min 6 (my + 1) := ⟨_, t834, rfl⟩
                    have ly863 : 1 ≤ y863 ∧ y863 ≤ 6 := by omega
                    refine q_ald_n cx dX11_send_64 rfl (lv_at hl 0 rfl) ?_
                    refine q_gX11_54 cx hB hx kx z845 dX11_send_65 (fun hb864 kb864 => ?_)
                    refine q_ild_n cx dX11_send_68 rfl (lv_at hl 1 rfl) ?_
                    refine q_ild_n cx dX11_send_69 rfl (lv_at hl 2 rfl) ?_
                    refine q_ild_n cx dX11_send_70 rfl (lv_at hl 3 rfl) ?_
                    refine lv_iload cx.1 cx.2.1 dX11_send_71 (lv_at hl 4 rfl) ?_
                    refine q_cVi (As := [.int (q_i a0), .int (q_i b0), .int (q_i c0), .int (q_i z0)]) (rest := []) cx hB (fun _ h => h) hN hv0 kv0 (by decide) rfl (f_addMessage0 l g hN hB.2.1 d0 s0 v0 hv0 kv0 a0 (by omega) (by omega) b0 (by omega) (by omega) c0 (by omega) (by omega) z0 (by omega) (by omega) n0 hn0 kn0 l0 hl0 kl0 m0 hm0 km0 mn (by omega) (by omega) tm (by omega) (by omega) z839 z836 z850 z851 z852 g859) q_cX11_290 q_dX10_addMessage (by decide) rfl rfl hl.1 rfl (Nat.le_of_ble_eq_true rfl) dX11_send_73 (fun y866 H locs f865 ry866 h867 hF hB => ?_)
                    obtain ⟨ly866, uy866, z868, t869, t870, g871⟩ := h867
                    have z872 : q_is (q_z f865 v0 11) tm := Eq.trans (hF.z hv0 (by rw [kv0]; rfl)) z836
                    have z873 : q_is (q_z f865 v0 3) nn := Eq.trans (hF.z hv0 (by rw [kv0]; rfl)) z837
                    have z874 : q_is (q_z f865 v0 4) ln := Eq.trans (hF.z hv0 (by rw [kv0]; rfl)) z838
                    have z875 : q_is (q_z f865 v0 6) yr := Eq.trans (hF.z hv0 (by rw [kv0]; rfl)) z840
                    have z876 : q_is (q_z f865 hist 1) 5 := Eq.trans (hF.z hhist (by rw [khist]; rfl)) z833
                    have z877 : q_is (q_z f865 hist 2) y863 := Eq.trans (hF.z hhist (by rw [khist]; rfl)) ey863
                    have z878 : q_ir (q_r f865 x 0) so := Eq.trans (hF.r hx (by rw [kx]; rfl)) z841
                    have z879 : q_ir (q_r f865 x 1) rd := Eq.trans (hF.r hx (by rw [kx]; rfl)) z842
                    have z880 : q_ir (q_r f865 x 3) fc := Eq.trans (hF.r hx (by rw [kx]; rfl)) z843
                    have z881 : q_ir (q_r f865 x 4) hist := Eq.trans (hF.r hx (by rw [kx]; rfl)) z844
                    have z882 : q_ir (q_r f865 x 6) v0 := Eq.trans (hF.r hx (by rw [kx]; rfl)) z845
                    have z883 : q_ir (q_r f865 x 7) v1 := Eq.trans (hF.r hx (by rw [kx]; rfl)) z846
                    have z884 : q_ir (q_r f865 so 0) ba := Eq.trans (hF.r hso (by rw [kso]; rfl)) z847
                    have z885 : q_ir (q_r f865 hist 0) ka := Eq.trans (hF.r hhist (by rw [khist]; rfl)) z848
                    have z886 : q_ir (q_r f865 fc 0) v3 := Eq.trans (hF.r hfc (by rw [kfc]; rfl)) z849
                    have z887 : q_ir (q_r f865 v0 0) n0 := Eq.trans (hF.r hv0 (by rw [kv0]; rfl)) z850
                    have z888 : q_ir (q_r f865 v0 1) l0 := Eq.trans (hF.r hv0 (by rw [kv0]; rfl)) z851
                    have z889 : q_ir (q_r f865 v0 2) m0 := Eq.trans (hF.r hv0 (by rw [kv0]; rfl)) z852
                    have z890 : q_ir (q_r f865 v1 0) n1 := Eq.trans (hF.r hv1 (by rw [kv1]; rfl)) z853
                    have z891 : q_ir (q_r f865 v1 1) l1 := Eq.trans (hF.r hv1 (by rw [kv1]; rfl)) z854
                    have z892 : q_ir (q_r f865 v1 2) m1 := Eq.trans (hF.r hv1 (by rw [kv1]; rfl)) z855
                    have z893 : q_ir (q_r f865 v3 0) n3 := Eq.trans (hF.r hv3 (by rw [kv3]; rfl)) z856
                    have z894 : q_ir (q_r f865 v3 1) l3 := Eq.trans (hF.r hv3 (by rw [kv3]; rfl)) z857
                    have z895 : q_ir (q_r f865 v3 2) m3 := Eq.trans (hF.r hv3 (by rw [kv3]; rfl)) z858
                    have g896 : tw_nw K L 5 f865 := tw_nw_tr g860 (fun a9 h9 k9 => hF.j h9 (by rw [k9]; rfl))
                    have g897 : ∃ s9 : tw_S, tw_vw K L 15 19 23 27 f865 v3 n3 l3 m3 d3 s9 := tw_ex_tr g861 (fun a9 h9 k9 c9 => hF.z h9 (by rw [k9]; rfl)) (fun a9 h9 k9 c9 => hF.z h9 (by rw [k9]; rfl)) (fun a9 h9 k9 c9 => hF.z h9 (by rw [k9]; rfl)) (fun a9 h9 k9 c9 => hF.z h9 (by rw [k9]; rfl)) (fun i9 => hF.r hn3 (by rw [kn3]; rfl)) (fun i9 => hF.r hl3 (by rw [kl3]; rfl)) (fun i9 => hF.r hm3 (by rw [km3]; rfl))
                    have g898 : tw_nw K L 19 f865 := tw_nw_tr g862 (fun a9 h9 k9 => hF.j h9 (by rw [k9]; rfl))
                    have g899 : tw_hk K L f865 ka A9 D9 (tw_hu S9 4 (tw_cp (S9 4) s0)) := tw_hk_tr g835 (fun a9 h9 k9 i9 => hF a9 h9 i9 (tw_krw rfl k9))
                    refine q_iret cx hr hlk hB dX11_send_76 ⟨by omega, by omega⟩ ?_
                    exact ⟨(by omega), (by omega), z868, (Eq.trans z876 (by have e9 : sl = 4 := by omega; rw [e9]; rfl)), (Eq.trans z877 (by omega)), (by omega), g871, g896, (tw_hkg g899 (by have e9 : sl = 4 := by omega; rw [e9]; rfl))⟩
                  · by_cases c900 : sl ≤ 5
                    · refine q_cVv (As := [.ref v0]) (rest := []) cx hB (fun _ h => h) hN hhist khist (by decide) rfl (f_keep_5 l g hN hB.2.1 d0 s0 A9 D9 S9 hist hhist khist v0 hv0 kv0 n0 hn0 kn0 l0 hl0 kl0 m0 hm0 km0 ka hka kka tm (by omega) (by omega) nn (by omega) (by omega) ln (by omega) (by omega) mn (by omega) (by omega) my (by omega) (by omega) hf0 hf1 hf2 hf3 (Eq.trans hf5 (by omega)) hf6 hr7 hr9 hr10 hr11 hw0 hz0 hhk) q_cX11_107 q_dX2_keep (by decide) rfl rfl hl.1 rfl (Nat.le_of_ble_eq_true rfl) dX11_send_61 (fun H locs f901 h903 hF hB => ?_)
                      obtain ⟨z904, t905, g906⟩ := h903
                      have z907 : q_is (q_z f901 v0 11) tm := Eq.trans (hF.z hv0 (by rw [kv0]; rfl)) hf0
                      have z908 : q_is (q_z f901 v0 3) nn := Eq.trans (hF.z hv0 (by rw [kv0]; rfl)) hf1
                      have z909 : q_is (q_z f901 v0 4) ln := Eq.trans (hF.z hv0 (by rw [kv0]; rfl)) hf2
                      have z910 : q_is (q_z f901 v0 5) mn := Eq.trans (hF.z hv0 (by rw [kv0]; rfl)) hf3
                      have z911 : q_is (q_z f901 v0 6) yr := Eq.trans (hF.z hv0 (by rw [kv0]; rfl)) hf4
                      have z912 : q_ir (q_r f901 x 0) so := Eq.trans (hF.r hx (by rw [kx]; rfl)) hr0
                      have z913 : q_ir (q_r f901 x 1) rd := Eq.trans (hF.r hx (by rw [kx]; rfl)) hr1
                      have z914 : q_ir (q_r f901 x 3) fc := Eq.trans (hF.r hx (by rw [kx]; rfl)) hr2
                      have z915 : q_ir (q_r f901 x 4) hist := Eq.trans (hF.r hx (by rw [kx]; rfl)) hr3
                      have z916 : q_ir (q_r f901 x 6) v0 := Eq.trans (hF.r hx (by rw [kx]; rfl)) hr4
                      have z917 : q_ir (q_r f901 x 7) v1 := Eq.trans (hF.r hx (by rw [kx]; rfl)) hr5
                      have z918 : q_ir (q_r f901 so 0) ba := Eq.trans (hF.r hso (by rw [kso]; rfl)) hr6
                      have z919 : q_ir (q_r f901 hist 0) ka := Eq.trans (hF.r hhist (by rw [khist]; rfl)) hr7
                      have z920 : q_ir (q_r f901 fc 0) v3 := Eq.trans (hF.r hfc (by rw [kfc]; rfl)) hr8
                      have z921 : q_ir (q_r f901 v0 0) n0 := Eq.trans (hF.r hv0 (by rw [kv0]; rfl)) hr9
                      have z922 : q_ir (q_r f901 v0 1) l0 := Eq.trans (hF.r hv0 (by rw [kv0]; rfl)) hr10
                      have z923 : q_ir (q_r f901 v0 2) m0 := Eq.trans (hF.r hv0 (by rw [kv0]; rfl)) hr11
                      have z924 : q_ir (q_r f901 v1 0) n1 := Eq.trans (hF.r hv1 (by rw [kv1]; rfl)) hr12
                      have z925 : q_ir (q_r f901 v1 1) l1 := Eq.trans (hF.r hv1 (by rw [kv1]; rfl)) hr13
                      have z926 : q_ir (q_r f901 v1 2) m1 := Eq.trans (hF.r hv1 (by rw [kv1]; rfl)) hr14
                      have z927 : q_ir (q_r f901 v3 0) n3 := Eq.trans (hF.r hv3 (by rw [kv3]; rfl)) hr15
                      have z928 : q_ir (q_r f901 v3 1) l3 := Eq.trans (hF.r hv3 (by rw [kv3]; rfl)) hr16
                      have z929 : q_ir (q_r f901 v3 2) m3 := Eq.trans (hF.r hv3 (by rw [kv3]; rfl)) hr17
                      have g930 : tw_vw K L 10 5 3 4 f901 v0 n0 l0 m0 d0 s0 := tw_vw_tr hw0 (fun a9 h9 k9 c9 => hF.z h9 (by rw [k9]; rfl)) (fun a9 h9 k9 c9 => hF.z h9 (by rw [k9]; rfl)) (fun a9 h9 k9 c9 => hF.z h9 (by rw [k9]; rfl)) (fun a9 h9 k9 c9 => hF.z h9 (by rw [k9]; rfl)) (fun i9 => hF.r hn0 (by rw [kn0]; rfl)) (fun i9 => hF.r hl0 (by rw [kl0]; rfl)) (fun i9 => hF.r hm0 (by rw [km0]; rfl))
                      have g931 : tw_nw K L 5 f901 := tw_nw_tr hz0 (fun a9 h9 k9 => hF.j h9 (by rw [k9]; rfl))
                      have g932 : ∃ s9 : tw_S, tw_vw K L 15 19 23 27 f901 v3 n3 l3 m3 d3 s9 := tw_ex_tr he3 (fun a9 h9 k9 c9 => hF.z h9 (by rw [k9]; rfl)) (fun a9 h9 k9 c9 => hF.z h9 (by rw [k9]; rfl)) (fun a9 h9 k9 c9 => hF.z h9 (by rw [k9]; rfl)) (fun a9 h9 k9 c9 => hF.z h9 (by rw [k9]; rfl)) (fun i9 => hF.r hn3 (by rw [kn3]; rfl)) (fun i9 => hF.r hl3 (by rw [kl3]; rfl)) (fun i9 => hF.r hm3 (by rw [km3]; rfl))
                      have g933 : tw_nw K L 19 f901 := tw_nw_tr hz3 (fun a9 h9 k9 => hF.j h9 (by rw [k9]; rfl))
                      obtain ⟨y934, ey934, ny934⟩ : ∃ zz : Int, q_is (q_z f901 hist 2) zz ∧ zz = min 6 (my + 1) := ⟨_, t905, rfl⟩
                      have ly934 : 1 ≤ y934 ∧ y934 ≤ 6 := by omega
                      refine q_ald_n cx dX11_send_64 rfl (lv_at hl 0 rfl) ?_
                      refine q_gX11_54 cx hB hx kx z916 dX11_send_65 (fun hb935 kb935 => ?_)
                      refine q_ild_n cx dX11_send_68 rfl (lv_at hl 1 rfl) ?_
                      refine q_ild_n cx dX11_send_69 rfl (lv_at hl 2 rfl) ?_
                      refine q_ild_n cx dX11_send_70 rfl (lv_at hl 3 rfl) ?_
                      refine lv_iload cx.1 cx.2.1 dX11_send_71 (lv_at hl 4 rfl) ?_
                      refine q_cVi (As := [.int (q_i a0), .int (q_i b0), .int (q_i c0), .int (q_i z0)]) (rest := []) cx hB (fun _ h => h) hN hv0 kv0 (by decide) rfl (f_addMessage0 l g hN hB.2.1 d0 s0 v0 hv0 kv0 a0 (by omega) (by omega) b0 (by omega) (by omega) c0 (by omega) (by omega) z0 (by omega) (by omega) n0 hn0 kn0 l0 hl0 kl0 m0 hm0 km0 mn (by omega) (by omega) tm (by omega) (by omega) z910 z907 z921 z922 z923 g930) q_cX11_290 q_dX10_addMessage (by decide) rfl rfl hl.1 rfl (Nat.le_of_ble_eq_true rfl) dX11_send_73 (fun y937 H locs f936 ry937 h938 hF hB => ?_)
                      obtain ⟨ly937, uy937, z939, t940, t941, g942⟩ := h938
                      have z943 : q_is (q_z f936 v0 11) tm := Eq.trans (hF.z hv0 (by rw [kv0]; rfl)) z907
                      have z944 : q_is (q_z f936 v0 3) nn := Eq.trans (hF.z hv0 (by rw [kv0]; rfl)) z908
                      have z945 : q_is (q_z f936 v0 4) ln := Eq.trans (hF.z hv0 (by rw [kv0]; rfl)) z909
                      have z946 : q_is (q_z f936 v0 6) yr := Eq.trans (hF.z hv0 (by rw [kv0]; rfl)) z911
                      have z947 : q_is (q_z f936 hist 1) 6 := Eq.trans (hF.z hhist (by rw [khist]; rfl)) z904
                      have z948 : q_is (q_z f936 hist 2) y934 := Eq.trans (hF.z hhist (by rw [khist]; rfl)) ey934
                      have z949 : q_ir (q_r f936 x 0) so := Eq.trans (hF.r hx (by rw [kx]; rfl)) z912
                      have z950 : q_ir (q_r f936 x 1) rd := Eq.trans (hF.r hx (by rw [kx]; rfl)) z913
                      have z951 : q_ir (q_r f936 x 3) fc := Eq.trans (hF.r hx (by rw [kx]; rfl)) z914
                      have z952 : q_ir (q_r f936 x 4) hist := Eq.trans (hF.r hx (by rw [kx]; rfl)) z915
                      have z953 : q_ir (q_r f936 x 6) v0 := Eq.trans (hF.r hx (by rw [kx]; rfl)) z916
                      have z954 : q_ir (q_r f936 x 7) v1 := Eq.trans (hF.r hx (by rw [kx]; rfl)) z917
                      have z955 : q_ir (q_r f936 so 0) ba := Eq.trans (hF.r hso (by rw [kso]; rfl)) z918
                      have z956 : q_ir (q_r f936 hist 0) ka := Eq.trans (hF.r hhist (by rw [khist]; rfl)) z919
                      have z957 : q_ir (q_r f936 fc 0) v3 := Eq.trans (hF.r hfc (by rw [kfc]; rfl)) z920
                      have z958 : q_ir (q_r f936 v0 0) n0 := Eq.trans (hF.r hv0 (by rw [kv0]; rfl)) z921
                      have z959 : q_ir (q_r f936 v0 1) l0 := Eq.trans (hF.r hv0 (by rw [kv0]; rfl)) z922
                      have z960 : q_ir (q_r f936 v0 2) m0 := Eq.trans (hF.r hv0 (by rw [kv0]; rfl)) z923
                      have z961 : q_ir (q_r f936 v1 0) n1 := Eq.trans (hF.r hv1 (by rw [kv1]; rfl)) z924
                      have z962 : q_ir (q_r f936 v1 1) l1 := Eq.trans (hF.r hv1 (by rw [kv1]; rfl)) z925
                      have z963 : q_ir (q_r f936 v1 2) m1 := Eq.trans (hF.r hv1 (by rw [kv1]; rfl)) z926
                      have z964 : q_ir (q_r f936 v3 0) n3 := Eq.trans (hF.r hv3 (by rw [kv3]; rfl)) z927
                      have z965 : q_ir (q_r f936 v3 1) l3 := Eq.trans (hF.r hv3 (by rw [kv3]; rfl)) z928
                      have z966 : q_ir (q_r f936 v3 2) m3 := Eq.trans (hF.r hv3 (by rw [kv3]; rfl)) z929
                      have g967 : tw_nw K L 5 f936 := tw_nw_tr g931 (fun a9 h9 k9 => hF.j h9 (by rw [k9]; rfl))
                      have g968 : ∃ s9 : tw_S, tw_vw K L 15 19 23 27 f936 v3 n3 l3 m3 d3 s9 := tw_ex_tr g932 (fun a9 h9 k9 c9 => hF.z h9 (by rw [k9]; rfl)) (fun a9 h9 k9 c9 => hF.z h9 (by rw [k9]; rfl)) (fun a9 h9 k9 c9 => hF.z h9 (by rw [k9]; rfl)) (fun a9 h9 k9 c9 => hF.z h9 (by rw [k9]; rfl)) (fun i9 => hF.r hn3 (by rw [kn3]; rfl)) (fun i9 => hF.r hl3 (by rw [kl3]; rfl)) (fun i9 => hF.r hm3 (by rw [km3]; rfl))
                      have g969 : tw_nw K L 19 f936 := tw_nw_tr g933 (fun a9 h9 k9 => hF.j h9 (by rw [k9]; rfl))
                      have g970 : tw_hk K L f936 ka A9 D9 (tw_hu S9 5 (tw_cp (S9 5) s0)) := tw_hk_tr g906 (fun a9 h9 k9 i9 => hF a9 h9 i9 (tw_krw rfl k9))
                      refine q_iret cx hr hlk hB dX11_send_76 ⟨by omega, by omega⟩ ?_
                      exact ⟨(by omega), (by omega), z939, (Eq.trans z947 (by have e9 : sl = 5 := by omega; rw [e9]; rfl)), (Eq.trans z948 (by omega)), (by omega), g942, g967, (tw_hkg g970 (by have e9 : sl = 5 := by omega; rw [e9]; rfl))⟩
                    · refine q_cVv (As := [.ref v0]) (rest := []) cx hB (fun _ h => h) hN hhist khist (by decide) rfl (f_keep_6 l g hN hB.2.1 d0 s0 A9 D9 S9 hist hhist khist v0 hv0 kv0 n0 hn0 kn0 l0 hl0 kl0 m0 hm0 km0 ka hka kka tm (by omega) (by omega) nn (by omega) (by omega) ln (by omega) (by omega) mn (by omega) (by omega) my (by omega) (by omega) hf0 hf1 hf2 hf3 (Eq.trans hf5 (by omega)) hf6 hr7 hr9 hr10 hr11 hw0 hz0 hhk) q_cX11_107 q_dX2_keep (by decide) rfl rfl hl.1 rfl (Nat.le_of_ble_eq_true rfl) dX11_send_61 (fun H locs f971 h973 hF hB => ?_)
                      obtain ⟨z974, t975, g976⟩ := h973
                      have z977 : q_is (q_z f971 v0 11) tm := Eq.trans (hF.z hv0 (by rw [kv0]; rfl)) hf0
                      have z978 : q_is (q_z f971 v0 3) nn := Eq.trans (hF.z hv0 (by rw [kv0]; rfl)) hf1
                      have z979 : q_is (q_z f971 v0 4) ln := Eq.trans (hF.z hv0 (by rw [kv0]; rfl)) hf2
                      have z980 : q_is (q_z f971 v0 5) mn := Eq.trans (hF.z hv0 (by rw [kv0]; rfl)) hf3
                      have z981 : q_is (q_z f971 v0 6) yr := Eq.trans (hF.z hv0 (by rw [kv0]; rfl)) hf4
                      have z982 : q_ir (q_r f971 x 0) so := Eq.trans (hF.r hx (by rw [kx]; rfl)) hr0
                      have z983 : q_ir (q_r f971 x 1) rd := Eq.trans (hF.r hx (by rw [kx]; rfl)) hr1
                      have z984 : q_ir (q_r f971 x 3) fc := Eq.trans (hF.r hx (by rw [kx]; rfl)) hr2
                      have z985 : q_ir (q_r f971 x 4) hist := Eq.trans (hF.r hx (by rw [kx]; rfl)) hr3
                      have z986 : q_ir (q_r f971 x 6) v0 := Eq.trans (hF.r hx (by rw [kx]; rfl)) hr4
                      have z987 : q_ir (q_r f971 x 7) v1 := Eq.trans (hF.r hx (by rw [kx]; rfl)) hr5
                      have z988 : q_ir (q_r f971 so 0) ba := Eq.trans (hF.r hso (by rw [kso]; rfl)) hr6
                      have z989 : q_ir (q_r f971 hist 0) ka := Eq.trans (hF.r hhist (by rw [khist]; rfl)) hr7
                      have z990 : q_ir (q_r f971 fc 0) v3 := Eq.trans (hF.r hfc (by rw [kfc]; rfl)) hr8
                      have z991 : q_ir (q_r f971 v0 0) n0 := Eq.trans (hF.r hv0 (by rw [kv0]; rfl)) hr9
                      have z992 : q_ir (q_r f971 v0 1) l0 := Eq.trans (hF.r hv0 (by rw [kv0]; rfl)) hr10
                      have z993 : q_ir (q_r f971 v0 2) m0 := Eq.trans (hF.r hv0 (by rw [kv0]; rfl)) hr11
                      have z994 : q_ir (q_r f971 v1 0) n1 := Eq.trans (hF.r hv1 (by rw [kv1]; rfl)) hr12
                      have z995 : q_ir (q_r f971 v1 1) l1 := Eq.trans (hF.r hv1 (by rw [kv1]; rfl)) hr13
                      have z996 : q_ir (q_r f971 v1 2) m1 := Eq.trans (hF.r hv1 (by rw [kv1]; rfl)) hr14
                      have z997 : q_ir (q_r f971 v3 0) n3 := Eq.trans (hF.r hv3 (by rw [kv3]; rfl)) hr15
                      have z998 : q_ir (q_r f971 v3 1) l3 := Eq.trans (hF.r hv3 (by rw [kv3]; rfl)) hr16
                      have z999 : q_ir (q_r f971 v3 2) m3 := Eq.trans (hF.r hv3 (by rw [kv3]; rfl)) hr17
                      have g1000 : tw_vw K L 10 5 3 4 f971 v0 n0 l0 m0 d0 s0 := tw_vw_tr hw0 (fun a9 h9 k9 c9 => hF.z h9 (by rw [k9]; rfl)) (fun a9 h9 k9 c9 => hF.z h9 (by rw [k9]; rfl)) (fun a9 h9 k9 c9 => hF.z h9 (by rw [k9]; rfl)) (fun a9 h9 k9 c9 => hF.z h9 (by rw [k9]; rfl)) (fun i9 => hF.r hn0 (by rw [kn0]; rfl)) (fun i9 => hF.r hl0 (by rw [kl0]; rfl)) (fun i9 => hF.r hm0 (by rw [km0]; rfl))
                      have g1001 : tw_nw K L 5 f971 := tw_nw_tr hz0 (fun a9 h9 k9 => hF.j h9 (by rw [k9]; rfl))
                      have g1002 : ∃ s9 : tw_S, tw_vw K L 15 19 23 27 f971 v3 n3 l3 m3 d3 s9 := tw_ex_tr he3 (fun a9 h9 k9 c9 => hF.z h9 (by rw [k9]; rfl)) (fun a9 h9 k9 c9 => hF.z h9 (by rw [k9]; rfl)) (fun a9 h9 k9 c9 => hF.z h9 (by rw [k9]; rfl)) (fun a9 h9 k9 c9 => hF.z h9 (by rw [k9]; rfl)) (fun i9 => hF.r hn3 (by rw [kn3]; rfl)) (fun i9 => hF.r hl3 (by rw [kl3]; rfl)) (fun i9 => hF.r hm3 (by rw [km3]; rfl))
                      have g1003 : tw_nw K L 19 f971 := tw_nw_tr hz3 (fun a9 h9 k9 => hF.j h9 (by rw [k9]; rfl))
                      obtain ⟨y1004, ey1004, ny1004⟩ : ∃ zz : Int, q_is (q_z f971 hist 2) zz ∧ zz = min 6 (my + 1) := ⟨_, t975, rfl⟩
                      have ly1004 : 1 ≤ y1004 ∧ y1004 ≤ 6 := by omega
                      refine q_ald_n cx dX11_send_64 rfl (lv_at hl 0 rfl) ?_
                      refine q_gX11_54 cx hB hx kx z986 dX11_send_65 (fun hb1005 kb1005 => ?_)
                      refine q_ild_n cx dX11_send_68 rfl (lv_at hl 1 rfl) ?_
                      refine q_ild_n cx dX11_send_69 rfl (lv_at hl 2 rfl) ?_
                      refine q_ild_n cx dX11_send_70 rfl (lv_at hl 3 rfl) ?_
                      refine lv_iload cx.1 cx.2.1 dX11_send_71 (lv_at hl 4 rfl) ?_
                      refine q_cVi (As := [.int (q_i a0), .int (q_i b0), .int (q_i c0), .int (q_i z0)]) (rest := []) cx hB (fun _ h => h) hN hv0 kv0 (by decide) rfl (f_addMessage0 l g hN hB.2.1 d0 s0 v0 hv0 kv0 a0 (by omega) (by omega) b0 (by omega) (by omega) c0 (by omega) (by omega) z0 (by omega) (by omega) n0 hn0 kn0 l0 hl0 kl0 m0 hm0 km0 mn (by omega) (by omega) tm (by omega) (by omega) z980 z977 z991 z992 z993 g1000) q_cX11_290 q_dX10_addMessage (by decide) rfl rfl hl.1 rfl (Nat.le_of_ble_eq_true rfl) dX11_send_73 (fun y1007 H locs f1006 ry1007 h1008 hF hB => ?_)
                      obtain ⟨ly1007, uy1007, z1009, t1010, t1011, g1012⟩ := h1008
                      have z1013 : q_is (q_z f1006 v0 11) tm := Eq.trans (hF.z hv0 (by rw [kv0]; rfl)) z977
                      have z1014 : q_is (q_z f1006 v0 3) nn := Eq.trans (hF.z hv0 (by rw [kv0]; rfl)) z978
                      have z1015 : q_is (q_z f1006 v0 4) ln := Eq.trans (hF.z hv0 (by rw [kv0]; rfl)) z979
                      have z1016 : q_is (q_z f1006 v0 6) yr := Eq.trans (hF.z hv0 (by rw [kv0]; rfl)) z981
                      have z1017 : q_is (q_z f1006 hist 1) 1 := Eq.trans (hF.z hhist (by rw [khist]; rfl)) z974
                      have z1018 : q_is (q_z f1006 hist 2) y1004 := Eq.trans (hF.z hhist (by rw [khist]; rfl)) ey1004
                      have z1019 : q_ir (q_r f1006 x 0) so := Eq.trans (hF.r hx (by rw [kx]; rfl)) z982
                      have z1020 : q_ir (q_r f1006 x 1) rd := Eq.trans (hF.r hx (by rw [kx]; rfl)) z983
                      have z1021 : q_ir (q_r f1006 x 3) fc := Eq.trans (hF.r hx (by rw [kx]; rfl)) z984
                      have z1022 : q_ir (q_r f1006 x 4) hist := Eq.trans (hF.r hx (by rw [kx]; rfl)) z985
                      have z1023 : q_ir (q_r f1006 x 6) v0 := Eq.trans (hF.r hx (by rw [kx]; rfl)) z986
                      have z1024 : q_ir (q_r f1006 x 7) v1 := Eq.trans (hF.r hx (by rw [kx]; rfl)) z987
                      have z1025 : q_ir (q_r f1006 so 0) ba := Eq.trans (hF.r hso (by rw [kso]; rfl)) z988
                      have z1026 : q_ir (q_r f1006 hist 0) ka := Eq.trans (hF.r hhist (by rw [khist]; rfl)) z989
                      have z1027 : q_ir (q_r f1006 fc 0) v3 := Eq.trans (hF.r hfc (by rw [kfc]; rfl)) z990
                      have z1028 : q_ir (q_r f1006 v0 0) n0 := Eq.trans (hF.r hv0 (by rw [kv0]; rfl)) z991
                      have z1029 : q_ir (q_r f1006 v0 1) l0 := Eq.trans (hF.r hv0 (by rw [kv0]; rfl)) z992
                      have z1030 : q_ir (q_r f1006 v0 2) m0 := Eq.trans (hF.r hv0 (by rw [kv0]; rfl)) z993
                      have z1031 : q_ir (q_r f1006 v1 0) n1 := Eq.trans (hF.r hv1 (by rw [kv1]; rfl)) z994
                      have z1032 : q_ir (q_r f1006 v1 1) l1 := Eq.trans (hF.r hv1 (by rw [kv1]; rfl)) z995
                      have z1033 : q_ir (q_r f1006 v1 2) m1 := Eq.trans (hF.r hv1 (by rw [kv1]; rfl)) z996
                      have z1034 : q_ir (q_r f1006 v3 0) n3 := Eq.trans (hF.r hv3 (by rw [kv3]; rfl)) z997
                      have z1035 : q_ir (q_r f1006 v3 1) l3 := Eq.trans (hF.r hv3 (by rw [kv3]; rfl)) z998
                      have z1036 : q_ir (q_r f1006 v3 2) m3 := Eq.trans (hF.r hv3 (by rw [kv3]; rfl)) z999
                      have g1037 : tw_nw K L 5 f1006 := tw_nw_tr g1001 (fun a9 h9 k9 => hF.j h9 (by rw [k9]; rfl))
                      have g1038 : ∃ s9 : tw_S, tw_vw K L 15 19 23 27 f1006 v3 n3 l3 m3 d3 s9 := tw_ex_tr g1002 (fun a9 h9 k9 c9 => hF.z h9 (by rw [k9]; rfl)) (fun a9 h9 k9 c9 => hF.z h9 (by rw [k9]; rfl)) (fun a9 h9 k9 c9 => hF.z h9 (by rw [k9]; rfl)) (fun a9 h9 k9 c9 => hF.z h9 (by rw [k9]; rfl)) (fun i9 => hF.r hn3 (by rw [kn3]; rfl)) (fun i9 => hF.r hl3 (by rw [kl3]; rfl)) (fun i9 => hF.r hm3 (by rw [km3]; rfl))
                      have g1039 : tw_nw K L 19 f1006 := tw_nw_tr g1003 (fun a9 h9 k9 => hF.j h9 (by rw [k9]; rfl))
                      have g1040 : tw_hk K L f1006 ka A9 D9 (tw_hu S9 0 (tw_cp (S9 0) s0)) := tw_hk_tr g976 (fun a9 h9 k9 i9 => hF a9 h9 i9 (tw_krw rfl k9))
                      refine q_iret cx hr hlk hB dX11_send_76 ⟨by omega, by omega⟩ ?_
                      exact ⟨(by omega), (by omega), z1009, (Eq.trans z1017 (by have e9 : sl = 6 := by omega; rw [e9]; rfl)), (Eq.trans z1018 (by omega)), (by omega), g1012, g1037, (tw_hkg g1040 (by have e9 : sl = 6 := by omega; rw [e9]; rfl))⟩
        · exact absurd c542 (by omega)
      · obtain ⟨rfl, qy537, t1041⟩ := h540
        subst qy537
        exact False.elim (by omega)
    · exact absurd c534 (by omega)
  · obtain ⟨rfl, qy529, t1042⟩ := h532
    subst qy529
    exact False.elim (by omega)
