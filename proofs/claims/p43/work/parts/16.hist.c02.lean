set_option maxHeartbeats 4000000 in
set_option maxRecDepth 100000 in
theorem f_keep_2 (l : Launch) (g : q_G) {K : Nat → Nat} {L : List Nat} (hN : L.Nodup) {f : Nat → va_E} (hT : q_Ty g K L f) (d0 : Nat → Nat) (s0 : tw_S) (A9 : Nat → Nat → Nat) (D9 : Nat → Nat → Nat) (S9 : Nat → tw_S) (hist : Nat) (hhist : hist ∈ L) (khist : K hist = 2) (v0 : Nat) (hv0 : v0 ∈ L) (kv0 : K v0 = 10) (n0 : Nat) (hn0 : n0 ∈ L) (kn0 : K n0 = 110) (l0 : Nat) (hl0 : l0 ∈ L) (kl0 : K l0 = 120) (m0 : Nat) (hm0 : m0 ∈ L) (km0 : K m0 = 130) (ka : Nat) (hka : ka ∈ L) (kka : K ka = 218) (tm : Int) (ltm : 0 ≤ tm) (utm : tm ≤ 9000) (nn : Int) (lnn : 0 ≤ nn) (unn : nn ≤ 10) (ln : Int) (lln : 0 ≤ ln) (uln : ln ≤ 16) (mn : Int) (lmn : 0 ≤ mn) (umn : mn ≤ 61) (my : Int) (lmy : 0 ≤ my) (umy : my ≤ 6) (hf0 : q_is (q_z f v0 11) tm) (hf1 : q_is (q_z f v0 3) nn) (hf2 : q_is (q_z f v0 4) ln) (hf3 : q_is (q_z f v0 5) mn) (hf4 : q_is (q_z f hist 1) 2) (hf5 : q_is (q_z f hist 2) my) (hr0 : q_ir (q_r f hist 0) ka) (hr1 : q_ir (q_r f v0 0) n0) (hr2 : q_ir (q_r f v0 1) l0) (hr3 : q_ir (q_r f v0 2) m0) (hw0 : tw_vw K L 10 5 3 4 f v0 n0 l0 m0 d0 s0) (hz0 : tw_nw K L 5 f) (hhk : tw_hk K L f ka A9 D9 S9) : q_Ct l g K L yX2_keep cX2_keep 2 none 2 43 [.ref hist, .ref v0] f [(2, 1, 2), (52, 3, 12), (58, 0, 8), (64, 0, 4), (70, 0, 7)] (q_Pv (fun (f1 : Nat → va_E) => q_is (q_z f1 hist 1) 3 ∧ (q_is (q_z f1 hist 2) (min 6 (my + 1))) ∧ (tw_hk K L f1 ka A9 D9 (tw_hu S9 2 (tw_cp (S9 2) s0))))) := by
  refine q_ofb (by decide +kernel) hN hT (Nat.le_of_ble_eq_true rfl) ?_
  intro p e s m below meth c ls cx hr hlk hB hl
  have hl : lv_has ls 2 [(0, .ref hist), (1, .ref v0)] := hl
  obtain ⟨H, hH⟩ : ∃ H : Heap, H = s.heap := ⟨_, rfl⟩
  obtain ⟨locs, hlocs⟩ : ∃ z : List Loc, z = [] := ⟨_, rfl⟩
  rw [← hH, ← hlocs] at hB
  rw [← hH, ← hlocs]
  refine q_ald_n cx dX2_keep_0 rfl (lv_at hl 0 rfl) ?_
  refine q_gX2_20 cx hB hhist khist hf4 dX2_keep_1 (fun lb66 ub66 => ?_)
  refine q_iflt (tgt := 19) cx ⟨by decide, by decide⟩ dX2_keep_4 (by decide) (fun c67 => ?_) (fun c67 => ?_)
  · exact absurd c67 (by omega)
  · refine q_ald_n cx dX2_keep_7 rfl (lv_at hl 0 rfl) ?_
    refine q_gX2_20 cx hB hhist khist hf4 dX2_keep_8 (fun lb68 ub68 => ?_)
    refine q_ald_n cx dX2_keep_11 rfl (lv_at hl 0 rfl) ?_
    refine q_gX2_11 cx hB hhist khist hr0 dX2_keep_12 (fun hb69 kb69 => ?_)
    refine q_alen (n := 6) cx hB hka kka (by decide) rfl 8 rfl rfl dX2_keep_15 ?_
    refine q_iclt (tgt := 24) cx ⟨by decide, by decide⟩ ⟨by decide, by decide⟩ dX2_keep_16 (by decide) (fun c70 => ?_) (fun c70 => ?_)
    · obtain ⟨d6, v6, n6, l6, m6, ed9, ⟨hv6, kv6⟩, ⟨hn6, kn6⟩, ⟨hl6, kl6⟩, ⟨hm6, km6⟩, ⟨er0, er1, er2, er3⟩, hw9, hz9⟩ := tw_hk_get hhk 2 (by decide)
      have kv6 : K v6 = 52 := kv6
      have kn6 : K n6 = 202 := kn6
      have kl6 : K l6 = 208 := kl6
      have km6 : K m6 = 214 := km6
      have hw9 : tw_vw K L 52 58 64 70 f v6 n6 l6 m6 d6 (S9 2) := hw9
      have hz9 : tw_nw K L 58 f := hz9
      refine q_ald_n cx dX2_keep_24 rfl (lv_at hl 0 rfl) ?_
      refine q_gX2_11 cx hB hhist khist hr0 dX2_keep_25 (fun hb71 kb71 => ?_)
      refine q_ald_n cx dX2_keep_28 rfl (lv_at hl 0 rfl) ?_
      refine q_gX2_20 cx hB hhist khist hf4 dX2_keep_29 (fun lb72 ub72 => ?_)
      refine q_aald (k2 := 52) (n := 6) cx hB hka kka (by decide) rfl 8 rfl (by decide) rfl (by decide) (by decide) (by decide) rfl er0 dX2_keep_32 (fun hb74 kb74 => ?_)
      refine q_ald_n cx dX2_keep_33 rfl (lv_at hl 1 rfl) ?_
      refine q_cVv (As := [.ref v0]) (rest := []) cx hB (fun _ h => h) hN hv6 kv6 (by decide) rfl (f_vcopy60 l g hN hB.2.1 d6 (S9 2) d0 s0 v6 hv6 kv6 v0 hv0 kv0 n6 hn6 kn6 l6 hl6 kl6 m6 hm6 km6 n0 hn0 kn0 l0 hl0 kl0 m0 hm0 km0 nn (by omega) (by omega) ln (by omega) (by omega) mn (by omega) (by omega) tm (by omega) (by omega) hf1 hf2 hf3 hf0 er1 er2 er3 hr1 hr2 hr3 hw9 hw0 hz9 hz0) q_cX2_23 q_dX10_copyFrom (by decide) rfl rfl hl.1 rfl (Nat.le_of_ble_eq_true rfl) dX2_keep_34 (fun H locs f75 h77 hF hB => ?_)
      obtain ⟨z78, z79, z80, z81, g82, g83⟩ := h77
      have z84 : q_is (q_z f75 v0 11) tm := Eq.trans (hF.z hv0 (by rw [kv0]; rfl)) hf0
      have z85 : q_is (q_z f75 v0 3) nn := Eq.trans (hF.z hv0 (by rw [kv0]; rfl)) hf1
      have z86 : q_is (q_z f75 v0 4) ln := Eq.trans (hF.z hv0 (by rw [kv0]; rfl)) hf2
      have z87 : q_is (q_z f75 v0 5) mn := Eq.trans (hF.z hv0 (by rw [kv0]; rfl)) hf3
      have z88 : q_is (q_z f75 hist 1) 2 := Eq.trans (hF.z hhist (by rw [khist]; rfl)) hf4
      have z89 : q_is (q_z f75 hist 2) my := Eq.trans (hF.z hhist (by rw [khist]; rfl)) hf5
      have z90 : q_ir (q_r f75 hist 0) ka := Eq.trans (hF.r hhist (by rw [khist]; rfl)) hr0
      have z91 : q_ir (q_r f75 v0 0) n0 := Eq.trans (hF.r hv0 (by rw [kv0]; rfl)) hr1
      have z92 : q_ir (q_r f75 v0 1) l0 := Eq.trans (hF.r hv0 (by rw [kv0]; rfl)) hr2
      have z93 : q_ir (q_r f75 v0 2) m0 := Eq.trans (hF.r hv0 (by rw [kv0]; rfl)) hr3
      have z94 : q_ir (q_r f75 ka 2) v6 := Eq.trans (hF.r hka (by rw [kka]; rfl)) er0
      have z95 : q_ir (q_r f75 v6 0) n6 := Eq.trans (hF.r hv6 (by rw [kv6]; rfl)) er1
      have z96 : q_ir (q_r f75 v6 1) l6 := Eq.trans (hF.r hv6 (by rw [kv6]; rfl)) er2
      have z97 : q_ir (q_r f75 v6 2) m6 := Eq.trans (hF.r hv6 (by rw [kv6]; rfl)) er3
      have g98 : tw_vw K L 10 5 3 4 f75 v0 n0 l0 m0 d0 s0 := tw_vw_tr hw0 (fun a9 h9 k9 c9 => hF.z h9 (by rw [k9]; rfl)) (fun a9 h9 k9 c9 => hF.z h9 (by rw [k9]; rfl)) (fun a9 h9 k9 c9 => hF.z h9 (by rw [k9]; rfl)) (fun a9 h9 k9 c9 => hF.z h9 (by rw [k9]; rfl)) (fun i9 => hF.r hn0 (by rw [kn0]; rfl)) (fun i9 => hF.r hl0 (by rw [kl0]; rfl)) (fun i9 => hF.r hm0 (by rw [km0]; rfl))
      have g99 : tw_nw K L 5 f75 := tw_nw_tr hz0 (fun a9 h9 k9 => hF.j h9 (by rw [k9]; rfl))
      have hk9 : tw_hk K L f75 ka A9 D9 (tw_hu S9 2 (tw_cp (S9 2) s0)) := tw_hk_up hhk 2 (by decide) hF rfl ed9 g82 g83
      refine q_ald_n cx dX2_keep_37 rfl (lv_at hl 0 rfl) ?_
      refine lv_dup cx.1 cx.2.1 dX2_keep_38 rfl ?_
      refine q_gX2_20 cx hB hhist khist z88 dX2_keep_39 (fun lb100 ub100 => ?_)
      refine q_iconst cx dX2_keep_42 ?_
      refine q_iadd cx dX2_keep_43 ?_
      refine q_pX2_20 cx hB hhist khist ⟨by decide, by decide⟩ (by decide) (by decide) rfl dX2_keep_44 (fun H locs f101 ef101 z102 hB => ?_)
      have z103 : q_is (q_z f101 v0 11) tm := by rw [ef101, q_setz (Or.inr (by decide))]; exact z84
      have z104 : q_is (q_z f101 v0 3) nn := by rw [ef101, q_setz (Or.inr (by decide))]; exact z85
      have z105 : q_is (q_z f101 v0 4) ln := by rw [ef101, q_setz (Or.inr (by decide))]; exact z86
      have z106 : q_is (q_z f101 v0 5) mn := by rw [ef101, q_setz (Or.inr (by decide))]; exact z87
      have z107 : q_is (q_z f101 hist 2) my := by rw [ef101, q_setz (Or.inr (by decide))]; exact z89
      have z108 : q_ir (q_r f101 hist 0) ka := by rw [ef101, q_setr (Or.inr (by decide))]; exact z90
      have z109 : q_ir (q_r f101 v0 0) n0 := by rw [ef101, q_setr (Or.inr (by decide))]; exact z91
      have z110 : q_ir (q_r f101 v0 1) l0 := by rw [ef101, q_setr (Or.inl (fun q => by rw [q, khist] at kv0; exact absurd kv0 (by decide)))]; exact z92
      have z111 : q_ir (q_r f101 v0 2) m0 := by rw [ef101, q_setr (Or.inr (by decide))]; exact z93
      have g112 : tw_vw K L 10 5 3 4 f101 v0 n0 l0 m0 d0 s0 := tw_vw_tr g98 (fun a9 h9 k9 c9 => by rw [ef101, q_setz (Or.inl (fun q => by rw [q, khist] at k9; exact absurd k9 (by decide)))]) (fun a9 h9 k9 c9 => by rw [ef101, q_setz (Or.inl (fun q => by rw [q, khist] at k9; exact absurd k9 (by decide)))]) (fun a9 h9 k9 c9 => by rw [ef101, q_setz (Or.inl (fun q => by rw [q, khist] at k9; exact absurd k9 (by decide)))]) (fun a9 h9 k9 c9 => by rw [ef101, q_setz (Or.inl (fun q => by rw [q, khist] at k9; exact absurd k9 (by decide)))]) (fun i9 => by rw [ef101, q_setr (Or.inl (fun q => by rw [q, khist] at kn0; exact absurd kn0 (by decide)))]) (fun i9 => by rw [ef101, q_setr (Or.inl (fun q => by rw [q, khist] at kl0; exact absurd kl0 (by decide)))]) (fun i9 => by rw [ef101, q_setr (Or.inl (fun q => by rw [q, khist] at km0; exact absurd km0 (by decide)))])
      have g113 : tw_nw K L 5 f101 := tw_nw_tr g99 (fun a9 h9 k9 => by rw [ef101, q_setj (Or.inl (fun q => by rw [q, khist] at k9; exact absurd k9 (by decide)))])
      have g114 : tw_hk K L f101 ka A9 D9 (tw_hu S9 2 (tw_cp (S9 2) s0)) := tw_hk_tr hk9 (fun a9 h9 k9 i9 => by rw [ef101]; exact q_set_ne (Or.inl (fun q => by rw [q, khist] at k9; exact absurd k9 (by decide))))
      refine q_ald_n cx dX2_keep_47 rfl (lv_at hl 0 rfl) ?_
      refine q_bipush cx dX2_keep_48 rfl ?_
      refine q_ald_n cx dX2_keep_50 rfl (lv_at hl 0 rfl) ?_
      refine q_gX2_16 cx hB hhist khist z107 dX2_keep_51 (fun lb115 ub115 => ?_)
      refine q_iconst cx dX2_keep_54 ?_
      refine q_iadd cx dX2_keep_55 ?_
      refine q_mmin (rest := [.ref hist]) cx hl.1 q_h1383 q_h994 q_h56 q_h995 (by decide) (Nat.le_of_ble_eq_true rfl) (by decide) (by decide) ⟨by decide, by decide⟩ ⟨by omega, by omega⟩ dX2_keep_56 (fun y116 ay116 by116 ey116 => ?_)
      refine q_pX2_16 cx hB hhist khist ⟨by omega, by omega⟩ (by omega) (by omega) rfl dX2_keep_59 (fun H locs f117 ef117 z118 hB => ?_)
      have z119 : q_is (q_z f117 v0 11) tm := by rw [ef117, q_setz (Or.inr (by decide))]; exact z103
      have z120 : q_is (q_z f117 v0 3) nn := by rw [ef117, q_setz (Or.inr (by decide))]; exact z104
      have z121 : q_is (q_z f117 v0 4) ln := by rw [ef117, q_setz (Or.inr (by decide))]; exact z105
      have z122 : q_is (q_z f117 v0 5) mn := by rw [ef117, q_setz (Or.inr (by decide))]; exact z106
      have z123 : q_is (q_z f117 hist 1) (2 + 1) := by rw [ef117, q_setz (Or.inr (by decide))]; exact z102
      have z124 : q_ir (q_r f117 hist 0) ka := by rw [ef117, q_setr (Or.inr (by decide))]; exact z108
      have z125 : q_ir (q_r f117 v0 0) n0 := by rw [ef117, q_setr (Or.inr (by decide))]; exact z109
      have z126 : q_ir (q_r f117 v0 1) l0 := by rw [ef117, q_setr (Or.inr (by decide))]; exact z110
      have z127 : q_ir (q_r f117 v0 2) m0 := by rw [ef117, q_setr (Or.inl (fun q => by rw [q, khist] at kv0; exact absurd kv0 (by decide)))]; exact z111
      have g128 : tw_vw K L 10 5 3 4 f117 v0 n0 l0 m0 d0 s0 := tw_vw_tr g112 (fun a9 h9 k9 c9 => by rw [ef117, q_setz (Or.inl (fun q => by rw [q, khist] at k9; exact absurd k9 (by decide)))]) (fun a9 h9 k9 c9 => by rw [ef117, q_setz (Or.inl (fun q => by rw [q, khist] at k9; exact absurd k9 (by decide)))]) (fun a9 h9 k9 c9 => by rw [ef117, q_setz (Or.inl (fun q => by rw [q, khist] at k9; exact absurd k9 (by decide)))]) (fun a9 h9 k9 c9 => by rw [ef117, q_setz (Or.inl (fun q => by rw [q, khist] at k9; exact absurd k9 (by decide)))]) (fun i9 => by rw [ef117, q_setr (Or.inl (fun q => by rw [q, khist] at kn0; exact absurd kn0 (by decide)))]) (fun i9 => by rw [ef117, q_setr (Or.inl (fun q => by rw [q, khist] at kl0; exact absurd kl0 (by decide)))]) (fun i9 => by rw [ef117, q_setr (Or.inl (fun q => by rw [q, khist] at km0; exact absurd km0 (by decide)))])
      have g129 : tw_nw K L 5 f117 := tw_nw_tr g113 (fun a9 h9 k9 => by rw [ef117, q_setj (Or.inl (fun q => by rw [q, khist] at k9; exact absurd k9 (by decide)))])
      have g130 : tw_hk K L f117 ka A9 D9 (tw_hu S9 2 (tw_cp (S9 2) s0)) := tw_hk_tr g114 (fun a9 h9 k9 i9 => by rw [ef117]; exact q_set_ne (Or.inl (fun q => by rw [q, khist] at k9; exact absurd k9 (by decide))))
      refine q_vret cx hr hlk hB dX2_keep_62 ?_
      exact ⟨(Eq.trans z123 (by omega)), (Eq.trans z118 (by omega)), g130⟩
    · exact absurd c70 (by omega)
set_option maxHeartbeats 4000000 in
set_option maxRecDepth 100000 in
theorem f_takeBack_2 (l : Launch) (g : q_G) {K : Nat → Nat} {L : List Nat} (hN : L.Nodup) {f : Nat → va_E} (hT : q_Ty g K L f) (d0 : Nat → Nat) (s0 : tw_S) (A9 : Nat → Nat → Nat) (D9 : Nat → Nat → Nat) (S9 : Nat → tw_S) (hist : Nat) (hhist : hist ∈ L) (khist : K hist = 2) (v0 : Nat) (hv0 : v0 ∈ L) (kv0 : K v0 = 10) (n0 : Nat) (hn0 : n0 ∈ L) (kn0 : K n0 = 110) (l0 : Nat) (hl0 : l0 ∈ L) (kl0 : K l0 = 120) (m0 : Nat) (hm0 : m0 ∈ L) (km0 : K m0 = 130) (ka : Nat) (hka : ka ∈ L) (kka : K ka = 218) (tm : Int) (ltm : 0 ≤ tm) (utm : tm ≤ 9000) (nn : Int) (lnn : 0 ≤ nn) (unn : nn ≤ 10) (ln : Int) (lln : 0 ≤ ln) (uln : ln ≤ 16) (mn : Int) (lmn : 0 ≤ mn) (umn : mn ≤ 61) (my : Int) (lmy : 1 ≤ my) (umy : my ≤ 6) (tk : Int) (ltk : 0 ≤ tk) (utk : tk ≤ 9000) (nk : Int) (lnk : 0 ≤ nk) (unk : nk ≤ 10) (lk : Int) (llk : 0 ≤ lk) (ulk : lk ≤ 16) (mk : Int) (lmk : 0 ≤ mk) (umk : mk ≤ 61) (hf0 : q_is (q_z f v0 11) tm) (hf1 : q_is (q_z f v0 3) nn) (hf2 : q_is (q_z f v0 4) ln) (hf3 : q_is (q_z f v0 5) mn) (hf4 : q_is (q_z f hist 1) 2) (hf5 : q_is (q_z f hist 2) my) (hr0 : q_ir (q_r f hist 0) ka) (hr1 : q_ir (q_r f v0 0) n0) (hr2 : q_ir (q_r f v0 1) l0) (hr3 : q_ir (q_r f v0 2) m0) (hp0 : (S9 1) 0 11 = tk) (hp1 : (S9 1) 0 3 = nk) (hp2 : (S9 1) 0 4 = lk) (hp3 : (S9 1) 0 5 = mk) (hw0 : tw_vw K L 10 5 3 4 f v0 n0 l0 m0 d0 s0) (hz0 : tw_nw K L 5 f) (hhk : tw_hk K L f ka A9 D9 S9) : q_Ct l g K L yX2_takeBack cX2_takeBack 2 (some .boolean) 2 43 [.ref hist, .ref v0] f [(2, 1, 2), (3, 0, 4), (4, 0, 7), (5, 0, 8), (10, 3, 12)] (q_Pi (fun (z : Int) (f1 : Nat → va_E) => z = 1 ∧ q_is (q_z f1 hist 1) 1 ∧ q_is (q_z f1 hist 2) (my - 1) ∧ q_is (q_z f1 v0 11) tk ∧ q_is (q_z f1 v0 3) nk ∧ q_is (q_z f1 v0 4) lk ∧ q_is (q_z f1 v0 5) mk ∧ (tw_vw K L 10 5 3 4 f1 v0 n0 l0 m0 d0 (tw_cp s0 (S9 1))) ∧ (tw_nw K L 5 f1) ∧ (tw_hk K L f1 ka A9 D9 S9))) := by
  refine q_ofb (by decide +kernel) hN hT (Nat.le_of_ble_eq_true rfl) ?_
  intro p e s m below meth c ls cx hr hlk hB hl
  have hl : lv_has ls 2 [(0, .ref hist), (1, .ref v0)] := hl
  obtain ⟨H, hH⟩ : ∃ H : Heap, H = s.heap := ⟨_, rfl⟩
  obtain ⟨locs, hlocs⟩ : ∃ z : List Loc, z = [] := ⟨_, rfl⟩
  rw [← hH, ← hlocs] at hB
  rw [← hH, ← hlocs]
  refine q_ald_n cx dX2_takeBack_0 rfl (lv_at hl 0 rfl) ?_
  refine q_gX2_16 cx hB hhist khist hf5 dX2_takeBack_1 (fun lb82 ub82 => ?_)
  refine q_ifne (tgt := 9) cx ⟨by omega, by omega⟩ dX2_takeBack_4 (by decide) (fun c83 => ?_) (fun c83 => ?_)
  · refine q_ald_n cx dX2_takeBack_9 rfl (lv_at hl 0 rfl) ?_
    refine q_ald_n cx dX2_takeBack_10 rfl (lv_at hl 0 rfl) ?_
    refine q_gX2_20 cx hB hhist khist hf4 dX2_takeBack_11 (fun lb84 ub84 => ?_)
    refine q_ifle (tgt := 38) cx ⟨by decide, by decide⟩ dX2_takeBack_14 (by decide) (fun c85 => ?_) (fun c85 => ?_)
    · exact absurd c85 (by omega)
    · refine q_ald_n cx dX2_takeBack_17 rfl (lv_at hl 0 rfl) ?_
      refine q_gX2_20 cx hB hhist khist hf4 dX2_takeBack_18 (fun lb86 ub86 => ?_)
      refine q_ald_n cx dX2_takeBack_21 rfl (lv_at hl 0 rfl) ?_
      refine q_gX2_11 cx hB hhist khist hr0 dX2_takeBack_22 (fun hb87 kb87 => ?_)
      refine q_alen (n := 6) cx hB hka kka (by decide) rfl 8 rfl rfl dX2_takeBack_25 ?_
      refine q_icgt (tgt := 38) cx ⟨by decide, by decide⟩ ⟨by decide, by decide⟩ dX2_takeBack_26 (by decide) (fun c88 => ?_) (fun c88 => ?_)
      · exact absurd c88 (by omega)
      · refine q_ald_n cx dX2_takeBack_29 rfl (lv_at hl 0 rfl) ?_
        refine q_gX2_20 cx hB hhist khist hf4 dX2_takeBack_30 (fun lb89 ub89 => ?_)
        refine q_iconst cx dX2_takeBack_33 ?_
        refine q_isub cx dX2_takeBack_34 ?_
        refine lv_goto (tgt := 45) cx.1 cx.2.1 dX2_takeBack_35 (by decide) ?_
        refine q_pX2_20 cx hB hhist khist ⟨by decide, by decide⟩ (by decide) (by decide) rfl dX2_takeBack_45 (fun H locs f90 ef90 z91 hB => ?_)
        have z92 : q_is (q_z f90 v0 11) tm := by rw [ef90, q_setz (Or.inr (by decide))]; exact hf0
        have z93 : q_is (q_z f90 v0 3) nn := by rw [ef90, q_setz (Or.inr (by decide))]; exact hf1
        have z94 : q_is (q_z f90 v0 4) ln := by rw [ef90, q_setz (Or.inr (by decide))]; exact hf2
        have z95 : q_is (q_z f90 v0 5) mn := by rw [ef90, q_setz (Or.inr (by decide))]; exact hf3
        have z96 : q_is (q_z f90 hist 2) my := by rw [ef90, q_setz (Or.inr (by decide))]; exact hf5
        have z97 : q_ir (q_r f90 hist 0) ka := by rw [ef90, q_setr (Or.inr (by decide))]; exact hr0
        have z98 : q_ir (q_r f90 v0 0) n0 := by rw [ef90, q_setr (Or.inr (by decide))]; exact hr1
        have z99 : q_ir (q_r f90 v0 1) l0 := by rw [ef90, q_setr (Or.inl (fun q => by rw [q, khist] at kv0; exact absurd kv0 (by decide)))]; exact hr2
        have z100 : q_ir (q_r f90 v0 2) m0 := by rw [ef90, q_setr (Or.inr (by decide))]; exact hr3
        have g101 : tw_vw K L 10 5 3 4 f90 v0 n0 l0 m0 d0 s0 := tw_vw_tr hw0 (fun a9 h9 k9 c9 => by rw [ef90, q_setz (Or.inl (fun q => by rw [q, khist] at k9; exact absurd k9 (by decide)))]) (fun a9 h9 k9 c9 => by rw [ef90, q_setz (Or.inl (fun q => by rw [q, khist] at k9; exact absurd k9 (by decide)))]) (fun a9 h9 k9 c9 => by rw [ef90, q_setz (Or.inl (fun q => by rw [q, khist] at k9; exact absurd k9 (by decide)))]) (fun a9 h9 k9 c9 => by rw [ef90, q_setz (Or.inl (fun q => by rw [q, khist] at k9; exact absurd k9 (by decide)))]) (fun i9 => by rw [ef90, q_setr (Or.inl (fun q => by rw [q, khist] at kn0; exact absurd kn0 (by decide)))]) (fun i9 => by rw [ef90, q_setr (Or.inl (fun q => by rw [q, khist] at kl0; exact absurd kl0 (by decide)))]) (fun i9 => by rw [ef90, q_setr (Or.inl (fun q => by rw [q, khist] at km0; exact absurd km0 (by decide)))])
        have g102 : tw_nw K L 5 f90 := tw_nw_tr hz0 (fun a9 h9 k9 => by rw [ef90, q_setj (Or.inl (fun q => by rw [q, khist] at k9; exact absurd k9 (by decide)))])
        have g103 : tw_hk K L f90 ka A9 D9 S9 := tw_hk_tr hhk (fun a9 h9 k9 i9 => by rw [ef90]; exact q_set_ne (Or.inl (fun q => by rw [q, khist] at k9; exact absurd k9 (by decide))))
        obtain ⟨d5, v5, n5, l5, m5, ed9, ⟨hv5, kv5⟩, ⟨hn5, kn5⟩, ⟨hl5, kl5⟩, ⟨hm5, km5⟩, ⟨er0, er1, er2, er3⟩, hw9, hz9⟩ := tw_hk_get g103 1 (by decide)
        have kv5 : K v5 = 51 := kv5
        have kn5 : K n5 = 201 := kn5
        have kl5 : K l5 = 207 := kl5
        have km5 : K m5 = 213 := km5
        have hw9 : tw_vw K L 51 57 63 69 f90 v5 n5 l5 m5 d5 (S9 1) := hw9
        have hz9 : tw_nw K L 57 f90 := hz9
        have z104 : q_is (q_z f90 v5 11) tk := tw_kf hw9 (by decide) hp0
        have z105 : q_is (q_z f90 v5 3) nk := tw_kf hw9 (by decide) hp1
        have z106 : q_is (q_z f90 v5 4) lk := tw_kf hw9 (by decide) hp2
        have z107 : q_is (q_z f90 v5 5) mk := tw_kf hw9 (by decide) hp3
        refine q_ald_n cx dX2_takeBack_48 rfl (lv_at hl 1 rfl) ?_
        refine q_ald_n cx dX2_takeBack_49 rfl (lv_at hl 0 rfl) ?_
        refine q_gX2_11 cx hB hhist khist z97 dX2_takeBack_50 (fun hb108 kb108 => ?_)
        refine q_ald_n cx dX2_takeBack_53 rfl (lv_at hl 0 rfl) ?_
        refine q_gX2_20 cx hB hhist khist z91 dX2_takeBack_54 (fun lb109 ub109 => ?_)
        refine q_aald (k2 := 51) (n := 6) cx hB hka kka (by decide) rfl 8 rfl (by decide) rfl (by decide) (by decide) (by decide) rfl er0 dX2_takeBack_57 (fun hb111 kb111 => ?_)
        refine q_cVv (As := [.ref v5]) (rest := []) cx hB (fun _ h => h) hN hv0 kv0 (by decide) rfl (f_vcopy05 l g hN hB.2.1 d0 s0 d5 (S9 1) v0 hv0 kv0 v5 hv5 kv5 n0 hn0 kn0 l0 hl0 kl0 m0 hm0 km0 n5 hn5 kn5 l5 hl5 kl5 m5 hm5 km5 nk (by omega) (by omega) lk (by omega) (by omega) mk (by omega) (by omega) tk (by omega) (by omega) z105 z106 z107 z104 z98 z99 z100 er1 er2 er3 g101 hw9 g102 hz9) q_cX2_23 q_dX10_copyFrom (by decide) rfl rfl hl.1 rfl (Nat.le_of_ble_eq_true rfl) dX2_takeBack_58 (fun H locs f112 h114 hF hB => ?_)
        obtain ⟨z115, z116, z117, z118, g119, g120⟩ := h114
        have z121 : q_is (q_z f112 hist 2) my := Eq.trans (hF.z hhist (by rw [khist]; rfl)) z96
        have z122 : q_is (q_z f112 hist 1) (2 - 1) := Eq.trans (hF.z hhist (by rw [khist]; rfl)) z91
        have z123 : q_is (q_z f112 v5 11) tk := Eq.trans (hF.z hv5 (by rw [kv5]; rfl)) z104
        have z124 : q_is (q_z f112 v5 3) nk := Eq.trans (hF.z hv5 (by rw [kv5]; rfl)) z105
        have z125 : q_is (q_z f112 v5 4) lk := Eq.trans (hF.z hv5 (by rw [kv5]; rfl)) z106
        have z126 : q_is (q_z f112 v5 5) mk := Eq.trans (hF.z hv5 (by rw [kv5]; rfl)) z107
        have z127 : q_ir (q_r f112 hist 0) ka := Eq.trans (hF.r hhist (by rw [khist]; rfl)) z97
        have z128 : q_ir (q_r f112 v0 0) n0 := Eq.trans (hF.r hv0 (by rw [kv0]; rfl)) z98
        have z129 : q_ir (q_r f112 v0 1) l0 := Eq.trans (hF.r hv0 (by rw [kv0]; rfl)) z99
        have z130 : q_ir (q_r f112 v0 2) m0 := Eq.trans (hF.r hv0 (by rw [kv0]; rfl)) z100
        have z131 : q_ir (q_r f112 ka 1) v5 := Eq.trans (hF.r hka (by rw [kka]; rfl)) er0
        have z132 : q_ir (q_r f112 v5 0) n5 := Eq.trans (hF.r hv5 (by rw [kv5]; rfl)) er1
        have z133 : q_ir (q_r f112 v5 1) l5 := Eq.trans (hF.r hv5 (by rw [kv5]; rfl)) er2
        have z134 : q_ir (q_r f112 v5 2) m5 := Eq.trans (hF.r hv5 (by rw [kv5]; rfl)) er3
        have g135 : tw_hk K L f112 ka A9 D9 S9 := tw_hk_tr g103 (fun a9 h9 k9 i9 => hF a9 h9 i9 (tw_krw rfl k9))
        have g136 : tw_vw K L 51 57 63 69 f112 v5 n5 l5 m5 d5 (S9 1) := tw_vw_tr hw9 (fun a9 h9 k9 c9 => hF.z h9 (by rw [k9]; rfl)) (fun a9 h9 k9 c9 => hF.z h9 (by rw [k9]; rfl)) (fun a9 h9 k9 c9 => hF.z h9 (by rw [k9]; rfl)) (fun a9 h9 k9 c9 => hF.z h9 (by rw [k9]; rfl)) (fun i9 => hF.r hn5 (by rw [kn5]; rfl)) (fun i9 => hF.r hl5 (by rw [kl5]; rfl)) (fun i9 => hF.r hm5 (by rw [km5]; rfl))
        have g137 : tw_nw K L 57 f112 := tw_nw_tr hz9 (fun a9 h9 k9 => hF.j h9 (by rw [k9]; rfl))
        refine q_ald_n cx dX2_takeBack_61 rfl (lv_at hl 0 rfl) ?_
        refine lv_dup cx.1 cx.2.1 dX2_takeBack_62 rfl ?_
        refine q_gX2_16 cx hB hhist khist z121 dX2_takeBack_63 (fun lb138 ub138 => ?_)
        refine q_iconst cx dX2_takeBack_66 ?_
        refine q_isub cx dX2_takeBack_67 ?_
        refine q_pX2_16 cx hB hhist khist ⟨by omega, by omega⟩ (by omega) (by omega) rfl dX2_takeBack_68 (fun H locs f139 ef139 z140 hB => ?_)
        have z141 : q_is (q_z f139 hist 1) (2 - 1) := by rw [ef139, q_setz (Or.inr (by decide))]; exact z122
        have z142 : q_is (q_z f139 v5 11) tk := by rw [ef139, q_setz (Or.inr (by decide))]; exact z123
        have z143 : q_is (q_z f139 v5 3) nk := by rw [ef139, q_setz (Or.inr (by decide))]; exact z124
        have z144 : q_is (q_z f139 v5 4) lk := by rw [ef139, q_setz (Or.inr (by decide))]; exact z125
        have z145 : q_is (q_z f139 v5 5) mk := by rw [ef139, q_setz (Or.inr (by decide))]; exact z126
        have z146 : q_is (q_z f139 v0 3) nk := by rw [ef139, q_setz (Or.inr (by decide))]; exact z115
        have z147 : q_is (q_z f139 v0 4) lk := by rw [ef139, q_setz (Or.inr (by decide))]; exact z116
        have z148 : q_is (q_z f139 v0 5) mk := by rw [ef139, q_setz (Or.inr (by decide))]; exact z117
        have z149 : q_is (q_z f139 v0 11) tk := by rw [ef139, q_setz (Or.inr (by decide))]; exact z118
        have z150 : q_ir (q_r f139 hist 0) ka := by rw [ef139, q_setr (Or.inr (by decide))]; exact z127
        have z151 : q_ir (q_r f139 v0 0) n0 := by rw [ef139, q_setr (Or.inr (by decide))]; exact z128
        have z152 : q_ir (q_r f139 v0 1) l0 := by rw [ef139, q_setr (Or.inr (by decide))]; exact z129
        have z153 : q_ir (q_r f139 v0 2) m0 := by rw [ef139, q_setr (Or.inl (fun q => by rw [q, khist] at kv0; exact absurd kv0 (by decide)))]; exact z130
        have z154 : q_ir (q_r f139 ka 1) v5 := by rw [ef139, q_setr (Or.inr (by decide))]; exact z131
        have z155 : q_ir (q_r f139 v5 0) n5 := by rw [ef139, q_setr (Or.inr (by decide))]; exact z132
        have z156 : q_ir (q_r f139 v5 1) l5 := by rw [ef139, q_setr (Or.inr (by decide))]; exact z133
        have z157 : q_ir (q_r f139 v5 2) m5 := by rw [ef139, q_setr (Or.inl (fun q => by rw [q, khist] at kv5; exact absurd kv5 (by decide)))]; exact z134
        have g158 : tw_hk K L f139 ka A9 D9 S9 := tw_hk_tr g135 (fun a9 h9 k9 i9 => by rw [ef139]; exact q_set_ne (Or.inl (fun q => by rw [q, khist] at k9; exact absurd k9 (by decide))))
        have g159 : tw_vw K L 51 57 63 69 f139 v5 n5 l5 m5 d5 (S9 1) := tw_vw_tr g136 (fun a9 h9 k9 c9 => by rw [ef139, q_setz (Or.inl (fun q => by rw [q, khist] at k9; exact absurd k9 (by decide)))]) (fun a9 h9 k9 c9 => by rw [ef139, q_setz (Or.inl (fun q => by rw [q, khist] at k9; exact absurd k9 (by decide)))]) (fun a9 h9 k9 c9 => by rw [ef139, q_setz (Or.inl (fun q => by rw [q, khist] at k9; exact absurd k9 (by decide)))]) (fun a9 h9 k9 c9 => by rw [ef139, q_setz (Or.inl (fun q => by rw [q, khist] at k9; exact absurd k9 (by decide)))]) (fun i9 => by rw [ef139, q_setr (Or.inl (fun q => by rw [q, khist] at kn5; exact absurd kn5 (by decide)))]) (fun i9 => by rw [ef139, q_setr (Or.inl (fun q => by rw [q, khist] at kl5; exact absurd kl5 (by decide)))]) (fun i9 => by rw [ef139, q_setr (Or.inl (fun q => by rw [q, khist] at km5; exact absurd km5 (by decide)))])
        have g160 : tw_nw K L 57 f139 := tw_nw_tr g137 (fun a9 h9 k9 => by rw [ef139, q_setj (Or.inl (fun q => by rw [q, khist] at k9; exact absurd k9 (by decide)))])
        have g161 : tw_vw K L 10 5 3 4 f139 v0 n0 l0 m0 d0 (tw_cp s0 (S9 1)) := tw_vw_tr g119 (fun a9 h9 k9 c9 => by rw [ef139, q_setz (Or.inl (fun q => by rw [q, khist] at k9; exact absurd k9 (by decide)))]) (fun a9 h9 k9 c9 => by rw [ef139, q_setz (Or.inl (fun q => by rw [q, khist] at k9; exact absurd k9 (by decide)))]) (fun a9 h9 k9 c9 => by rw [ef139, q_setz (Or.inl (fun q => by rw [q, khist] at k9; exact absurd k9 (by decide)))]) (fun a9 h9 k9 c9 => by rw [ef139, q_setz (Or.inl (fun q => by rw [q, khist] at k9; exact absurd k9 (by decide)))]) (fun i9 => by rw [ef139, q_setr (Or.inl (fun q => by rw [q, khist] at kn0; exact absurd kn0 (by decide)))]) (fun i9 => by rw [ef139, q_setr (Or.inl (fun q => by rw [q, khist] at kl0; exact absurd kl0 (by decide)))]) (fun i9 => by rw [ef139, q_setr (Or.inl (fun q => by rw [q, khist] at km0; exact absurd km0 (by decide)))])
        have g162 : tw_nw K L 5 f139 := tw_nw_tr g120 (fun a9 h9 k9 => by rw [ef139, q_setj (Or.inl (fun q => by rw [q, khist] at k9; exact absurd k9 (by decide)))])
        refine q_iconst cx dX2_takeBack_71 ?_
        refine q_zret cx hr hlk hB dX2_takeBack_72 (by decide) (by decide) ?_
        exact ⟨rfl, (Eq.trans z141 (by omega)), z140, z149, z146, z147, z148, g161, g162, g158⟩
  · exact absurd c83 (by omega)
set_option maxHeartbeats 4000000 in
set_option maxRecDepth 100000 in
theorem f_keep_3 (l : Launch) (g : q_G) {K : Nat → Nat} {L : List Nat} (hN : L.Nodup) {f : Nat → va_E} (hT : q_Ty g K L f) (d0 : Nat → Nat) (s0 : tw_S) (A9 : Nat → Nat → Nat) (D9 : Nat → Nat → Nat) (S9 : Nat → tw_S) (hist : Nat) (hhist : hist ∈ L) (khist : K hist = 2) (v0 : Nat) (hv0 : v0 ∈ L) (kv0 : K v0 = 10) (n0 : Nat) (hn0 : n0 ∈ L) (kn0 : K n0 = 110) (l0 : Nat) (hl0 : l0 ∈ L) (kl0 : K l0 = 120) (m0 : Nat) (hm0 : m0 ∈ L) (km0 : K m0 = 130) (ka : Nat) (hka : ka ∈ L) (kka : K ka = 218) (tm : Int) (ltm : 0 ≤ tm) (utm : tm ≤ 9000) (nn : Int) (lnn : 0 ≤ nn) (unn : nn ≤ 10) (ln : Int) (lln : 0 ≤ ln) (uln : ln ≤ 16) (mn : Int) (lmn : 0 ≤ mn) (umn : mn ≤ 61) (my : Int) (lmy : 0 ≤ my) (umy : my ≤ 6) (hf0 : q_is (q_z f v0 11) tm) (hf1 : q_is (q_z f v0 3) nn) (hf2 : q_is (q_z f v0 4) ln) (hf3 : q_is (q_z f v0 5) mn) (hf4 : q_is (q_z f hist 1) 3) (hf5 : q_is (q_z f hist 2) my) (hr0 : q_ir (q_r f hist 0) ka) (hr1 : q_ir (q_r f v0 0) n0) (hr2 : q_ir (q_r f v0 1) l0) (hr3 : q_ir (q_r f v0 2) m0) (hw0 : tw_vw K L 10 5 3 4 f v0 n0 l0 m0 d0 s0) (hz0 : tw_nw K L 5 f) (hhk : tw_hk K L f ka A9 D9 S9) : q_Ct l g K L yX2_keep cX2_keep 2 none 2 43 [.ref hist, .ref v0] f [(2, 1, 2), (53, 3, 12), (59, 0, 8), (65, 0, 4), (71, 0, 7)] (q_Pv (fun (f1 : Nat → va_E) => q_is (q_z f1 hist 1) 4 ∧ (q_is (q_z f1 hist 2) (min 6 (my + 1))) ∧ (tw_hk K L f1 ka A9 D9 (tw_hu S9 3 (tw_cp (S9 3) s0))))) := by
  refine q_ofb (by decide +kernel) hN hT (Nat.le_of_ble_eq_true rfl) ?_
  intro p e s m below meth c ls cx hr hlk hB hl
  have hl : lv_has ls 2 [(0, .ref hist), (1, .ref v0)] := hl
  obtain ⟨H, hH⟩ : ∃ H : Heap, H = s.heap := ⟨_, rfl⟩
  obtain ⟨locs, hlocs⟩ : ∃ z : List Loc, z = [] := ⟨_, rfl⟩
  rw [← hH, ← hlocs] at hB
  rw [← hH, ← hlocs]
  refine q_ald_n cx dX2_keep_0 rfl (lv_at hl 0 rfl) ?_
  refine q_gX2_20 cx hB hhist khist hf4 dX2_keep_1 (fun lb66 ub66 => ?_)
  refine q_iflt (tgt := 19) cx ⟨by decide, by decide⟩ dX2_keep_4 (by decide) (fun c67 => ?_) (fun c67 => ?_)
  · exact absurd c67 (by omega)
  · refine q_ald_n cx dX2_keep_7 rfl (lv_at hl 0 rfl) ?_
    refine q_gX2_20 cx hB hhist khist hf4 dX2_keep_8 (fun lb68 ub68 => ?_)
    refine q_ald_n cx dX2_keep_11 rfl (lv_at hl 0 rfl) ?_
    refine q_gX2_11 cx hB hhist khist hr0 dX2_keep_12 (fun hb69 kb69 => ?_)
    refine q_alen (n := 6) cx hB hka kka (by decide) rfl 8 rfl rfl dX2_keep_15 ?_
    refine q_iclt (tgt := 24) cx ⟨by decide, by decide⟩ ⟨by decide, by decide⟩ dX2_keep_16 (by decide) (fun c70 => ?_) (fun c70 => ?_)
    · obtain ⟨d7, v7, n7, l7, m7, ed9, ⟨hv7, kv7⟩, ⟨hn7, kn7⟩, ⟨hl7, kl7⟩, ⟨hm7, km7⟩, ⟨er0, er1, er2, er3⟩, hw9, hz9⟩ := tw_hk_get hhk 3 (by decide)
      have kv7 : K v7 = 53 := kv7
      have kn7 : K n7 = 203 := kn7
      have kl7 : K l7 = 209 := kl7
      have km7 : K m7 = 215 := km7
      have hw9 : tw_vw K L 53 59 65 71 f v7 n7 l7 m7 d7 (S9 3) := hw9
      have hz9 : tw_nw K L 59 f := hz9
      refine q_ald_n cx dX2_keep_24 rfl (lv_at hl 0 rfl) ?_
      refine q_gX2_11 cx hB hhist khist hr0 dX2_keep_25 (fun hb71 kb71 => ?_)
      refine q_ald_n cx dX2_keep_28 rfl (lv_at hl 0 rfl) ?_
      refine q_gX2_20 cx hB hhist khist hf4 dX2_keep_29 (fun lb72 ub72 => ?_)
      refine q_aald (k2 := 53) (n := 6) cx hB hka kka (by decide) rfl 8 rfl (by decide) rfl (by decide) (by decide) (by decide) rfl er0 dX2_keep_32 (fun hb74 kb74 => ?_)
      refine q_ald_n cx dX2_keep_33 rfl (lv_at hl 1 rfl) ?_
      refine q_cVv (As := [.ref v0]) (rest := []) cx hB (fun _ h => h) hN hv7 kv7 (by decide) rfl (f_vcopy70 l g hN hB.2.1 d7 (S9 3) d0 s0 v7 hv7 kv7 v0 hv0 kv0 n7 hn7 kn7 l7 hl7 kl7 m7 hm7 km7 n0 hn0 kn0 l0 hl0 kl0 m0 hm0 km0 nn (by omega) (by omega) ln (by omega) (by omega) mn (by omega) (by omega) tm (by omega) (by omega) hf1 hf2 hf3 hf0 er1 er2 er3 hr1 hr2 hr3 hw9 hw0 hz9 hz0) q_cX2_23 q_dX10_copyFrom (by decide) rfl rfl hl.1 rfl (Nat.le_of_ble_eq_true rfl) dX2_keep_34 (fun H locs f75 h77 hF hB => ?_)
      obtain ⟨z78, z79, z80, z81, g82, g83⟩ := h77
      have z84 : q_is (q_z f75 v0 11) tm := Eq.trans (hF.z hv0 (by rw [kv0]; rfl)) hf0
      have z85 : q_is (q_z f75 v0 3) nn := Eq.trans (hF.z hv0 (by rw [kv0]; rfl)) hf1
      have z86 : q_is (q_z f75 v0 4) ln := Eq.trans (hF.z hv0 (by rw [kv0]; rfl)) hf2
      have z87 : q_is (q_z f75 v0 5) mn := Eq.trans (hF.z hv0 (by rw [kv0]; rfl)) hf3
      have z88 : q_is (q_z f75 hist 1) 3 := Eq.trans (hF.z hhist (by rw [khist]; rfl)) hf4
      have z89 : q_is (q_z f75 hist 2) my := Eq.trans (hF.z hhist (by rw [khist]; rfl)) hf5
      have z90 : q_ir (q_r f75 hist 0) ka := Eq.trans (hF.r hhist (by rw [khist]; rfl)) hr0
      have z91 : q_ir (q_r f75 v0 0) n0 := Eq.trans (hF.r hv0 (by rw [kv0]; rfl)) hr1
      have z92 : q_ir (q_r f75 v0 1) l0 := Eq.trans (hF.r hv0 (by rw [kv0]; rfl)) hr2
      have z93 : q_ir (q_r f75 v0 2) m0 := Eq.trans (hF.r hv0 (by rw [kv0]; rfl)) hr3
      have z94 : q_ir (q_r f75 ka 3) v7 := Eq.trans (hF.r hka (by rw [kka]; rfl)) er0
      have z95 : q_ir (q_r f75 v7 0) n7 := Eq.trans (hF.r hv7 (by rw [kv7]; rfl)) er1
      have z96 : q_ir (q_r f75 v7 1) l7 := Eq.trans (hF.r hv7 (by rw [kv7]; rfl)) er2
      have z97 : q_ir (q_r f75 v7 2) m7 := Eq.trans (hF.r hv7 (by rw [kv7]; rfl)) er3
      have g98 : tw_vw K L 10 5 3 4 f75 v0 n0 l0 m0 d0 s0 := tw_vw_tr hw0 (fun a9 h9 k9 c9 => hF.z h9 (by rw [k9]; rfl)) (fun a9 h9 k9 c9 => hF.z h9 (by rw [k9]; rfl)) (fun a9 h9 k9 c9 => hF.z h9 (by rw [k9]; rfl)) (fun a9 h9 k9 c9 => hF.z h9 (by rw [k9]; rfl)) (fun i9 => hF.r hn0 (by rw [kn0]; rfl)) (fun i9 => hF.r hl0 (by rw [kl0]; rfl)) (fun i9 => hF.r hm0 (by rw [km0]; rfl))
      have g99 : tw_nw K L 5 f75 := tw_nw_tr hz0 (fun a9 h9 k9 => hF.j h9 (by rw [k9]; rfl))
      have hk9 : tw_hk K L f75 ka A9 D9 (tw_hu S9 3 (tw_cp (S9 3) s0)) := tw_hk_up hhk 3 (by decide) hF rfl ed9 g82 g83
      refine q_ald_n cx dX2_keep_37 rfl (lv_at hl 0 rfl) ?_
      refine lv_dup cx.1 cx.2.1 dX2_keep_38 rfl ?_
      refine q_gX2_20 cx hB hhist khist z88 dX2_keep_39 (fun lb100 ub100 => ?_)
      refine q_iconst cx dX2_keep_42 ?_
      refine q_iadd cx dX2_keep_43 ?_
      refine q_pX2_20 cx hB hhist khist ⟨by decide, by decide⟩ (by decide) (by decide) rfl dX2_keep_44 (fun H locs f101 ef101 z102 hB => ?_)
      have z103 : q_is (q_z f101 v0 11) tm := by rw [ef101, q_setz (Or.inr (by decide))]; exact z84
      have z104 : q_is (q_z f101 v0 3) nn := by rw [ef101, q_setz (Or.inr (by decide))]; exact z85
      have z105 : q_is (q_z f101 v0 4) ln := by rw [ef101, q_setz (Or.inr (by decide))]; exact z86
      have z106 : q_is (q_z f101 v0 5) mn := by rw [ef101, q_setz (Or.inr (by decide))]; exact z87
      have z107 : q_is (q_z f101 hist 2) my := by rw [ef101, q_setz (Or.inr (by decide))]; exact z89
      have z108 : q_ir (q_r f101 hist 0) ka := by rw [ef101, q_setr (Or.inr (by decide))]; exact z90
      have z109 : q_ir (q_r f101 v0 0) n0 := by rw [ef101, q_setr (Or.inr (by decide))]; exact z91
      have z110 : q_ir (q_r f101 v0 1) l0 := by rw [ef101, q_setr (Or.inl (fun q => by rw [q, khist] at kv0; exact absurd kv0 (by decide)))]; exact z92
      have z111 : q_ir (q_r f101 v0 2) m0 := by rw [ef101, q_setr (Or.inr (by decide))]; exact z93
      have g112 : tw_vw K L 10 5 3 4 f101 v0 n0 l0 m0 d0 s0 := tw_vw_tr g98 (fun a9 h9 k9 c9 => by rw [ef101, q_setz (Or.inl (fun q => by rw [q, khist] at k9; exact absurd k9 (by decide)))]) (fun a9 h9 k9 c9 => by rw [ef101, q_setz (Or.inl (fun q => by rw [q, khist] at k9; exact absurd k9 (by decide)))]) (fun a9 h9 k9 c9 => by rw [ef101, q_setz (Or.inl (fun q => by rw [q, khist] at k9; exact absurd k9 (by decide)))]) (fun a9 h9 k9 c9 => by rw [ef101, q_setz (Or.inl (fun q => by rw [q, khist] at k9; exact absurd k9 (by decide)))]) (fun i9 => by rw [ef101, q_setr (Or.inl (fun q => by rw [q, khist] at kn0; exact absurd kn0 (by decide)))]) (fun i9 => by rw [ef101, q_setr (Or.inl (fun q => by rw [q, khist] at kl0; exact absurd kl0 (by decide)))]) (fun i9 => by rw [ef101, q_setr (Or.inl (fun q => by rw [q, khist] at km0; exact absurd km0 (by decide)))])
      have g113 : tw_nw K L 5 f101 := tw_nw_tr g99 (fun a9 h9 k9 => by rw [ef101, q_setj (Or.inl (fun q => by rw [q, khist] at k9; exact absurd k9 (by decide)))])
      have g114 : tw_hk K L f101 ka A9 D9 (tw_hu S9 3 (tw_cp (S9 3) s0)) := tw_hk_tr hk9 (fun a9 h9 k9 i9 => by rw [ef101]; exact q_set_ne (Or.inl (fun q => by rw [q, khist] at k9; exact absurd k9 (by decide))))
      refine q_ald_n cx dX2_keep_47 rfl (lv_at hl 0 rfl) ?_
      refine q_bipush cx dX2_keep_48 rfl ?_
      refine q_ald_n cx dX2_keep_50 rfl (lv_at hl 0 rfl) ?_
      refine q_gX2_16 cx hB hhist khist z107 dX2_keep_51 (fun lb115 ub115 => ?_)
      refine q_iconst cx dX2_keep_54 ?_
      refine q_iadd cx dX2_keep_55 ?_
      refine q_mmin (rest := [.ref hist]) cx hl.1 q_h1383 q_h994 q_h56 q_h995 (by decide) (Nat.le_of_ble_eq_true rfl) (by decide) (by decide) ⟨by decide, by decide⟩ ⟨by omega, by omega⟩ dX2_keep_56 (fun y116 ay116 by116 ey116 => ?_)
      refine q_pX2_16 cx hB hhist khist ⟨by omega, by omega⟩ (by omega) (by omega) rfl dX2_keep_59 (fun H locs f117 ef117 z118 hB => ?_)
      have z119 : q_is (q_z f117 v0 11) tm := by rw [ef117, q_setz (Or.inr (by decide))]; exact z103
      have z120 : q_is (q_z f117 v0 3) nn := by rw [ef117, q_setz (Or.inr (by decide))]; exact z104
      have z121 : q_is (q_z f117 v0 4) ln := by rw [ef117, q_setz (Or.inr (by decide))]; exact z105
      have z122 : q_is (q_z f117 v0 5) mn := by rw [ef117, q_setz (Or.inr (by decide))]; exact z106
      have z123 : q_is (q_z f117 hist 1) (3 + 1) := by rw [ef117, q_setz (Or.inr (by decide))]; exact z102
      have z124 : q_ir (q_r f117 hist 0) ka := by rw [ef117, q_setr (Or.inr (by decide))]; exact z108
      have z125 : q_ir (q_r f117 v0 0) n0 := by rw [ef117, q_setr (Or.inr (by decide))]; exact z109
      have z126 : q_ir (q_r f117 v0 1) l0 := by rw [ef117, q_setr (Or.inr (by decide))]; exact z110
      have z127 : q_ir (q_r f117 v0 2) m0 := by rw [ef117, q_setr (Or.inl (fun q => by rw [q, khist] at kv0; exact absurd kv0 (by decide)))]; exact z111
      have g128 : tw_vw K L 10 5 3 4 f117 v0 n0 l0 m0 d0 s0 := tw_vw_tr g112 (fun a9 h9 k9 c9 => by rw [ef117, q_setz (Or.inl (fun q => by rw [q, khist] at k9; exact absurd k9 (by decide)))]) (fun a9 h9 k9 c9 => by rw [ef117, q_setz (Or.inl (fun q => by rw [q, khist] at k9; exact absurd k9 (by decide)))]) (fun a9 h9 k9 c9 => by rw [ef117, q_setz (Or.inl (fun q => by rw [q, khist] at k9; exact absurd k9 (by decide)))]) (fun a9 h9 k9 c9 => by rw [ef117, q_setz (Or.inl (fun q => by rw [q, khist] at k9; exact absurd k9 (by decide)))]) (fun i9 => by rw [ef117, q_setr (Or.inl (fun q => by rw [q, khist] at kn0; exact absurd kn0 (by decide)))]) (fun i9 => by rw [ef117, q_setr (Or.inl (fun q => by rw [q, khist] at kl0; exact absurd kl0 (by decide)))]) (fun i9 => by rw [ef117, q_setr (Or.inl (fun q => by rw [q, khist] at km0; exact absurd km0 (by decide)))])
      have g129 : tw_nw K L 5 f117 := tw_nw_tr g113 (fun a9 h9 k9 => by rw [ef117, q_setj (Or.inl (fun q => by rw [q, khist] at k9; exact absurd k9 (by decide)))])
      have g130 : tw_hk K L f117 ka A9 D9 (tw_hu S9 3 (tw_cp (S9 3) s0)) := tw_hk_tr g114 (fun a9 h9 k9 i9 => by rw [ef117]; exact q_set_ne (Or.inl (fun q => by rw [q, khist] at k9; exact absurd k9 (by decide))))
      refine q_vret cx hr hlk hB dX2_keep_62 ?_
      exact ⟨(Eq.trans z123 (by omega)), (Eq.trans z118 (by omega)), g130⟩
    · exact absurd c70 (by omega)
set_option maxHeartbeats 4000000 in
set_option maxRecDepth 100000 in
theorem f_takeBack_3 (l : Launch) (g : q_G) {K : Nat → Nat} {L : List Nat} (hN : L.Nodup) {f : Nat → va_E} (hT : q_Ty g K L f) (d0 : Nat → Nat) (s0 : tw_S) (A9 : Nat → Nat → Nat) (D9 : Nat → Nat → Nat) (S9 : Nat → tw_S) (hist : Nat) (hhist : hist ∈ L) (khist : K hist = 2) (v0 : Nat) (hv0 : v0 ∈ L) (kv0 : K v0 = 10) (n0 : Nat) (hn0 : n0 ∈ L) (kn0 : K n0 = 110) (l0 : Nat) (hl0 : l0 ∈ L) (kl0 : K l0 = 120) (m0 : Nat) (hm0 : m0 ∈ L) (km0 : K m0 = 130) (ka : Nat) (hka : ka ∈ L) (kka : K ka = 218) (tm : Int) (ltm : 0 ≤ tm) (utm : tm ≤ 9000) (nn : Int) (lnn : 0 ≤ nn) (unn : nn ≤ 10) (ln : Int) (lln : 0 ≤ ln) (uln : ln ≤ 16) (mn : Int) (lmn : 0 ≤ mn) (umn : mn ≤ 61) (my : Int) (lmy : 1 ≤ my) (umy : my ≤ 6) (tk : Int) (ltk : 0 ≤ tk) (utk : tk ≤ 9000) (nk : Int) (lnk : 0 ≤ nk) (unk : nk ≤ 10) (lk : Int) (llk : 0 ≤ lk) (ulk : lk ≤ 16) (mk : Int) (lmk : 0 ≤ mk) (umk : mk ≤ 61) (hf0 : q_is (q_z f v0 11) tm) (hf1 : q_is (q_z f v0 3) nn) (hf2 : q_is (q_z f v0 4) ln) (hf3 : q_is (q_z f v0 5) mn) (hf4 : q_is (q_z f hist 1) 3) (hf5 : q_is (q_z f hist 2) my) (hr0 : q_ir (q_r f hist 0) ka) (hr1 : q_ir (q_r f v0 0) n0) (hr2 : q_ir (q_r f v0 1) l0) (hr3 : q_ir (q_r f v0 2) m0) (hp0 : (S9 2) 0 11 = tk) (hp1 : (S9 2) 0 3 = nk) (hp2 : (S9 2) 0 4 = lk) (hp3 : (S9 2) 0 5 = mk) (hw0 : tw_vw K L 10 5 3 4 f v0 n0 l0 m0 d0 s0) (hz0 : tw_nw K L 5 f) (hhk : tw_hk K L f ka A9 D9 S9) : q_Ct l g K L yX2_takeBack cX2_takeBack 2 (some .boolean) 2 43 [.ref hist, .ref v0] f [(2, 1, 2), (3, 0, 4), (4, 0, 7), (5, 0, 8), (10, 3, 12)] (q_Pi (fun (z : Int) (f1 : Nat → va_E) => z = 1 ∧ q_is (q_z f1 hist 1) 2 ∧ q_is (q_z f1 hist 2) (my - 1) ∧ q_is (q_z f1 v0 11) tk ∧ q_is (q_z f1 v0 3) nk ∧ q_is (q_z f1 v0 4) lk ∧ q_is (q_z f1 v0 5) mk ∧ (tw_vw K L 10 5 3 4 f1 v0 n0 l0 m0 d0 (tw_cp s0 (S9 2))) ∧ (tw_nw K L 5 f1) ∧ (tw_hk K L f1 ka A9 D9 S9))) := by
  refine q_ofb (by decide +kernel) hN hT (Nat.le_of_ble_eq_true rfl) ?_
  intro p e s m below meth c ls cx hr hlk hB hl
  have hl : lv_has ls 2 [(0, .ref hist), (1, .ref v0)] := hl
  obtain ⟨H, hH⟩ : ∃ H : Heap, H = s.heap := ⟨_, rfl⟩
  obtain ⟨locs, hlocs⟩ : ∃ z : List Loc, z = [] := ⟨_, rfl⟩
  rw [← hH, ← hlocs] at hB
  rw [← hH, ← hlocs]
  refine q_ald_n cx dX2_takeBack_0 rfl (lv_at hl 0 rfl) ?_
  refine q_gX2_16 cx hB hhist khist hf5 dX2_takeBack_1 (fun lb82 ub82 => ?_)
  refine q_ifne (tgt := 9) cx ⟨by omega, by omega⟩ dX2_takeBack_4 (by decide) (fun c83 => ?_) (fun c83 => ?_)
  · refine q_ald_n cx dX2_takeBack_9 rfl (lv_at hl 0 rfl) ?_
    refine q_ald_n cx dX2_takeBack_10 rfl (lv_at hl 0 rfl) ?_
    refine q_gX2_20 cx hB hhist khist hf4 dX2_takeBack_11 (fun lb84 ub84 => ?_)
    refine q_ifle (tgt := 38) cx ⟨by decide, by decide⟩ dX2_takeBack_14 (by decide) (fun c85 => ?_) (fun c85 => ?_)
    · exact absurd c85 (by omega)
    · refine q_ald_n cx dX2_takeBack_17 rfl (lv_at hl 0 rfl) ?_
      refine q_gX2_20 cx hB hhist khist hf4 dX2_takeBack_18 (fun lb86 ub86 => ?_)
      refine q_ald_n cx dX2_takeBack_21 rfl (lv_at hl 0 rfl) ?_
      refine q_gX2_11 cx hB hhist khist hr0 dX2_takeBack_22 (fun hb87 kb87 => ?_)
      refine q_alen (n := 6) cx hB hka kka (by decide) rfl 8 rfl rfl dX2_takeBack_25 ?_
      refine q_icgt (tgt := 38) cx ⟨by decide, by decide⟩ ⟨by decide, by decide⟩ dX2_takeBack_26 (by decide) (fun c88 => ?_) (fun c88 => ?_)
      · exact absurd c88 (by omega)
      · refine q_ald_n cx dX2_takeBack_29 rfl (lv_at hl 0 rfl) ?_
        refine q_gX2_20 cx hB hhist khist hf4 dX2_takeBack_30 (fun lb89 ub89 => ?_)
        refine q_iconst cx dX2_takeBack_33 ?_
        refine q_isub cx dX2_takeBack_34 ?_
        refine lv_goto (tgt := 45) cx.1 cx.2.1 dX2_takeBack_35 (by decide) ?_
        refine q_pX2_20 cx hB hhist khist ⟨by decide, by decide⟩ (by decide) (by decide) rfl dX2_takeBack_45 (fun H locs f90 ef90 z91 hB => ?_)
        have z92 : q_is (q_z f90 v0 11) tm := by rw [ef90, q_setz (Or.inr (by decide))]; exact hf0
        have z93 : q_is (q_z f90 v0 3) nn := by rw [ef90, q_setz (Or.inr (by decide))]; exact hf1
        have z94 : q_is (q_z f90 v0 4) ln := by rw [ef90, q_setz (Or.inr (by decide))]; exact hf2
        have z95 : q_is (q_z f90 v0 5) mn := by rw [ef90, q_setz (Or.inr (by decide))]; exact hf3
        have z96 : q_is (q_z f90 hist 2) my := by rw [ef90, q_setz (Or.inr (by decide))]; exact hf5
        have z97 : q_ir (q_r f90 hist 0) ka := by rw [ef90, q_setr (Or.inr (by decide))]; exact hr0
        have z98 : q_ir (q_r f90 v0 0) n0 := by rw [ef90, q_setr (Or.inr (by decide))]; exact hr1
        have z99 : q_ir (q_r f90 v0 1) l0 := by rw [ef90, q_setr (Or.inl (fun q => by rw [q, khist] at kv0; exact absurd kv0 (by decide)))]; exact hr2
        have z100 : q_ir (q_r f90 v0 2) m0 := by rw [ef90, q_setr (Or.inr (by decide))]; exact hr3
        have g101 : tw_vw K L 10 5 3 4 f90 v0 n0 l0 m0 d0 s0 := tw_vw_tr hw0 (fun a9 h9 k9 c9 => by rw [ef90, q_setz (Or.inl (fun q => by rw [q, khist] at k9; exact absurd k9 (by decide)))]) (fun a9 h9 k9 c9 => by rw [ef90, q_setz (Or.inl (fun q => by rw [q, khist] at k9; exact absurd k9 (by decide)))]) (fun a9 h9 k9 c9 => by rw [ef90, q_setz (Or.inl (fun q => by rw [q, khist] at k9; exact absurd k9 (by decide)))]) (fun a9 h9 k9 c9 => by rw [ef90, q_setz (Or.inl (fun q => by rw [q, khist] at k9; exact absurd k9 (by decide)))]) (fun i9 => by rw [ef90, q_setr (Or.inl (fun q => by rw [q, khist] at kn0; exact absurd kn0 (by decide)))]) (fun i9 => by rw [ef90, q_setr (Or.inl (fun q => by rw [q, khist] at kl0; exact absurd kl0 (by decide)))]) (fun i9 => by rw [ef90, q_setr (Or.inl (fun q => by rw [q, khist] at km0; exact absurd km0 (by decide)))])
        have g102 : tw_nw K L 5 f90 := tw_nw_tr hz0 (fun a9 h9 k9 => by rw [ef90, q_setj (Or.inl (fun q => by rw [q, khist] at k9; exact absurd k9 (by decide)))])
        have g103 : tw_hk K L f90 ka A9 D9 S9 := tw_hk_tr hhk (fun a9 h9 k9 i9 => by rw [ef90]; exact q_set_ne (Or.inl (fun q => by rw [q, khist] at k9; exact absurd k9 (by decide))))
        obtain ⟨d6, v6, n6, l6, m6, ed9, ⟨hv6, kv6⟩, ⟨hn6, kn6⟩, ⟨hl6, kl6⟩, ⟨hm6, km6⟩, ⟨er0, er1, er2, er3⟩, hw9, hz9⟩ := tw_hk_get g103 2 (by decide)
        have kv6 : K v6 = 52 := kv6
        have kn6 : K n6 = 202 := kn6
        have kl6 : K l6 = 208 := kl6
        have km6 : K m6 = 214 := km6
        have hw9 : tw_vw K L 52 58 64 70 f90 v6 n6 l6 m6 d6 (S9 2) := hw9
        have hz9 : tw_nw K L 58 f90 := hz9
        have z104 : q_is (q_z f90 v6 11) tk := tw_kf hw9 (by decide) hp0
        have z105 : q_is (q_z f90 v6 3) nk := tw_kf hw9 (by decide) hp1
        have z106 : q_is (q_z f90 v6 4) lk := tw_kf hw9 (by decide) hp2
        have z107 : q_is (q_z f90 v6 5) mk := tw_kf hw9 (by decide) hp3
        refine q_ald_n cx dX2_takeBack_48 rfl (lv_at hl 1 rfl) ?_
        refine q_ald_n cx dX2_takeBack_49 rfl (lv_at hl 0 rfl) ?_
        refine q_gX2_11 cx hB hhist khist z97 dX2_takeBack_50 (fun hb108 kb108 => ?_)
        refine q_ald_n cx dX2_takeBack_53 rfl (lv_at hl 0 rfl) ?_
        refine q_gX2_20 cx hB hhist khist z91 dX2_takeBack_54 (fun lb109 ub109 => ?_)
        refine q_aald (k2 := 52) (n := 6) cx hB hka kka (by decide) rfl 8 rfl (by decide) rfl (by decide) (by decide) (by decide) rfl er0 dX2_takeBack_57 (fun hb111 kb111 => ?_)
        refine q_cVv (As := [.ref v6]) (rest := []) cx hB (fun _ h => h) hN hv0 kv0 (by decide) rfl (f_vcopy06 l g hN hB.2.1 d0 s0 d6 (S9 2) v0 hv0 kv0 v6 hv6 kv6 n0 hn0 kn0 l0 hl0 kl0 m0 hm0 km0 n6 hn6 kn6 l6 hl6 kl6 m6 hm6 km6 nk (by omega) (by omega) lk (by omega) (by omega) mk (by omega) (by omega) tk (by omega) (by omega) z105 z106 z107 z104 z98 z99 z100 er1 er2 er3 g101 hw9 g102 hz9) q_cX2_23 q_dX10_copyFrom (by decide) rfl rfl hl.1 rfl (Nat.le_of_ble_eq_true rfl) dX2_takeBack_58 (fun H locs f112 h114 hF hB => ?_)
        obtain ⟨z115, z116, z117, z118, g119, g120⟩ := h114
        have z121 : q_is (q_z f112 hist 2) my := Eq.trans (hF.z hhist (by rw [khist]; rfl)) z96
        have z122 : q_is (q_z f112 hist 1) (3 - 1) := Eq.trans (hF.z hhist (by rw [khist]; rfl)) z91
        have z123 : q_is (q_z f112 v6 11) tk := Eq.trans (hF.z hv6 (by rw [kv6]; rfl)) z104
        have z124 : q_is (q_z f112 v6 3) nk := Eq.trans (hF.z hv6 (by rw [kv6]; rfl)) z105
        have z125 : q_is (q_z f112 v6 4) lk := Eq.trans (hF.z hv6 (by rw [kv6]; rfl)) z106
        have z126 : q_is (q_z f112 v6 5) mk := Eq.trans (hF.z hv6 (by rw [kv6]; rfl)) z107
        have z127 : q_ir (q_r f112 hist 0) ka := Eq.trans (hF.r hhist (by rw [khist]; rfl)) z97
        have z128 : q_ir (q_r f112 v0 0) n0 := Eq.trans (hF.r hv0 (by rw [kv0]; rfl)) z98
        have z129 : q_ir (q_r f112 v0 1) l0 := Eq.trans (hF.r hv0 (by rw [kv0]; rfl)) z99
        have z130 : q_ir (q_r f112 v0 2) m0 := Eq.trans (hF.r hv0 (by rw [kv0]; rfl)) z100
        have z131 : q_ir (q_r f112 ka 2) v6 := Eq.trans (hF.r hka (by rw [kka]; rfl)) er0
        have z132 : q_ir (q_r f112 v6 0) n6 := Eq.trans (hF.r hv6 (by rw [kv6]; rfl)) er1
        have z133 : q_ir (q_r f112 v6 1) l6 := Eq.trans (hF.r hv6 (by rw [kv6]; rfl)) er2
        have z134 : q_ir (q_r f112 v6 2) m6 := Eq.trans (hF.r hv6 (by rw [kv6]; rfl)) er3
        have g135 : tw_hk K L f112 ka A9 D9 S9 := tw_hk_tr g103 (fun a9 h9 k9 i9 => hF a9 h9 i9 (tw_krw rfl k9))
        have g136 : tw_vw K L 52 58 64 70 f112 v6 n6 l6 m6 d6 (S9 2) := tw_vw_tr hw9 (fun a9 h9 k9 c9 => hF.z h9 (by rw [k9]; rfl)) (fun a9 h9 k9 c9 => hF.z h9 (by rw [k9]; rfl)) (fun a9 h9 k9 c9 => hF.z h9 (by rw [k9]; rfl)) (fun a9 h9 k9 c9 => hF.z h9 (by rw [k9]; rfl)) (fun i9 => hF.r hn6 (by rw [kn6]; rfl)) (fun i9 => hF.r hl6 (by rw [kl6]; rfl)) (fun i9 => hF.r hm6 (by rw [km6]; rfl))
        have g137 : tw_nw K L 58 f112 := tw_nw_tr hz9 (fun a9 h9 k9 => hF.j h9 (by rw [k9]; rfl))
        refine q_ald_n cx dX2_takeBack_61 rfl (lv_at hl 0 rfl) ?_
        refine lv_dup cx.1 cx.2.1 dX2_takeBack_62 rfl ?_
        refine q_gX2_16 cx hB hhist khist z121 dX2_takeBack_63 (fun lb138 ub138 => ?_)
        refine q_iconst cx dX2_takeBack_66 ?_
        refine q_isub cx dX2_takeBack_67 ?_
        refine q_pX2_16 cx hB hhist khist ⟨by omega, by omega⟩ (by omega) (by omega) rfl dX2_takeBack_68 (fun H locs f139 ef139 z140 hB => ?_)
        have z141 : q_is (q_z f139 hist 1) (3 - 1) := by rw [ef139, q_setz (Or.inr (by decide))]; exact z122
        have z142 : q_is (q_z f139 v6 11) tk := by rw [ef139, q_setz (Or.inr (by decide))]; exact z123
        have z143 : q_is (q_z f139 v6 3) nk := by rw [ef139, q_setz (Or.inr (by decide))]; exact z124
        have z144 : q_is (q_z f139 v6 4) lk := by rw [ef139, q_setz (Or.inr (by decide))]; exact z125
        have z145 : q_is (q_z f139 v6 5) mk := by rw [ef139, q_setz (Or.inr (by decide))]; exact z126
        have z146 : q_is (q_z f139 v0 3) nk := by rw [ef139, q_setz (Or.inr (by decide))]; exact z115
        have z147 : q_is (q_z f139 v0 4) lk := by rw [ef139, q_setz (Or.inr (by decide))]; exact z116
        have z148 : q_is (q_z f139 v0 5) mk := by rw [ef139, q_setz (Or.inr (by decide))]; exact z117
        have z149 : q_is (q_z f139 v0 11) tk := by rw [ef139, q_setz (Or.inr (by decide))]; exact z118
        have z150 : q_ir (q_r f139 hist 0) ka := by rw [ef139, q_setr (Or.inr (by decide))]; exact z127
        have z151 : q_ir (q_r f139 v0 0) n0 := by rw [ef139, q_setr (Or.inr (by decide))]; exact z128
        have z152 : q_ir (q_r f139 v0 1) l0 := by rw [ef139, q_setr (Or.inr (by decide))]; exact z129
        have z153 : q_ir (q_r f139 v0 2) m0 := by rw [ef139, q_setr (Or.inl (fun q => by rw [q, khist] at kv0; exact absurd kv0 (by decide)))]; exact z130
        have z154 : q_ir (q_r f139 ka 2) v6 := by rw [ef139, q_setr (Or.inl (fun q => by rw [q, khist] at kka; exact absurd kka (by decide)))]; exact z131
        have z155 : q_ir (q_r f139 v6 0) n6 := by rw [ef139, q_setr (Or.inr (by decide))]; exact z132
        have z156 : q_ir (q_r f139 v6 1) l6 := by rw [ef139, q_setr (Or.inr (by decide))]; exact z133
        have z157 : q_ir (q_r f139 v6 2) m6 := by rw [ef139, q_setr (Or.inl (fun q => by rw [q, khist] at kv6; exact absurd kv6 (by decide)))]; exact z134
        have g158 : tw_hk K L f139 ka A9 D9 S9 := tw_hk_tr g135 (fun a9 h9 k9 i9 => by rw [ef139]; exact q_set_ne (Or.inl (fun q => by rw [q, khist] at k9; exact absurd k9 (by decide))))
        have g159 : tw_vw K L 52 58 64 70 f139 v6 n6 l6 m6 d6 (S9 2) := tw_vw_tr g136 (fun a9 h9 k9 c9 => by rw [ef139, q_setz (Or.inl (fun q => by rw [q, khist] at k9; exact absurd k9 (by decide)))]) (fun a9 h9 k9 c9 => by rw [ef139, q_setz (Or.inl (fun q => by rw [q, khist] at k9; exact absurd k9 (by decide)))]) (fun a9 h9 k9 c9 => by rw [ef139, q_setz (Or.inl (fun q => by rw [q, khist] at k9; exact absurd k9 (by decide)))]) (fun a9 h9 k9 c9 => by rw [ef139, q_setz (Or.inl (fun q => by rw [q, khist] at k9; exact absurd k9 (by decide)))]) (fun i9 => by rw [ef139, q_setr (Or.inl (fun q => by rw [q, khist] at kn6; exact absurd kn6 (by decide)))]) (fun i9 => by rw [ef139, q_setr (Or.inl (fun q => by rw [q, khist] at kl6; exact absurd kl6 (by decide)))]) (fun i9 => by rw [ef139, q_setr (Or.inl (fun q => by rw [q, khist] at km6; exact absurd km6 (by decide)))])
        have g160 : tw_nw K L 58 f139 := tw_nw_tr g137 (fun a9 h9 k9 => by rw [ef139, q_setj (Or.inl (fun q => by rw [q, khist] at k9; exact absurd k9 (by decide)))])
        have g161 : tw_vw K L 10 5 3 4 f139 v0 n0 l0 m0 d0 (tw_cp s0 (S9 2)) := tw_vw_tr g119 (fun a9 h9 k9 c9 => by rw [ef139, q_setz (Or.inl (fun q => by rw [q, khist] at k9; exact absurd k9 (by decide)))]) (fun a9 h9 k9 c9 => by rw [ef139, q_setz (Or.inl (fun q => by rw [q, khist] at k9; exact absurd k9 (by decide)))]) (fun a9 h9 k9 c9 => by rw [ef139, q_setz (Or.inl (fun q => by rw [q, khist] at k9; exact absurd k9 (by decide)))]) (fun a9 h9 k9 c9 => by rw [ef139, q_setz (Or.inl (fun q => by rw [q, khist] at k9; exact absurd k9 (by decide)))]) (fun i9 => by rw [ef139, q_setr (Or.inl (fun q => by rw [q, khist] at kn0; exact absurd kn0 (by decide)))]) (fun i9 => by rw [ef139, q_setr (Or.inl (fun q => by rw [q, khist] at kl0; exact absurd kl0 (by decide)))]) (fun i9 => by rw [ef139, q_setr (Or.inl (fun q => by rw [q, khist] at km0; exact absurd km0 (by decide)))])
        have g162 : tw_nw K L 5 f139 := tw_nw_tr g120 (fun a9 h9 k9 => by rw [ef139, q_setj (Or.inl (fun q => by rw [q, khist] at k9; exact absurd k9 (by decide)))])
        refine q_iconst cx dX2_takeBack_71 ?_
        refine q_zret cx hr hlk hB dX2_takeBack_72 (by decide) (by decide) ?_
        exact ⟨rfl, (Eq.trans z141 (by omega)), z140, z149, z146, z147, z148, g161, g162, g158⟩
  · exact absurd c83 (by omega)
set_option maxHeartbeats 4000000 in
set_option maxRecDepth 100000 in
theorem f_keep_4 (l : Launch) (g : q_G) {K : Nat → Nat} {L : List Nat} (hN : L.Nodup) {f : Nat → va_E} (hT : q_Ty g K L f) (d0 : Nat → Nat) (s0 : tw_S) (A9 : Nat → Nat → Nat) (D9 : Nat → Nat → Nat) (S9 : Nat → tw_S) (hist : Nat) (hhist : hist ∈ L) (khist : K hist = 2) (v0 : Nat) (hv0 : v0 ∈ L) (kv0 : K v0 = 10) (n0 : Nat) (hn0 : n0 ∈ L) (kn0 : K n0 = 110) (l0 : Nat) (hl0 : l0 ∈ L) (kl0 : K l0 = 120) (m0 : Nat) (hm0 : m0 ∈ L) (km0 : K m0 = 130) (ka : Nat) (hka : ka ∈ L) (kka : K ka = 218) (tm : Int) (ltm : 0 ≤ tm) (utm : tm ≤ 9000) (nn : Int) (lnn : 0 ≤ nn) (unn : nn ≤ 10) (ln : Int) (lln : 0 ≤ ln) (uln : ln ≤ 16) (mn : Int) (lmn : 0 ≤ mn) (umn : mn ≤ 61) (my : Int) (lmy : 0 ≤ my) (umy : my ≤ 6) (hf0 : q_is (q_z f v0 11) tm) (hf1 : q_is (q_z f v0 3) nn) (hf2 : q_is (q_z f v0 4) ln) (hf3 : q_is (q_z f v0 5) mn) (hf4 : q_is (q_z f hist 1) 4) (hf5 : q_is (q_z f hist 2) my) (hr0 : q_ir (q_r f hist 0) ka) (hr1 : q_ir (q_r f v0 0) n0) (hr2 : q_ir (q_r f v0 1) l0) (hr3 : q_ir (q_r f v0 2) m0) (hw0 : tw_vw K L 10 5 3 4 f v0 n0 l0 m0 d0 s0) (hz0 : tw_nw K L 5 f) (hhk : tw_hk K L f ka A9 D9 S9) : q_Ct l g K L yX2_keep cX2_keep 2 none 2 43 [.ref hist, .ref v0] f [(2, 1, 2), (54, 3, 12), (60, 0, 8), (66, 0, 4), (72, 0, 7)] (q_Pv (fun (f1 : Nat → va_E) => q_is (q_z f1 hist 1) 5 ∧ (q_is (q_z f1 hist 2) (min 6 (my + 1))) ∧ (tw_hk K L f1 ka A9 D9 (tw_hu S9 4 (tw_cp (S9 4) s0))))) := by
  refine q_ofb (by decide +kernel) hN hT (Nat.le_of_ble_eq_true rfl) ?_
  intro p e s m below meth c ls cx hr hlk hB hl
  have hl : lv_has ls 2 [(0, .ref hist), (1, .ref v0)] := hl
  obtain ⟨H, hH⟩ : ∃ H : Heap, H = s.heap := ⟨_, rfl⟩
  obtain ⟨locs, hlocs⟩ : ∃ z : List Loc, z = [] := ⟨_, rfl⟩
  rw [← hH, ← hlocs] at hB
  rw [← hH, ← hlocs]
  refine q_ald_n cx dX2_keep_0 rfl (lv_at hl 0 rfl) ?_
  refine q_gX2_20 cx hB hhist khist hf4 dX2_keep_1 (fun lb66 ub66 => ?_)
  refine q_iflt (tgt := 19) cx ⟨by decide, by decide⟩ dX2_keep_4 (by decide) (fun c67 => ?_) (fun c67 => ?_)
  · exact absurd c67 (by omega)
  · refine q_ald_n cx dX2_keep_7 rfl (lv_at hl 0 rfl) ?_
    refine q_gX2_20 cx hB hhist khist hf4 dX2_keep_8 (fun lb68 ub68 => ?_)
    refine q_ald_n cx dX2_keep_11 rfl (lv_at hl 0 rfl) ?_
    refine q_gX2_11 cx hB hhist khist hr0 dX2_keep_12 (fun hb69 kb69 => ?_)
    refine q_alen (n := 6) cx hB hka kka (by decide) rfl 8 rfl rfl dX2_keep_15 ?_
    refine q_iclt (tgt := 24) cx ⟨by decide, by decide⟩ ⟨by decide, by decide⟩ dX2_keep_16 (by decide) (fun c70 => ?_) (fun c70 => ?_)
    · obtain ⟨d8, v8, n8, l8, m8, ed9, ⟨hv8, kv8⟩, ⟨hn8, kn8⟩, ⟨hl8, kl8⟩, ⟨hm8, km8⟩, ⟨er0, er1, er2, er3⟩, hw9, hz9⟩ := tw_hk_get hhk 4 (by decide)
      have kv8 : K v8 = 54 := kv8
      have kn8 : K n8 = 204 := kn8
      have kl8 : K l8 = 210 := kl8
      have km8 : K m8 = 216 := km8
      have hw9 : tw_vw K L 54 60 66 72 f v8 n8 l8 m8 d8 (S9 4) := hw9
      have hz9 : tw_nw K L 60 f := hz9
      refine q_ald_n cx dX2_keep_24 rfl (lv_at hl 0 rfl) ?_
      refine q_gX2_11 cx hB hhist khist hr0 dX2_keep_25 (fun hb71 kb71 => ?_)
      refine q_ald_n cx dX2_keep_28 rfl (lv_at hl 0 rfl) ?_
      refine q_gX2_20 cx hB hhist khist hf4 dX2_keep_29 (fun lb72 ub72 => ?_)
      refine q_aald (k2 := 54) (n := 6) cx hB hka kka (by decide) rfl 8 rfl (by decide) rfl (by decide) (by decide) (by decide) rfl er0 dX2_keep_32 (fun hb74 kb74 => ?_)
      refine q_ald_n cx dX2_keep_33 rfl (lv_at hl 1 rfl) ?_
      refine q_cVv (As := [.ref v0]) (rest := []) cx hB (fun _ h => h) hN hv8 kv8 (by decide) rfl (f_vcopy80 l g hN hB.2.1 d8 (S9 4) d0 s0 v8 hv8 kv8 v0 hv0 kv0 n8 hn8 kn8 l8 hl8 kl8 m8 hm8 km8 n0 hn0 kn0 l0 hl0 kl0 m0 hm0 km0 nn (by omega) (by omega) ln (by omega) (by omega) mn (by omega) (by omega) tm (by omega) (by omega) hf1 hf2 hf3 hf0 er1 er2 er3 hr1 hr2 hr3 hw9 hw0 hz9 hz0) q_cX2_23 q_dX10_copyFrom (by decide) rfl rfl hl.1 rfl (Nat.le_of_ble_eq_true rfl) dX2_keep_34 (fun H locs f75 h77 hF hB => ?_)
      obtain ⟨z78, z79, z80, z81, g82, g83⟩ := h77
      have z84 : q_is (q_z f75 v0 11) tm := Eq.trans (hF.z hv0 (by rw [kv0]; rfl)) hf0
      have z85 : q_is (q_z f75 v0 3) nn := Eq.trans (hF.z hv0 (by rw [kv0]; rfl)) hf1
      have z86 : q_is (q_z f75 v0 4) ln := Eq.trans (hF.z hv0 (by rw [kv0]; rfl)) hf2
      have z87 : q_is (q_z f75 v0 5) mn := Eq.trans (hF.z hv0 (by rw [kv0]; rfl)) hf3
      have z88 : q_is (q_z f75 hist 1) 4 := Eq.trans (hF.z hhist (by rw [khist]; rfl)) hf4
      have z89 : q_is (q_z f75 hist 2) my := Eq.trans (hF.z hhist (by rw [khist]; rfl)) hf5
      have z90 : q_ir (q_r f75 hist 0) ka := Eq.trans (hF.r hhist (by rw [khist]; rfl)) hr0
      have z91 : q_ir (q_r f75 v0 0) n0 := Eq.trans (hF.r hv0 (by rw [kv0]; rfl)) hr1
      have z92 : q_ir (q_r f75 v0 1) l0 := Eq.trans (hF.r hv0 (by rw [kv0]; rfl)) hr2
      have z93 : q_ir (q_r f75 v0 2) m0 := Eq.trans (hF.r hv0 (by rw [kv0]; rfl)) hr3
      have z94 : q_ir (q_r f75 ka 4) v8 := Eq.trans (hF.r hka (by rw [kka]; rfl)) er0
      have z95 : q_ir (q_r f75 v8 0) n8 := Eq.trans (hF.r hv8 (by rw [kv8]; rfl)) er1
      have z96 : q_ir (q_r f75 v8 1) l8 := Eq.trans (hF.r hv8 (by rw [kv8]; rfl)) er2
      have z97 : q_ir (q_r f75 v8 2) m8 := Eq.trans (hF.r hv8 (by rw [kv8]; rfl)) er3
      have g98 : tw_vw K L 10 5 3 4 f75 v0 n0 l0 m0 d0 s0 := tw_vw_tr hw0 (fun a9 h9 k9 c9 => hF.z h9 (by rw [k9]; rfl)) (fun a9 h9 k9 c9 => hF.z h9 (by rw [k9]; rfl)) (fun a9 h9 k9 c9 => hF.z h9 (by rw [k9]; rfl)) (fun a9 h9 k9 c9 => hF.z h9 (by rw [k9]; rfl)) (fun i9 => hF.r hn0 (by rw [kn0]; rfl)) (fun i9 => hF.r hl0 (by rw [kl0]; rfl)) (fun i9 => hF.r hm0 (by rw [km0]; rfl))
      have g99 : tw_nw K L 5 f75 := tw_nw_tr hz0 (fun a9 h9 k9 => hF.j h9 (by rw [k9]; rfl))
      have hk9 : tw_hk K L f75 ka A9 D9 (tw_hu S9 4 (tw_cp (S9 4) s0)) := tw_hk_up hhk 4 (by decide) hF rfl ed9 g82 g83
      refine q_ald_n cx dX2_keep_37 rfl (lv_at hl 0 rfl) ?_
      refine lv_dup cx.1 cx.2.1 dX2_keep_38 rfl ?_
      refine q_gX2_20 cx hB hhist khist z88 dX2_keep_39 (fun lb100 ub100 => ?_)
      refine q_iconst cx dX2_keep_42 ?_
      refine q_iadd cx dX2_keep_43 ?_
      refine q_pX2_20 cx hB hhist khist ⟨by decide, by decide⟩ (by decide) (by decide) rfl dX2_keep_44 (fun H locs f101 ef101 z102 hB => ?_)
      have z103 : q_is (q_z f101 v0 11) tm := by rw [ef101, q_setz (Or.inr (by decide))]; exact z84
      have z104 : q_is (q_z f101 v0 3) nn := by rw [ef101, q_setz (Or.inr (by decide))]; exact z85
      have z105 : q_is (q_z f101 v0 4) ln := by rw [ef101, q_setz (Or.inr (by decide))]; exact z86
      have z106 : q_is (q_z f101 v0 5) mn := by rw [ef101, q_setz (Or.inr (by decide))]; exact z87
      have z107 : q_is (q_z f101 hist 2) my := by rw [ef101, q_setz (Or.inr (by decide))]; exact z89
      have z108 : q_ir (q_r f101 hist 0) ka := by rw [ef101, q_setr (Or.inr (by decide))]; exact z90
      have z109 : q_ir (q_r f101 v0 0) n0 := by rw [ef101, q_setr (Or.inr (by decide))]; exact z91
      have z110 : q_ir (q_r f101 v0 1) l0 := by rw [ef101, q_setr (Or.inl (fun q => by rw [q, khist] at kv0; exact absurd kv0 (by decide)))]; exact z92
      have z111 : q_ir (q_r f101 v0 2) m0 := by rw [ef101, q_setr (Or.inr (by decide))]; exact z93
      have g112 : tw_vw K L 10 5 3 4 f101 v0 n0 l0 m0 d0 s0 := tw_vw_tr g98 (fun a9 h9 k9 c9 => by rw [ef101, q_setz (Or.inl (fun q => by rw [q, khist] at k9; exact absurd k9 (by decide)))]) (fun a9 h9 k9 c9 => by rw [ef101, q_setz (Or.inl (fun q => by rw [q, khist] at k9; exact absurd k9 (by decide)))]) (fun a9 h9 k9 c9 => by rw [ef101, q_setz (Or.inl (fun q => by rw [q, khist] at k9; exact absurd k9 (by decide)))]) (fun a9 h9 k9 c9 => by rw [ef101, q_setz (Or.inl (fun q => by rw [q, khist] at k9; exact absurd k9 (by decide)))]) (fun i9 => by rw [ef101, q_setr (Or.inl (fun q => by rw [q, khist] at kn0; exact absurd kn0 (by decide)))]) (fun i9 => by rw [ef101, q_setr (Or.inl (fun q => by rw [q, khist] at kl0; exact absurd kl0 (by decide)))]) (fun i9 => by rw [ef101, q_setr (Or.inl (fun q => by rw [q, khist] at km0; exact absurd km0 (by decide)))])
      have g113 : tw_nw K L 5 f101 := tw_nw_tr g99 (fun a9 h9 k9 => by rw [ef101, q_setj (Or.inl (fun q => by rw [q, khist] at k9; exact absurd k9 (by decide)))])
      have g114 : tw_hk K L f101 ka A9 D9 (tw_hu S9 4 (tw_cp (S9 4) s0)) := tw_hk_tr hk9 (fun a9 h9 k9 i9 => by rw [ef101]; exact q_set_ne (Or.inl (fun q => by rw [q, khist] at k9; exact absurd k9 (by decide))))
      refine q_ald_n cx dX2_keep_47 rfl (lv_at hl 0 rfl) ?_
      refine q_bipush cx dX2_keep_48 rfl ?_
      refine q_ald_n cx dX2_keep_50 rfl (lv_at hl 0 rfl) ?_
      refine q_gX2_16 cx hB hhist khist z107 dX2_keep_51 (fun lb115 ub115 => ?_)
      refine q_iconst cx dX2_keep_54 ?_
      refine q_iadd cx dX2_keep_55 ?_
      refine q_mmin (rest := [.ref hist]) cx hl.1 q_h1383 q_h994 q_h56 q_h995 (by decide) (Nat.le_of_ble_eq_true rfl) (by decide) (by decide) ⟨by decide, by decide⟩ ⟨by omega, by omega⟩ dX2_keep_56 (fun y116 ay116 by116 ey116 => ?_)
      refine q_pX2_16 cx hB hhist khist ⟨by omega, by omega⟩ (by omega) (by omega) rfl dX2_keep_59 (fun H locs f117 ef117 z118 hB => ?_)
      have z119 : q_is (q_z f117 v0 11) tm := by rw [ef117, q_setz (Or.inr (by decide))]; exact z103
      have z120 : q_is (q_z f117 v0 3) nn := by rw [ef117, q_setz (Or.inr (by decide))]; exact z104
      have z121 : q_is (q_z f117 v0 4) ln := by rw [ef117, q_setz (Or.inr (by decide))]; exact z105
      have z122 : q_is (q_z f117 v0 5) mn := by rw [ef117, q_setz (Or.inr (by decide))]; exact z106
      have z123 : q_is (q_z f117 hist 1) (4 + 1) := by rw [ef117, q_setz (Or.inr (by decide))]; exact z102
      have z124 : q_ir (q_r f117 hist 0) ka := by rw [ef117, q_setr (Or.inr (by decide))]; exact z108
      have z125 : q_ir (q_r f117 v0 0) n0 := by rw [ef117, q_setr (Or.inr (by decide))]; exact z109
      have z126 : q_ir (q_r f117 v0 1) l0 := by rw [ef117, q_setr (Or.inr (by decide))]; exact z110
      have z127 : q_ir (q_r f117 v0 2) m0 := by rw [ef117, q_setr (Or.inl (fun q => by rw [q, khist] at kv0; exact absurd kv0 (by decide)))]; exact z111
      have g128 : tw_vw K L 10 5 3 4 f117 v0 n0 l0 m0 d0 s0 := tw_vw_tr g112 (fun a9 h9 k9 c9 => by rw [ef117, q_setz (Or.inl (fun q => by rw [q, khist] at k9; exact absurd k9 (by decide)))]) (fun a9 h9 k9 c9 => by rw [ef117, q_setz (Or.inl (fun q => by rw [q, khist] at k9; exact absurd k9 (by decide)))]) (fun a9 h9 k9 c9 => by rw [ef117, q_setz (Or.inl (fun q => by rw [q, khist] at k9; exact absurd k9 (by decide)))]) (fun a9 h9 k9 c9 => by rw [ef117, q_setz (Or.inl (fun q => by rw [q, khist] at k9; exact absurd k9 (by decide)))]) (fun i9 => by rw [ef117, q_setr (Or.inl (fun q => by rw [q, khist] at kn0; exact absurd kn0 (by decide)))]) (fun i9 => by rw [ef117, q_setr (Or.inl (fun q => by rw [q, khist] at kl0; exact absurd kl0 (by decide)))]) (fun i9 => by rw [ef117, q_setr (Or.inl (fun q => by rw [q, khist] at km0; exact absurd km0 (by decide)))])
      have g129 : tw_nw K L 5 f117 := tw_nw_tr g113 (fun a9 h9 k9 => by rw [ef117, q_setj (Or.inl (fun q => by rw [q, khist] at k9; exact absurd k9 (by decide)))])
      have g130 : tw_hk K L f117 ka A9 D9 (tw_hu S9 4 (tw_cp (S9 4) s0)) := tw_hk_tr g114 (fun a9 h9 k9 i9 => by rw [ef117]; exact q_set_ne (Or.inl (fun q => by rw [q, khist] at k9; exact absurd k9 (by decide))))
      refine q_vret cx hr hlk hB dX2_keep_62 ?_
      exact ⟨(Eq.trans z123 (by omega)), (Eq.trans z118 (by omega)), g130⟩
    · exact absurd c70 (by omega)
set_option maxHeartbeats 4000000 in
set_option maxRecDepth 100000 in
theorem f_takeBack_4 (l : Launch) (g : q_G) {K : Nat → Nat} {L : List Nat} (hN : L.Nodup) {f : Nat → va_E} (hT : q_Ty g K L f) (d0 : Nat → Nat) (s0 : tw_S) (A9 : Nat → Nat → Nat) (D9 : Nat → Nat → Nat) (S9 : Nat → tw_S) (hist : Nat) (hhist : hist ∈ L) (khist : K hist = 2) (v0 : Nat) (hv0 : v0 ∈ L) (kv0 : K v0 = 10) (n0 : Nat) (hn0 : n0 ∈ L) (kn0 : K n0 = 110) (l0 : Nat) (hl0 : l0 ∈ L) (kl0 : K l0 = 120) (m0 : Nat) (hm0 : m0 ∈ L) (km0 : K m0 = 130) (ka : Nat) (hka : ka ∈ L) (kka : K ka = 218) (tm : Int) (ltm : 0 ≤ tm) (utm : tm ≤ 9000) (nn : Int) (lnn : 0 ≤ nn) (unn : nn ≤ 10) (ln : Int) (lln : 0 ≤ ln) (uln : ln ≤ 16) (mn : Int) (lmn : 0 ≤ mn) (umn : mn ≤ 61) (my : Int) (lmy : 1 ≤ my) (umy : my ≤ 6) (tk : Int) (ltk : 0 ≤ tk) (utk : tk ≤ 9000) (nk : Int) (lnk : 0 ≤ nk) (unk : nk ≤ 10) (lk : Int) (llk : 0 ≤ lk) (ulk : lk ≤ 16) (mk : Int) (lmk : 0 ≤ mk) (umk : mk ≤ 61) (hf0 : q_is (q_z f v0 11) tm) (hf1 : q_is (q_z f v0 3) nn) (hf2 : q_is (q_z f v0 4) ln) (hf3 : q_is (q_z f v0 5) mn) (hf4 : q_is (q_z f hist 1) 4) (hf5 : q_is (q_z f hist 2) my) (hr0 : q_ir (q_r f hist 0) ka) (hr1 : q_ir (q_r f v0 0) n0) (hr2 : q_ir (q_r f v0 1) l0) (hr3 : q_ir (q_r f v0 2) m0) (hp0 : (S9 3) 0 11 = tk) (hp1 : (S9 3) 0 3 = nk) (hp2 : (S9 3) 0 4 = lk) (hp3 : (S9 3) 0 5 = mk) (hw0 : tw_vw K L 10 5 3 4 f v0 n0 l0 m0 d0 s0) (hz0 : tw_nw K L 5 f) (hhk : tw_hk K L f ka A9 D9 S9) : q_Ct l g K L yX2_takeBack cX2_takeBack 2 (some .boolean) 2 43 [.ref hist, .ref v0] f [(2, 1, 2), (3, 0, 4), (4, 0, 7), (5, 0, 8), (10, 3, 12)] (q_Pi (fun (z : Int) (f1 : Nat → va_E) => z = 1 ∧ q_is (q_z f1 hist 1) 3 ∧ q_is (q_z f1 hist 2) (my - 1) ∧ q_is (q_z f1 v0 11) tk ∧ q_is (q_z f1 v0 3) nk ∧ q_is (q_z f1 v0 4) lk ∧ q_is (q_z f1 v0 5) mk ∧ (tw_vw K L 10 5 3 4 f1 v0 n0 l0 m0 d0 (tw_cp s0 (S9 3))) ∧ (tw_nw K L 5 f1) ∧ (tw_hk K L f1 ka A9 D9 S9))) := by
  refine q_ofb (by decide +kernel) hN hT (Nat.le_of_ble_eq_true rfl) ?_
  intro p e s m below meth c ls cx hr hlk hB hl
  have hl : lv_has ls 2 [(0, .ref hist), (1, .ref v0)] := hl
  obtain ⟨H, hH⟩ : ∃ H : Heap, H = s.heap := ⟨_, rfl⟩
  obtain ⟨locs, hlocs⟩ : ∃ z : List Loc, z = [] := ⟨_, rfl⟩
  rw [← hH, ← hlocs] at hB
  rw [← hH, ← hlocs]
  refine q_ald_n cx dX2_takeBack_0 rfl (lv_at hl 0 rfl) ?_
  refine q_gX2_16 cx hB hhist khist hf5 dX2_takeBack_1 (fun lb82 ub82 => ?_)
  refine q_ifne (tgt := 9) cx ⟨by omega, by omega⟩ dX2_takeBack_4 (by decide) (fun c83 => ?_) (fun c83 => ?_)
  · refine q_ald_n cx dX2_takeBack_9 rfl (lv_at hl 0 rfl) ?_
    refine q_ald_n cx dX2_takeBack_10 rfl (lv_at hl 0 rfl) ?_
    refine q_gX2_20 cx hB hhist khist hf4 dX2_takeBack_11 (fun lb84 ub84 => ?_)
    refine q_ifle (tgt := 38) cx ⟨by decide, by decide⟩ dX2_takeBack_14 (by decide) (fun c85 => ?_) (fun c85 => ?_)
    · exact absurd c85 (by omega)
    · refine q_ald_n cx dX2_takeBack_17 rfl (lv_at hl 0 rfl) ?_
      refine q_gX2_20 cx hB hhist khist hf4 dX2_takeBack_18 (fun lb86 ub86 => ?_)
      refine q_ald_n cx dX2_takeBack_21 rfl (lv_at hl 0 rfl) ?_
      refine q_gX2_11 cx hB hhist khist hr0 dX2_takeBack_22 (fun hb87 kb87 => ?_)
      refine q_alen (n := 6) cx hB hka kka (by decide) rfl 8 rfl rfl dX2_takeBack_25 ?_
      refine q_icgt (tgt := 38) cx ⟨by decide, by decide⟩ ⟨by decide, by decide⟩ dX2_takeBack_26 (by decide) (fun c88 => ?_) (fun c88 => ?_)
      · exact absurd c88 (by omega)
      · refine q_ald_n cx dX2_takeBack_29 rfl (lv_at hl 0 rfl) ?_
        refine q_gX2_20 cx hB hhist khist hf4 dX2_takeBack_30 (fun lb89 ub89 => ?_)
        refine q_iconst cx dX2_takeBack_33 ?_
        refine q_isub cx dX2_takeBack_34 ?_
        refine lv_goto (tgt := 45) cx.1 cx.2.1 dX2_takeBack_35 (by decide) ?_
        refine q_pX2_20 cx hB hhist khist ⟨by decide, by decide⟩ (by decide) (by decide) rfl dX2_takeBack_45 (fun H locs f90 ef90 z91 hB => ?_)
        have z92 : q_is (q_z f90 v0 11) tm := by rw [ef90, q_setz (Or.inr (by decide))]; exact hf0
        have z93 : q_is (q_z f90 v0 3) nn := by rw [ef90, q_setz (Or.inr (by decide))]; exact hf1
        have z94 : q_is (q_z f90 v0 4) ln := by rw [ef90, q_setz (Or.inr (by decide))]; exact hf2
        have z95 : q_is (q_z f90 v0 5) mn := by rw [ef90, q_setz (Or.inr (by decide))]; exact hf3
        have z96 : q_is (q_z f90 hist 2) my := by rw [ef90, q_setz (Or.inr (by decide))]; exact hf5
        have z97 : q_ir (q_r f90 hist 0) ka := by rw [ef90, q_setr (Or.inr (by decide))]; exact hr0
        have z98 : q_ir (q_r f90 v0 0) n0 := by rw [ef90, q_setr (Or.inr (by decide))]; exact hr1
        have z99 : q_ir (q_r f90 v0 1) l0 := by rw [ef90, q_setr (Or.inl (fun q => by rw [q, khist] at kv0; exact absurd kv0 (by decide)))]; exact hr2
        have z100 : q_ir (q_r f90 v0 2) m0 := by rw [ef90, q_setr (Or.inr (by decide))]; exact hr3
        have g101 : tw_vw K L 10 5 3 4 f90 v0 n0 l0 m0 d0 s0 := tw_vw_tr hw0 (fun a9 h9 k9 c9 => by rw [ef90, q_setz (Or.inl (fun q => by rw [q, khist] at k9; exact absurd k9 (by decide)))]) (fun a9 h9 k9 c9 => by rw [ef90, q_setz (Or.inl (fun q => by rw [q, khist] at k9; exact absurd k9 (by decide)))]) (fun a9 h9 k9 c9 => by rw [ef90, q_setz (Or.inl (fun q => by rw [q, khist] at k9; exact absurd k9 (by decide)))]) (fun a9 h9 k9 c9 => by rw [ef90, q_setz (Or.inl (fun q => by rw [q, khist] at k9; exact absurd k9 (by decide)))]) (fun i9 => by rw [ef90, q_setr (Or.inl (fun q => by rw [q, khist] at kn0; exact absurd kn0 (by decide)))]) (fun i9 => by rw [ef90, q_setr (Or.inl (fun q => by rw [q, khist] at kl0; exact absurd kl0 (by decide)))]) (fun i9 => by rw [ef90, q_setr (Or.inl (fun q => by rw [q, khist] at km0; exact absurd km0 (by decide)))])
        have g102 : tw_nw K L 5 f90 := tw_nw_tr hz0 (fun a9 h9 k9 => by rw [ef90, q_setj (Or.inl (fun q => by rw [q, khist] at k9; exact absurd k9 (by decide)))])
        have g103 : tw_hk K L f90 ka A9 D9 S9 := tw_hk_tr hhk (fun a9 h9 k9 i9 => by rw [ef90]; exact q_set_ne (Or.inl (fun q => by rw [q, khist] at k9; exact absurd k9 (by decide))))
        obtain ⟨d7, v7, n7, l7, m7, ed9, ⟨hv7, kv7⟩, ⟨hn7, kn7⟩, ⟨hl7, kl7⟩, ⟨hm7, km7⟩, ⟨er0, er1, er2, er3⟩, hw9, hz9⟩ := tw_hk_get g103 3 (by decide)
        have kv7 : K v7 = 53 := kv7
        have kn7 : K n7 = 203 := kn7
        have kl7 : K l7 = 209 := kl7
        have km7 : K m7 = 215 := km7
        have hw9 : tw_vw K L 53 59 65 71 f90 v7 n7 l7 m7 d7 (S9 3) := hw9
        have hz9 : tw_nw K L 59 f90 := hz9
        have z104 : q_is (q_z f90 v7 11) tk := tw_kf hw9 (by decide) hp0
        have z105 : q_is (q_z f90 v7 3) nk := tw_kf hw9 (by decide) hp1
        have z106 : q_is (q_z f90 v7 4) lk := tw_kf hw9 (by decide) hp2
        have z107 : q_is (q_z f90 v7 5) mk := tw_kf hw9 (by decide) hp3
        refine q_ald_n cx dX2_takeBack_48 rfl (lv_at hl 1 rfl) ?_
        refine q_ald_n cx dX2_takeBack_49 rfl (lv_at hl 0 rfl) ?_
        refine q_gX2_11 cx hB hhist khist z97 dX2_takeBack_50 (fun hb108 kb108 => ?_)
        refine q_ald_n cx dX2_takeBack_53 rfl (lv_at hl 0 rfl) ?_
        refine q_gX2_20 cx hB hhist khist z91 dX2_takeBack_54 (fun lb109 ub109 => ?_)
        refine q_aald (k2 := 53) (n := 6) cx hB hka kka (by decide) rfl 8 rfl (by decide) rfl (by decide) (by decide) (by decide) rfl er0 dX2_takeBack_57 (fun hb111 kb111 => ?_)
        refine q_cVv (As := [.ref v7]) (rest := []) cx hB (fun _ h => h) hN hv0 kv0 (by decide) rfl (f_vcopy07 l g hN hB.2.1 d0 s0 d7 (S9 3) v0 hv0 kv0 v7 hv7 kv7 n0 hn0 kn0 l0 hl0 kl0 m0 hm0 km0 n7 hn7 kn7 l7 hl7 kl7 m7 hm7 km7 nk (by omega) (by omega) lk (by omega) (by omega) mk (by omega) (by omega) tk (by omega) (by omega) z105 z106 z107 z104 z98 z99 z100 er1 er2 er3 g101 hw9 g102 hz9) q_cX2_23 q_dX10_copyFrom (by decide) rfl rfl hl.1 rfl (Nat.le_of_ble_eq_true rfl) dX2_takeBack_58 (fun H locs f112 h114 hF hB => ?_)
        obtain ⟨z115, z116, z117, z118, g119, g120⟩ := h114
        have z121 : q_is (q_z f112 hist 2) my := Eq.trans (hF.z hhist (by rw [khist]; rfl)) z96
        have z122 : q_is (q_z f112 hist 1) (4 - 1) := Eq.trans (hF.z hhist (by rw [khist]; rfl)) z91
        have z123 : q_is (q_z f112 v7 11) tk := Eq.trans (hF.z hv7 (by rw [kv7]; rfl)) z104
        have z124 : q_is (q_z f112 v7 3) nk := Eq.trans (hF.z hv7 (by rw [kv7]; rfl)) z105
        have z125 : q_is (q_z f112 v7 4) lk := Eq.trans (hF.z hv7 (by rw [kv7]; rfl)) z106
        have z126 : q_is (q_z f112 v7 5) mk := Eq.trans (hF.z hv7 (by rw [kv7]; rfl)) z107
        have z127 : q_ir (q_r f112 hist 0) ka := Eq.trans (hF.r hhist (by rw [khist]; rfl)) z97
        have z128 : q_ir (q_r f112 v0 0) n0 := Eq.trans (hF.r hv0 (by rw [kv0]; rfl)) z98
        have z129 : q_ir (q_r f112 v0 1) l0 := Eq.trans (hF.r hv0 (by rw [kv0]; rfl)) z99
        have z130 : q_ir (q_r f112 v0 2) m0 := Eq.trans (hF.r hv0 (by rw [kv0]; rfl)) z100
        have z131 : q_ir (q_r f112 ka 3) v7 := Eq.trans (hF.r hka (by rw [kka]; rfl)) er0
        have z132 : q_ir (q_r f112 v7 0) n7 := Eq.trans (hF.r hv7 (by rw [kv7]; rfl)) er1
        have z133 : q_ir (q_r f112 v7 1) l7 := Eq.trans (hF.r hv7 (by rw [kv7]; rfl)) er2
        have z134 : q_ir (q_r f112 v7 2) m7 := Eq.trans (hF.r hv7 (by rw [kv7]; rfl)) er3
        have g135 : tw_hk K L f112 ka A9 D9 S9 := tw_hk_tr g103 (fun a9 h9 k9 i9 => hF a9 h9 i9 (tw_krw rfl k9))
        have g136 : tw_vw K L 53 59 65 71 f112 v7 n7 l7 m7 d7 (S9 3) := tw_vw_tr hw9 (fun a9 h9 k9 c9 => hF.z h9 (by rw [k9]; rfl)) (fun a9 h9 k9 c9 => hF.z h9 (by rw [k9]; rfl)) (fun a9 h9 k9 c9 => hF.z h9 (by rw [k9]; rfl)) (fun a9 h9 k9 c9 => hF.z h9 (by rw [k9]; rfl)) (fun i9 => hF.r hn7 (by rw [kn7]; rfl)) (fun i9 => hF.r hl7 (by rw [kl7]; rfl)) (fun i9 => hF.r hm7 (by rw [km7]; rfl))
        have g137 : tw_nw K L 59 f112 := tw_nw_tr hz9 (fun a9 h9 k9 => hF.j h9 (by rw [k9]; rfl))
        refine q_ald_n cx dX2_takeBack_61 rfl (lv_at hl 0 rfl) ?_
        refine lv_dup cx.1 cx.2.1 dX2_takeBack_62 rfl ?_
        refine q_gX2_16 cx hB hhist khist z121 dX2_takeBack_63 (fun lb138 ub138 => ?_)
        refine q_iconst cx dX2_takeBack_66 ?_
        refine q_isub cx dX2_takeBack_67 ?_
        refine q_pX2_16 cx hB hhist khist ⟨by omega, by omega⟩ (by omega) (by omega) rfl dX2_takeBack_68 (fun H locs f139 ef139 z140 hB => ?_)
        have z141 : q_is (q_z f139 hist 1) (4 - 1) := by rw [ef139, q_setz (Or.inr (by decide))]; exact z122
        have z142 : q_is (q_z f139 v7 11) tk := by rw [ef139, q_setz (Or.inr (by decide))]; exact z123
        have z143 : q_is (q_z f139 v7 3) nk := by rw [ef139, q_setz (Or.inr (by decide))]; exact z124
        have z144 : q_is (q_z f139 v7 4) lk := by rw [ef139, q_setz (Or.inr (by decide))]; exact z125
        have z145 : q_is (q_z f139 v7 5) mk := by rw [ef139, q_setz (Or.inr (by decide))]; exact z126
        have z146 : q_is (q_z f139 v0 3) nk := by rw [ef139, q_setz (Or.inr (by decide))]; exact z115
        have z147 : q_is (q_z f139 v0 4) lk := by rw [ef139, q_setz (Or.inr (by decide))]; exact z116
        have z148 : q_is (q_z f139 v0 5) mk := by rw [ef139, q_setz (Or.inr (by decide))]; exact z117
        have z149 : q_is (q_z f139 v0 11) tk := by rw [ef139, q_setz (Or.inr (by decide))]; exact z118
        have z150 : q_ir (q_r f139 hist 0) ka := by rw [ef139, q_setr (Or.inr (by decide))]; exact z127
        have z151 : q_ir (q_r f139 v0 0) n0 := by rw [ef139, q_setr (Or.inr (by decide))]; exact z128
        have z152 : q_ir (q_r f139 v0 1) l0 := by rw [ef139, q_setr (Or.inr (by decide))]; exact z129
        have z153 : q_ir (q_r f139 v0 2) m0 := by rw [ef139, q_setr (Or.inl (fun q => by rw [q, khist] at kv0; exact absurd kv0 (by decide)))]; exact z130
        have z154 : q_ir (q_r f139 ka 3) v7 := by rw [ef139, q_setr (Or.inr (by decide))]; exact z131
        have z155 : q_ir (q_r f139 v7 0) n7 := by rw [ef139, q_setr (Or.inr (by decide))]; exact z132
        have z156 : q_ir (q_r f139 v7 1) l7 := by rw [ef139, q_setr (Or.inr (by decide))]; exact z133
        have z157 : q_ir (q_r f139 v7 2) m7 := by rw [ef139, q_setr (Or.inl (fun q => by rw [q, khist] at kv7; exact absurd kv7 (by decide)))]; exact z134
        have g158 : tw_hk K L f139 ka A9 D9 S9 := tw_hk_tr g135 (fun a9 h9 k9 i9 => by rw [ef139]; exact q_set_ne (Or.inl (fun q => by rw [q, khist] at k9; exact absurd k9 (by decide))))
        have g159 : tw_vw K L 53 59 65 71 f139 v7 n7 l7 m7 d7 (S9 3) := tw_vw_tr g136 (fun a9 h9 k9 c9 => by rw [ef139, q_setz (Or.inl (fun q => by rw [q, khist] at k9; exact absurd k9 (by decide)))]) (fun a9 h9 k9 c9 => by rw [ef139, q_setz (Or.inl (fun q => by rw [q, khist] at k9; exact absurd k9 (by decide)))]) (fun a9 h9 k9 c9 => by rw [ef139, q_setz (Or.inl (fun q => by rw [q, khist] at k9; exact absurd k9 (by decide)))]) (fun a9 h9 k9 c9 => by rw [ef139, q_setz (Or.inl (fun q => by rw [q, khist] at k9; exact absurd k9 (by decide)))]) (fun i9 => by rw [ef139, q_setr (Or.inl (fun q => by rw [q, khist] at kn7; exact absurd kn7 (by decide)))]) (fun i9 => by rw [ef139, q_setr (Or.inl (fun q => by rw [q, khist] at kl7; exact absurd kl7 (by decide)))]) (fun i9 => by rw [ef139, q_setr (Or.inl (fun q => by rw [q, khist] at km7; exact absurd km7 (by decide)))])
        have g160 : tw_nw K L 59 f139 := tw_nw_tr g137 (fun a9 h9 k9 => by rw [ef139, q_setj (Or.inl (fun q => by rw [q, khist] at k9; exact absurd k9 (by decide)))])
        have g161 : tw_vw K L 10 5 3 4 f139 v0 n0 l0 m0 d0 (tw_cp s0 (S9 3)) := tw_vw_tr g119 (fun a9 h9 k9 c9 => by rw [ef139, q_setz (Or.inl (fun q => by rw [q, khist] at k9; exact absurd k9 (by decide)))]) (fun a9 h9 k9 c9 => by rw [ef139, q_setz (Or.inl (fun q => by rw [q, khist] at k9; exact absurd k9 (by decide)))]) (fun a9 h9 k9 c9 => by rw [ef139, q_setz (Or.inl (fun q => by rw [q, khist] at k9; exact absurd k9 (by decide)))]) (fun a9 h9 k9 c9 => by rw [ef139, q_setz (Or.inl (fun q => by rw [q, khist] at k9; exact absurd k9 (by decide)))]) (fun i9 => by rw [ef139, q_setr (Or.inl (fun q => by rw [q, khist] at kn0; exact absurd kn0 (by decide)))]) (fun i9 => by rw [ef139, q_setr (Or.inl (fun q => by rw [q, khist] at kl0; exact absurd kl0 (by decide)))]) (fun i9 => by rw [ef139, q_setr (Or.inl (fun q => by rw [q, khist] at km0; exact absurd km0 (by decide)))])
        have g162 : tw_nw K L 5 f139 := tw_nw_tr g120 (fun a9 h9 k9 => by rw [ef139, q_setj (Or.inl (fun q => by rw [q, khist] at k9; exact absurd k9 (by decide)))])
        refine q_iconst cx dX2_takeBack_71 ?_
        refine q_zret cx hr hlk hB dX2_takeBack_72 (by decide) (by decide) ?_
        exact ⟨rfl, (Eq.trans z141 (by omega)), z140, z149, z146, z147, z148, g161, g162, g158⟩
  · exact absurd c83 (by omega)
set_option maxHeartbeats 4000000 in
set_option maxRecDepth 100000 in
theorem f_keep_5 (l : Launch) (g : q_G) {K : Nat → Nat} {L : List Nat} (hN : L.Nodup) {f : Nat → va_E} (hT : q_Ty g K L f) (d0 : Nat → Nat) (s0 : tw_S) (A9 : Nat → Nat → Nat) (D9 : Nat → Nat → Nat) (S9 : Nat → tw_S) (hist : Nat) (hhist : hist ∈ L) (khist : K hist = 2) (v0 : Nat) (hv0 : v0 ∈ L) (kv0 : K v0 = 10) (n0 : Nat) (hn0 : n0 ∈ L) (kn0 : K n0 = 110) (l0 : Nat) (hl0 : l0 ∈ L) (kl0 : K l0 = 120) (m0 : Nat) (hm0 : m0 ∈ L) (km0 : K m0 = 130) (ka : Nat) (hka : ka ∈ L) (kka : K ka = 218) (tm : Int) (ltm : 0 ≤ tm) (utm : tm ≤ 9000) (nn : Int) (lnn : 0 ≤ nn) (unn : nn ≤ 10) (ln : Int) (lln : 0 ≤ ln) (uln : ln ≤ 16) (mn : Int) (lmn : 0 ≤ mn) (umn : mn ≤ 61) (my : Int) (lmy : 0 ≤ my) (umy : my ≤ 6) (hf0 : q_is (q_z f v0 11) tm) (hf1 : q_is (q_z f v0 3) nn) (hf2 : q_is (q_z f v0 4) ln) (hf3 : q_is (q_z f v0 5) mn) (hf4 : q_is (q_z f hist 1) 5) (hf5 : q_is (q_z f hist 2) my) (hr0 : q_ir (q_r f hist 0) ka) (hr1 : q_ir (q_r f v0 0) n0) (hr2 : q_ir (q_r f v0 1) l0) (hr3 : q_ir (q_r f v0 2) m0) (hw0 : tw_vw K L 10 5 3 4 f v0 n0 l0 m0 d0 s0) (hz0 : tw_nw K L 5 f) (hhk : tw_hk K L f ka A9 D9 S9) : q_Ct l g K L yX2_keep cX2_keep 2 none 2 43 [.ref hist, .ref v0] f [(2, 1, 2), (55, 3, 12), (61, 0, 8), (67, 0, 4), (73, 0, 7)] (q_Pv (fun (f1 : Nat → va_E) => q_is (q_z f1 hist 1) 6 ∧ (q_is (q_z f1 hist 2) (min 6 (my + 1))) ∧ (tw_hk K L f1 ka A9 D9 (tw_hu S9 5 (tw_cp (S9 5) s0))))) := by
  refine q_ofb (by decide +kernel) hN hT (Nat.le_of_ble_eq_true rfl) ?_
  intro p e s m below meth c ls cx hr hlk hB hl
  have hl : lv_has ls 2 [(0, .ref hist), (1, .ref v0)] := hl
  obtain ⟨H, hH⟩ : ∃ H : Heap, H = s.heap := ⟨_, rfl⟩
  obtain ⟨locs, hlocs⟩ : ∃ z : List Loc, z = [] := ⟨_, rfl⟩
  rw [← hH, ← hlocs] at hB
  rw [← hH, ← hlocs]
  refine q_ald_n cx dX2_keep_0 rfl (lv_at hl 0 rfl) ?_
  refine q_gX2_20 cx hB hhist khist hf4 dX2_keep_1 (fun lb66 ub66 => ?_)
  refine q_iflt (tgt := 19) cx ⟨by decide, by decide⟩ dX2_keep_4 (by decide) (fun c67 => ?_) (fun c67 => ?_)
  · exact absurd c67 (by omega)
  · refine q_ald_n cx dX2_keep_7 rfl (lv_at hl 0 rfl) ?_
    refine q_gX2_20 cx hB hhist khist hf4 dX2_keep_8 (fun lb68 ub68 => ?_)
    refine q_ald_n cx dX2_keep_11 rfl (lv_at hl 0 rfl) ?_
    refine q_gX2_11 cx hB hhist khist hr0 dX2_keep_12 (fun hb69 kb69 => ?_)
    refine q_alen (n := 6) cx hB hka kka (by decide) rfl 8 rfl rfl dX2_keep_15 ?_
    refine q_iclt (tgt := 24) cx ⟨by decide, by decide⟩ ⟨by decide, by decide⟩ dX2_keep_16 (by decide) (fun c70 => ?_) (fun c70 => ?_)
    · obtain ⟨d9, v9, n9, l9, m9, ed9, ⟨hv9, kv9⟩, ⟨hn9, kn9⟩, ⟨hl9, kl9⟩, ⟨hm9, km9⟩, ⟨er0, er1, er2, er3⟩, hw9, hz9⟩ := tw_hk_get hhk 5 (by decide)
      have kv9 : K v9 = 55 := kv9
      have kn9 : K n9 = 205 := kn9
      have kl9 : K l9 = 211 := kl9
      have km9 : K m9 = 217 := km9
      have hw9 : tw_vw K L 55 61 67 73 f v9 n9 l9 m9 d9 (S9 5) := hw9
      have hz9 : tw_nw K L 61 f := hz9
      refine q_ald_n cx dX2_keep_24 rfl (lv_at hl 0 rfl) ?_
      refine q_gX2_11 cx hB hhist khist hr0 dX2_keep_25 (fun hb71 kb71 => ?_)
      refine q_ald_n cx dX2_keep_28 rfl (lv_at hl 0 rfl) ?_
      refine q_gX2_20 cx hB hhist khist hf4 dX2_keep_29 (fun lb72 ub72 => ?_)
      refine q_aald (k2 := 55) (n := 6) cx hB hka kka (by decide) rfl 8 rfl (by decide) rfl (by decide) (by decide) (by decide) rfl er0 dX2_keep_32 (fun hb74 kb74 => ?_)
      refine q_ald_n cx dX2_keep_33 rfl (lv_at hl 1 rfl) ?_
      refine q_cVv (As := [.ref v0]) (rest := []) cx hB (fun _ h => h) hN hv9 kv9 (by decide) rfl (f_vcopy90 l g hN hB.2.1 d9 (S9 5) d0 s0 v9 hv9 kv9 v0 hv0 kv0 n9 hn9 kn9 l9 hl9 kl9 m9 hm9 km9 n0 hn0 kn0 l0 hl0 kl0 m0 hm0 km0 nn (by omega) (by omega) ln (by omega) (by omega) mn (by omega) (by omega) tm (by omega) (by omega) hf1 hf2 hf3 hf0 er1 er2 er3 hr1 hr2 hr3 hw9 hw0 hz9 hz0) q_cX2_23 q_dX10_copyFrom (by decide) rfl rfl hl.1 rfl (Nat.le_of_ble_eq_true rfl) dX2_keep_34 (fun H locs f75 h77 hF hB => ?_)
      obtain ⟨z78, z79, z80, z81, g82, g83⟩ := h77
      have z84 : q_is (q_z f75 v0 11) tm := Eq.trans (hF.z hv0 (by rw [kv0]; rfl)) hf0
      have z85 : q_is (q_z f75 v0 3) nn := Eq.trans (hF.z hv0 (by rw [kv0]; rfl)) hf1
      have z86 : q_is (q_z f75 v0 4) ln := Eq.trans (hF.z hv0 (by rw [kv0]; rfl)) hf2
      have z87 : q_is (q_z f75 v0 5) mn := Eq.trans (hF.z hv0 (by rw [kv0]; rfl)) hf3
      have z88 : q_is (q_z f75 hist 1) 5 := Eq.trans (hF.z hhist (by rw [khist]; rfl)) hf4
      have z89 : q_is (q_z f75 hist 2) my := Eq.trans (hF.z hhist (by rw [khist]; rfl)) hf5
      have z90 : q_ir (q_r f75 hist 0) ka := Eq.trans (hF.r hhist (by rw [khist]; rfl)) hr0
      have z91 : q_ir (q_r f75 v0 0) n0 := Eq.trans (hF.r hv0 (by rw [kv0]; rfl)) hr1
      have z92 : q_ir (q_r f75 v0 1) l0 := Eq.trans (hF.r hv0 (by rw [kv0]; rfl)) hr2
      have z93 : q_ir (q_r f75 v0 2) m0 := Eq.trans (hF.r hv0 (by rw [kv0]; rfl)) hr3
      have z94 : q_ir (q_r f75 ka 5) v9 := Eq.trans (hF.r hka (by rw [kka]; rfl)) er0
      have z95 : q_ir (q_r f75 v9 0) n9 := Eq.trans (hF.r hv9 (by rw [kv9]; rfl)) er1
      have z96 : q_ir (q_r f75 v9 1) l9 := Eq.trans (hF.r hv9 (by rw [kv9]; rfl)) er2
      have z97 : q_ir (q_r f75 v9 2) m9 := Eq.trans (hF.r hv9 (by rw [kv9]; rfl)) er3
      have g98 : tw_vw K L 10 5 3 4 f75 v0 n0 l0 m0 d0 s0 := tw_vw_tr hw0 (fun a9 h9 k9 c9 => hF.z h9 (by rw [k9]; rfl)) (fun a9 h9 k9 c9 => hF.z h9 (by rw [k9]; rfl)) (fun a9 h9 k9 c9 => hF.z h9 (by rw [k9]; rfl)) (fun a9 h9 k9 c9 => hF.z h9 (by rw [k9]; rfl)) (fun i9 => hF.r hn0 (by rw [kn0]; rfl)) (fun i9 => hF.r hl0 (by rw [kl0]; rfl)) (fun i9 => hF.r hm0 (by rw [km0]; rfl))
      have g99 : tw_nw K L 5 f75 := tw_nw_tr hz0 (fun a9 h9 k9 => hF.j h9 (by rw [k9]; rfl))
      have hk9 : tw_hk K L f75 ka A9 D9 (tw_hu S9 5 (tw_cp (S9 5) s0)) := tw_hk_up hhk 5 (by decide) hF rfl ed9 g82 g83
      refine q_ald_n cx dX2_keep_37 rfl (lv_at hl 0 rfl) ?_
      refine lv_dup cx.1 cx.2.1 dX2_keep_38 rfl ?_
      refine q_gX2_20 cx hB hhist khist z88 dX2_keep_39 (fun lb100 ub100 => ?_)
      refine q_iconst cx dX2_keep_42 ?_
      refine q_iadd cx dX2_keep_43 ?_
      refine q_pX2_20 cx hB hhist khist ⟨by decide, by decide⟩ (by decide) (by decide) rfl dX2_keep_44 (fun H locs f101 ef101 z102 hB => ?_)
      have z103 : q_is (q_z f101 v0 11) tm := by rw [ef101, q_setz (Or.inr (by decide))]; exact z84
      have z104 : q_is (q_z f101 v0 3) nn := by rw [ef101, q_setz (Or.inr (by decide))]; exact z85
      have z105 : q_is (q_z f101 v0 4) ln := by rw [ef101, q_setz (Or.inr (by decide))]; exact z86
      have z106 : q_is (q_z f101 v0 5) mn := by rw [ef101, q_setz (Or.inr (by decide))]; exact z87
      have z107 : q_is (q_z f101 hist 2) my := by rw [ef101, q_setz (Or.inr (by decide))]; exact z89
      have z108 : q_ir (q_r f101 hist 0) ka := by rw [ef101, q_setr (Or.inr (by decide))]; exact z90
      have z109 : q_ir (q_r f101 v0 0) n0 := by rw [ef101, q_setr (Or.inr (by decide))]; exact z91
      have z110 : q_ir (q_r f101 v0 1) l0 := by rw [ef101, q_setr (Or.inl (fun q => by rw [q, khist] at kv0; exact absurd kv0 (by decide)))]; exact z92
      have z111 : q_ir (q_r f101 v0 2) m0 := by rw [ef101, q_setr (Or.inr (by decide))]; exact z93
      have g112 : tw_vw K L 10 5 3 4 f101 v0 n0 l0 m0 d0 s0 := tw_vw_tr g98 (fun a9 h9 k9 c9 => by rw [ef101, q_setz (Or.inl (fun q => by rw [q, khist] at k9; exact absurd k9 (by decide)))]) (fun a9 h9 k9 c9 => by rw [ef101, q_setz (Or.inl (fun q => by rw [q, khist] at k9; exact absurd k9 (by decide)))]) (fun a9 h9 k9 c9 => by rw [ef101, q_setz (Or.inl (fun q => by rw [q, khist] at k9; exact absurd k9 (by decide)))]) (fun a9 h9 k9 c9 => by rw [ef101, q_setz (Or.inl (fun q => by rw [q, khist] at k9; exact absurd k9 (by decide)))]) (fun i9 => by rw [ef101, q_setr (Or.inl (fun q => by rw [q, khist] at kn0; exact absurd kn0 (by decide)))]) (fun i9 => by rw [ef101, q_setr (Or.inl (fun q => by rw [q, khist] at kl0; exact absurd kl0 (by decide)))]) (fun i9 => by rw [ef101, q_setr (Or.inl (fun q => by rw [q, khist] at km0; exact absurd km0 (by decide)))])
      have g113 : tw_nw K L 5 f101 := tw_nw_tr g99 (fun a9 h9 k9 => by rw [ef101, q_setj (Or.inl (fun q => by rw [q, khist] at k9; exact absurd k9 (by decide)))])
      have g114 : tw_hk K L f101 ka A9 D9 (tw_hu S9 5 (tw_cp (S9 5) s0)) := tw_hk_tr hk9 (fun a9 h9 k9 i9 => by rw [ef101]; exact q_set_ne (Or.inl (fun q => by rw [q, khist] at k9; exact absurd k9 (by decide))))
      refine q_ald_n cx dX2_keep_47 rfl (lv_at hl 0 rfl) ?_
      refine q_bipush cx dX2_keep_48 rfl ?_
      refine q_ald_n cx dX2_keep_50 rfl (lv_at hl 0 rfl) ?_
      refine q_gX2_16 cx hB hhist khist z107 dX2_keep_51 (fun lb115 ub115 => ?_)
      refine q_iconst cx dX2_keep_54 ?_
      refine q_iadd cx dX2_keep_55 ?_
      refine q_mmin (rest := [.ref hist]) cx hl.1 q_h1383 q_h994 q_h56 q_h995 (by decide) (Nat.le_of_ble_eq_true rfl) (by decide) (by decide) ⟨by decide, by decide⟩ ⟨by omega, by omega⟩ dX2_keep_56 (fun y116 ay116 by116 ey116 => ?_)
      refine q_pX2_16 cx hB hhist khist ⟨by omega, by omega⟩ (by omega) (by omega) rfl dX2_keep_59 (fun H locs f117 ef117 z118 hB => ?_)
      have z119 : q_is (q_z f117 v0 11) tm := by rw [ef117, q_setz (Or.inr (by decide))]; exact z103
      have z120 : q_is (q_z f117 v0 3) nn := by rw [ef117, q_setz (Or.inr (by decide))]; exact z104
      have z121 : q_is (q_z f117 v0 4) ln := by rw [ef117, q_setz (Or.inr (by decide))]; exact z105
      have z122 : q_is (q_z f117 v0 5) mn := by rw [ef117, q_setz (Or.inr (by decide))]; exact z106
      have z123 : q_is (q_z f117 hist 1) (5 + 1) := by rw [ef117, q_setz (Or.inr (by decide))]; exact z102
      have z124 : q_ir (q_r f117 hist 0) ka := by rw [ef117, q_setr (Or.inr (by decide))]; exact z108
      have z125 : q_ir (q_r f117 v0 0) n0 := by rw [ef117, q_setr (Or.inr (by decide))]; exact z109
      have z126 : q_ir (q_r f117 v0 1) l0 := by rw [ef117, q_setr (Or.inr (by decide))]; exact z110
      have z127 : q_ir (q_r f117 v0 2) m0 := by rw [ef117, q_setr (Or.inl (fun q => by rw [q, khist] at kv0; exact absurd kv0 (by decide)))]; exact z111
      have g128 : tw_vw K L 10 5 3 4 f117 v0 n0 l0 m0 d0 s0 := tw_vw_tr g112 (fun a9 h9 k9 c9 => by rw [ef117, q_setz (Or.inl (fun q => by rw [q, khist] at k9; exact absurd k9 (by decide)))]) (fun a9 h9 k9 c9 => by rw [ef117, q_setz (Or.inl (fun q => by rw [q, khist] at k9; exact absurd k9 (by decide)))]) (fun a9 h9 k9 c9 => by rw [ef117, q_setz (Or.inl (fun q => by rw [q, khist] at k9; exact absurd k9 (by decide)))]) (fun a9 h9 k9 c9 => by rw [ef117, q_setz (Or.inl (fun q => by rw [q, khist] at k9; exact absurd k9 (by decide)))]) (fun i9 => by rw [ef117, q_setr (Or.inl (fun q => by rw [q, khist] at kn0; exact absurd kn0 (by decide)))]) (fun i9 => by rw [ef117, q_setr (Or.inl (fun q => by rw [q, khist] at kl0; exact absurd kl0 (by decide)))]) (fun i9 => by rw [ef117, q_setr (Or.inl (fun q => by rw [q, khist] at km0; exact absurd km0 (by decide)))])
      have g129 : tw_nw K L 5 f117 := tw_nw_tr g113 (fun a9 h9 k9 => by rw [ef117, q_setj (Or.inl (fun q => by rw [q, khist] at k9; exact absurd k9 (by decide)))])
      have g130 : tw_hk K L f117 ka A9 D9 (tw_hu S9 5 (tw_cp (S9 5) s0)) := tw_hk_tr g114 (fun a9 h9 k9 i9 => by rw [ef117]; exact q_set_ne (Or.inl (fun q => by rw [q, khist] at k9; exact absurd k9 (by decide))))
      refine q_vret cx hr hlk hB dX2_keep_62 ?_
      exact ⟨(Eq.trans z123 (by omega)), (Eq.trans z118 (by omega)), g130⟩
    · exact absurd c70 (by omega)
