set_option maxHeartbeats 4000000 in
set_option maxRecDepth 100000 in
theorem f_takeBack_5 (l : Launch) (g : q_G) {K : Nat → Nat} {L : List Nat} (hN : L.Nodup) {f : Nat → va_E} (hT : q_Ty g K L f) (d0 : Nat → Nat) (s0 : tw_S) (A9 : Nat → Nat → Nat) (D9 : Nat → Nat → Nat) (S9 : Nat → tw_S) (hist : Nat) (hhist : hist ∈ L) (khist : K hist = 2) (v0 : Nat) (hv0 : v0 ∈ L) (kv0 : K v0 = 10) (n0 : Nat) (hn0 : n0 ∈ L) (kn0 : K n0 = 110) (l0 : Nat) (hl0 : l0 ∈ L) (kl0 : K l0 = 120) (m0 : Nat) (hm0 : m0 ∈ L) (km0 : K m0 = 130) (ka : Nat) (hka : ka ∈ L) (kka : K ka = 218) (tm : Int) (ltm : 0 ≤ tm) (utm : tm ≤ 9000) (nn : Int) (lnn : 0 ≤ nn) (unn : nn ≤ 10) (ln : Int) (lln : 0 ≤ ln) (uln : ln ≤ 16) (mn : Int) (lmn : 0 ≤ mn) (umn : mn ≤ 61) (my : Int) (lmy : 1 ≤ my) (umy : my ≤ 6) (tk : Int) (ltk : 0 ≤ tk) (utk : tk ≤ 9000) (nk : Int) (lnk : 0 ≤ nk) (unk : nk ≤ 10) (lk : Int) (llk : 0 ≤ lk) (ulk : lk ≤ 16) (mk : Int) (lmk : 0 ≤ mk) (umk : mk ≤ 61) (hf0 : q_is (q_z f v0 11) tm) (hf1 : q_is (q_z f v0 3) nn) (hf2 : q_is (q_z f v0 4) ln) (hf3 : q_is (q_z f v0 5) mn) (hf4 : q_is (q_z f hist 1) 5) (hf5 : q_is (q_z f hist 2) my) (hr0 : q_ir (q_r f hist 0) ka) (hr1 : q_ir (q_r f v0 0) n0) (hr2 : q_ir (q_r f v0 1) l0) (hr3 : q_ir (q_r f v0 2) m0) (hp0 : (S9 4) 0 11 = tk) (hp1 : (S9 4) 0 3 = nk) (hp2 : (S9 4) 0 4 = lk) (hp3 : (S9 4) 0 5 = mk) (hw0 : tw_vw K L 10 5 3 4 f v0 n0 l0 m0 d0 s0) (hz0 : tw_nw K L 5 f) (hhk : tw_hk K L f ka A9 D9 S9) : q_Ct l g K L yX2_takeBack cX2_takeBack 2 (some .boolean) 2 43 [.ref hist, .ref v0] f [(2, 1, 2), (3, 0, 4), (4, 0, 7), (5, 0, 8), (10, 3, 12)] (q_Pi (fun (z : Int) (f1 : Nat → va_E) => z = 1 ∧ q_is (q_z f1 hist 1) 4 ∧ q_is (q_z f1 hist 2) (my - 1) ∧ q_is (q_z f1 v0 11) tk ∧ q_is (q_z f1 v0 3) nk ∧ q_is (q_z f1 v0 4) lk ∧ q_is (q_z f1 v0 5) mk ∧ (tw_vw K L 10 5 3 4 f1 v0 n0 l0 m0 d0 (tw_cp s0 (S9 4))) ∧ (tw_nw K L 5 f1) ∧ (tw_hk K L f1 ka A9 D9 S9))) := by
  refine q_ofb (by decide +kernel) hN hT (Nat.le_of_ble_eq_true rfl) ?_
  intro p e s m below meth c ls cx hr hlk hB hl
  have hl : lv_has ls 2 [(0, .ref hist), (1, .ref v0)] := hl
  obtain ⟨H, hH⟩ : ∃ H : Heap, H = s.heap := ⟨_, rfl⟩
  obtain ⟨locs, hlocs⟩ : ∃ z : List Loc, z = [] := ⟨_, rfl⟩
  rw [← hH, ← hlocs] at hB
  rw [← hH, ← hlocs]
  refine q_ald_n cx dX2_takeBack_0 rfl (lv_at hl 0 rfl) ?_
  refine q_gX2_16 cx hB hhist khist hf5 dX2_takeBack_1 (fun lb82 ub82 => ?_)
  refine q_ifne (tgt := 9) cx ⟨by omega, by omega⟩ dX2_takeBack_4 (by decide) (fun c83 => ?_) (fun c83 => ?_)
  · refine q_ald_n cx dX2_takeBack_9 rfl (lv_at hl 0 rfl) ?_
    refine q_ald_n cx dX2_takeBack_10 rfl (lv_at hl 0 rfl) ?_
    refine q_gX2_20 cx hB hhist khist hf4 dX2_takeBack_11 (fun lb84 ub84 => ?_)
    refine q_ifle (tgt := 38) cx ⟨by decide, by decide⟩ dX2_takeBack_14 (by decide) (fun c85 => ?_) (fun c85 => ?_)
    · exact absurd c85 (by omega)
    · refine q_ald_n cx dX2_takeBack_17 rfl (lv_at hl 0 rfl) ?_
      refine q_gX2_20 cx hB hhist khist hf4 dX2_takeBack_18 (fun lb86 ub86 => ?_)
      refine q_ald_n cx dX2_takeBack_21 rfl (lv_at hl 0 rfl) ?_
      refine q_gX2_11 cx hB hhist khist hr0 dX2_takeBack_22 (fun hb87 kb87 => ?_)
      refine q_alen (n := 6) cx hB hka kka (by decide) rfl 8 rfl rfl dX2_takeBack_25 ?_
      refine q_icgt (tgt := 38) cx ⟨by decide, by decide⟩ ⟨by decide, by decide⟩ dX2_takeBack_26 (by decide) (fun c88 => ?_) (fun c88 => ?_)
      · exact absurd c88 (by omega)
      · refine q_ald_n cx dX2_takeBack_29 rfl (lv_at hl 0 rfl) ?_
        refine q_gX2_20 cx hB hhist khist hf4 dX2_takeBack_30 (fun lb89 ub89 => ?_)
        refine q_iconst cx dX2_takeBack_33 ?_
        refine q_isub cx dX2_takeBack_34 ?_
        refine lv_goto (tgt := 45) cx.1 cx.2.1 dX2_takeBack_35 (by decide) ?_
        refine q_pX2_20 cx hB hhist khist ⟨by decide, by decide⟩ (by decide) (by decide) rfl dX2_takeBack_45 (fun H locs f90 ef90 z91 hB => ?_)
        have z92 : q_is (q_z f90 v0 11) tm := by rw [ef90, q_setz (Or.inr (by decide))]; exact hf0
        have z93 : q_is (q_z f90 v0 3) nn := by rw [ef90, q_setz (Or.inr (by decide))]; exact hf1
        have z94 : q_is (q_z f90 v0 4) ln := by rw [ef90, q_setz (Or.inr (by decide))]; exact hf2
        have z95 : q_is (q_z f90 v0 5) mn := by rw [ef90, q_setz (Or.inr (by decide))]; exact hf3
        have z96 : q_is (q_z f90 hist 2) my := by rw [ef90, q_setz (Or.inr (by decide))]; exact hf5
        have z97 : q_ir (q_r f90 hist 0) ka := by rw [ef90, q_setr (Or.inr (by decide))]; exact hr0
        have z98 : q_ir (q_r f90 v0 0) n0 := by rw [ef90, q_setr (Or.inr (by decide))]; exact hr1
        have z99 : q_ir (q_r f90 v0 1) l0 := by rw [ef90, q_setr (Or.inl (fun q => by rw [q, khist] at kv0; exact absurd kv0 (by decide)))]; exact hr2
        have z100 : q_ir (q_r f90 v0 2) m0 := by rw [ef90, q_setr (Or.inr (by decide))]; exact hr3
        have g101 : tw_vw K L 10 5 3 4 f90 v0 n0 l0 m0 d0 s0 := tw_vw_tr hw0 (fun a9 h9 k9 c9 => by rw [ef90, q_setz (Or.inl (fun q => by rw [q, khist] at k9; exact absurd k9 (by decide)))]) (fun a9 h9 k9 c9 => by rw [ef90, q_setz (Or.inl (fun q => by rw [q, khist] at k9; exact absurd k9 (by decide)))]) (fun a9 h9 k9 c9 => by rw [ef90, q_setz (Or.inl (fun q => by rw [q, khist] at k9; exact absurd k9 (by decide)))]) (fun a9 h9 k9 c9 => by rw [ef90, q_setz (Or.inl (fun q => by rw [q, khist] at k9; exact absurd k9 (by decide)))]) (fun i9 => by rw [ef90, q_setr (Or.inl (fun q => by rw [q, khist] at kn0; exact absurd kn0 (by decide)))]) (fun i9 => by rw [ef90, q_setr (Or.inl (fun q => by rw [q, khist] at kl0; exact absurd kl0 (by decide)))]) (fun i9 => by rw [ef90, q_setr (Or.inl (fun q => by rw [q, khist] at km0; exact absurd km0 (by decide)))])
        have g102 : tw_nw K L 5 f90 := tw_nw_tr hz0 (fun a9 h9 k9 => by rw [ef90, q_setj (Or.inl (fun q => by rw [q, khist] at k9; exact absurd k9 (by decide)))])
        have g103 : tw_hk K L f90 ka A9 D9 S9 := tw_hk_tr hhk (fun a9 h9 k9 i9 => by rw [ef90]; exact q_set_ne (Or.inl (fun q => by rw [q, khist] at k9; exact absurd k9 (by decide))))
        obtain ⟨d8, v8, n8, l8, m8, ed9, ⟨hv8, kv8⟩, ⟨hn8, kn8⟩, ⟨hl8, kl8⟩, ⟨hm8, km8⟩, ⟨er0, er1, er2, er3⟩, hw9, hz9⟩ := tw_hk_get g103 4 (by decide)
        have kv8 : K v8 = 54 := kv8
        have kn8 : K n8 = 204 := kn8
        have kl8 : K l8 = 210 := kl8
        have km8 : K m8 = 216 := km8
        have hw9 : tw_vw K L 54 60 66 72 f90 v8 n8 l8 m8 d8 (S9 4) := hw9
        have hz9 : tw_nw K L 60 f90 := hz9
        have z104 : q_is (q_z f90 v8 11) tk := tw_kf hw9 (by decide) hp0
        have z105 : q_is (q_z f90 v8 3) nk := tw_kf hw9 (by decide) hp1
        have z106 : q_is (q_z f90 v8 4) lk := tw_kf hw9 (by decide) hp2
        have z107 : q_is (q_z f90 v8 5) mk := tw_kf hw9 (by decide) hp3
        refine q_ald_n cx dX2_takeBack_48 rfl (lv_at hl 1 rfl) ?_
        refine q_ald_n cx dX2_takeBack_49 rfl (lv_at hl 0 rfl) ?_
        refine q_gX2_11 cx hB hhist khist z97 dX2_takeBack_50 (fun hb108 kb108 => ?_)
        refine q_ald_n cx dX2_takeBack_53 rfl (lv_at hl 0 rfl) ?_
        refine q_gX2_20 cx hB hhist khist z91 dX2_takeBack_54 (fun lb109 ub109 => ?_)
        refine q_aald (k2 := 54) (n := 6) cx hB hka kka (by decide) rfl 8 rfl (by decide) rfl (by decide) (by decide) (by decide) rfl er0 dX2_takeBack_57 (fun hb111 kb111 => ?_)
        refine q_cVv (As := [.ref v8]) (rest := []) cx hB (fun _ h => h) hN hv0 kv0 (by decide) rfl (f_vcopy08 l g hN hB.2.1 d0 s0 d8 (S9 4) v0 hv0 kv0 v8 hv8 kv8 n0 hn0 kn0 l0 hl0 kl0 m0 hm0 km0 n8 hn8 kn8 l8 hl8 kl8 m8 hm8 km8 nk (by omega) (by omega) lk (by omega) (by omega) mk (by omega) (by omega) tk (by omega) (by omega) z105 z106 z107 z104 z98 z99 z100 er1 er2 er3 g101 hw9 g102 hz9) q_cX2_23 q_dX10_copyFrom (by decide) rfl rfl hl.1 rfl (Nat.le_of_ble_eq_true rfl) dX2_takeBack_58 (fun H locs f112 h114 hF hB => ?_)
        obtain ⟨z115, z116, z117, z118, g119, g120⟩ := h114
        have z121 : q_is (q_z f112 hist 2) my := Eq.trans (hF.z hhist (by rw [khist]; rfl)) z96
        have z122 : q_is (q_z f112 hist 1) (5 - 1) := Eq.trans (hF.z hhist (by rw [khist]; rfl)) z91
        have z123 : q_is (q_z f112 v8 11) tk := Eq.trans (hF.z hv8 (by rw [kv8]; rfl)) z104
        have z124 : q_is (q_z f112 v8 3) nk := Eq.trans (hF.z hv8 (by rw [kv8]; rfl)) z105
        have z125 : q_is (q_z f112 v8 4) lk := Eq.trans (hF.z hv8 (by rw [kv8]; rfl)) z106
        have z126 : q_is (q_z f112 v8 5) mk := Eq.trans (hF.z hv8 (by rw [kv8]; rfl)) z107
        have z127 : q_ir (q_r f112 hist 0) ka := Eq.trans (hF.r hhist (by rw [khist]; rfl)) z97
        have z128 : q_ir (q_r f112 v0 0) n0 := Eq.trans (hF.r hv0 (by rw [kv0]; rfl)) z98
        have z129 : q_ir (q_r f112 v0 1) l0 := Eq.trans (hF.r hv0 (by rw [kv0]; rfl)) z99
        have z130 : q_ir (q_r f112 v0 2) m0 := Eq.trans (hF.r hv0 (by rw [kv0]; rfl)) z100
        have z131 : q_ir (q_r f112 ka 4) v8 := Eq.trans (hF.r hka (by rw [kka]; rfl)) er0
        have z132 : q_ir (q_r f112 v8 0) n8 := Eq.trans (hF.r hv8 (by rw [kv8]; rfl)) er1
        have z133 : q_ir (q_r f112 v8 1) l8 := Eq.trans (hF.r hv8 (by rw [kv8]; rfl)) er2
        have z134 : q_ir (q_r f112 v8 2) m8 := Eq.trans (hF.r hv8 (by rw [kv8]; rfl)) er3
        have g135 : tw_hk K L f112 ka A9 D9 S9 := tw_hk_tr g103 (fun a9 h9 k9 i9 => hF a9 h9 i9 (tw_krw rfl k9))
        have g136 : tw_vw K L 54 60 66 72 f112 v8 n8 l8 m8 d8 (S9 4) := tw_vw_tr hw9 (fun a9 h9 k9 c9 => hF.z h9 (by rw [k9]; rfl)) (fun a9 h9 k9 c9 => hF.z h9 (by rw [k9]; rfl)) (fun a9 h9 k9 c9 => hF.z h9 (by rw [k9]; rfl)) (fun a9 h9 k9 c9 => hF.z h9 (by rw [k9]; rfl)) (fun i9 => hF.r hn8 (by rw [kn8]; rfl)) (fun i9 => hF.r hl8 (by rw [kl8]; rfl)) (fun i9 => hF.r hm8 (by rw [km8]; rfl))
        have g137 : tw_nw K L 60 f112 := tw_nw_tr hz9 (fun a9 h9 k9 => hF.j h9 (by rw [k9]; rfl))
        refine q_ald_n cx dX2_takeBack_61 rfl (lv_at hl 0 rfl) ?_
        refine lv_dup cx.1 cx.2.1 dX2_takeBack_62 rfl ?_
        refine q_gX2_16 cx hB hhist khist z121 dX2_takeBack_63 (fun lb138 ub138 => ?_)
        refine q_iconst cx dX2_takeBack_66 ?_
        refine q_isub cx dX2_takeBack_67 ?_
        refine q_pX2_16 cx hB hhist khist ⟨by omega, by omega⟩ (by omega) (by omega) rfl dX2_takeBack_68 (fun H locs f139 ef139 z140 hB => ?_)
        have z141 : q_is (q_z f139 hist 1) (5 - 1) := by rw [ef139, q_setz (Or.inr (by decide))]; exact z122
        have z142 : q_is (q_z f139 v8 11) tk := by rw [ef139, q_setz (Or.inr (by decide))]; exact z123
        have z143 : q_is (q_z f139 v8 3) nk := by rw [ef139, q_setz (Or.inr (by decide))]; exact z124
        have z144 : q_is (q_z f139 v8 4) lk := by rw [ef139, q_setz (Or.inr (by decide))]; exact z125
        have z145 : q_is (q_z f139 v8 5) mk := by rw [ef139, q_setz (Or.inr (by decide))]; exact z126
        have z146 : q_is (q_z f139 v0 3) nk := by rw [ef139, q_setz (Or.inr (by decide))]; exact z115
        have z147 : q_is (q_z f139 v0 4) lk := by rw [ef139, q_setz (Or.inr (by decide))]; exact z116
        have z148 : q_is (q_z f139 v0 5) mk := by rw [ef139, q_setz (Or.inr (by decide))]; exact z117
        have z149 : q_is (q_z f139 v0 11) tk := by rw [ef139, q_setz (Or.inr (by decide))]; exact z118
        have z150 : q_ir (q_r f139 hist 0) ka := by rw [ef139, q_setr (Or.inr (by decide))]; exact z127
        have z151 : q_ir (q_r f139 v0 0) n0 := by rw [ef139, q_setr (Or.inr (by decide))]; exact z128
        have z152 : q_ir (q_r f139 v0 1) l0 := by rw [ef139, q_setr (Or.inr (by decide))]; exact z129
        have z153 : q_ir (q_r f139 v0 2) m0 := by rw [ef139, q_setr (Or.inl (fun q => by rw [q, khist] at kv0; exact absurd kv0 (by decide)))]; exact z130
        have z154 : q_ir (q_r f139 ka 4) v8 := by rw [ef139, q_setr (Or.inr (by decide))]; exact z131
        have z155 : q_ir (q_r f139 v8 0) n8 := by rw [ef139, q_setr (Or.inr (by decide))]; exact z132
        have z156 : q_ir (q_r f139 v8 1) l8 := by rw [ef139, q_setr (Or.inr (by decide))]; exact z133
        have z157 : q_ir (q_r f139 v8 2) m8 := by rw [ef139, q_setr (Or.inl (fun q => by rw [q, khist] at kv8; exact absurd kv8 (by decide)))]; exact z134
        have g158 : tw_hk K L f139 ka A9 D9 S9 := tw_hk_tr g135 (fun a9 h9 k9 i9 => by rw [ef139]; exact q_set_ne (Or.inl (fun q => by rw [q, khist] at k9; exact absurd k9 (by decide))))
        have g159 : tw_vw K L 54 60 66 72 f139 v8 n8 l8 m8 d8 (S9 4) := tw_vw_tr g136 (fun a9 h9 k9 c9 => by rw [ef139, q_setz (Or.inl (fun q => by rw [q, khist] at k9; exact absurd k9 (by decide)))]) (fun a9 h9 k9 c9 => by rw [ef139, q_setz (Or.inl (fun q => by rw [q, khist] at k9; exact absurd k9 (by decide)))]) (fun a9 h9 k9 c9 => by rw [ef139, q_setz (Or.inl (fun q => by rw [q, khist] at k9; exact absurd k9 (by decide)))]) (fun a9 h9 k9 c9 => by rw [ef139, q_setz (Or.inl (fun q => by rw [q, khist] at k9; exact absurd k9 (by decide)))]) (fun i9 => by rw [ef139, q_setr (Or.inl (fun q => by rw [q, khist] at kn8; exact absurd kn8 (by decide)))]) (fun i9 => by rw [ef139, q_setr (Or.inl (fun q => by rw [q, khist] at kl8; exact absurd kl8 (by decide)))]) (fun i9 => by rw [ef139, q_setr (Or.inl (fun q => by rw [q, khist] at km8; exact absurd km8 (by decide)))])
        have g160 : tw_nw K L 60 f139 := tw_nw_tr g137 (fun a9 h9 k9 => by rw [ef139, q_setj (Or.inl (fun q => by rw [q, khist] at k9; exact absurd k9 (by decide)))])
        have g161 : tw_vw K L 10 5 3 4 f139 v0 n0 l0 m0 d0 (tw_cp s0 (S9 4)) := tw_vw_tr g119 (fun a9 h9 k9 c9 => by rw [ef139, q_setz (Or.inl (fun q => by rw [q, khist] at k9; exact absurd k9 (by decide)))]) (fun a9 h9 k9 c9 => by rw [ef139, q_setz (Or.inl (fun q => by rw [q, khist] at k9; exact absurd k9 (by decide)))]) (fun a9 h9 k9 c9 => by rw [ef139, q_setz (Or.inl (fun q => by rw [q, khist] at k9; exact absurd k9 (by decide)))]) (fun a9 h9 k9 c9 => by rw [ef139, q_setz (Or.inl (fun q => by rw [q, khist] at k9; exact absurd k9 (by decide)))]) (fun i9 => by rw [ef139, q_setr (Or.inl (fun q => by rw [q, khist] at kn0; exact absurd kn0 (by decide)))]) (fun i9 => by rw [ef139, q_setr (Or.inl (fun q => by rw [q, khist] at kl0; exact absurd kl0 (by decide)))]) (fun i9 => by rw [ef139, q_setr (Or.inl (fun q => by rw [q, khist] at km0; exact absurd km0 (by decide)))])
        have g162 : tw_nw K L 5 f139 := tw_nw_tr g120 (fun a9 h9 k9 => by rw [ef139, q_setj (Or.inl (fun q => by rw [q, khist] at k9; exact absurd k9 (by decide)))])
        refine q_iconst cx dX2_takeBack_71 ?_
        refine q_zret cx hr hlk hB dX2_takeBack_72 (by decide) (by decide) ?_
        exact ⟨rfl, (Eq.trans z141 (by omega)), z140, z149, z146, z147, z148, g161, g162, g158⟩
  · exact absurd c83 (by omega)
set_option maxHeartbeats 4000000 in
set_option maxRecDepth 100000 in
theorem f_keep_6 (l : Launch) (g : q_G) {K : Nat → Nat} {L : List Nat} (hN : L.Nodup) {f : Nat → va_E} (hT : q_Ty g K L f) (d0 : Nat → Nat) (s0 : tw_S) (A9 : Nat → Nat → Nat) (D9 : Nat → Nat → Nat) (S9 : Nat → tw_S) (hist : Nat) (hhist : hist ∈ L) (khist : K hist = 2) (v0 : Nat) (hv0 : v0 ∈ L) (kv0 : K v0 = 10) (n0 : Nat) (hn0 : n0 ∈ L) (kn0 : K n0 = 110) (l0 : Nat) (hl0 : l0 ∈ L) (kl0 : K l0 = 120) (m0 : Nat) (hm0 : m0 ∈ L) (km0 : K m0 = 130) (ka : Nat) (hka : ka ∈ L) (kka : K ka = 218) (tm : Int) (ltm : 0 ≤ tm) (utm : tm ≤ 9000) (nn : Int) (lnn : 0 ≤ nn) (unn : nn ≤ 10) (ln : Int) (lln : 0 ≤ ln) (uln : ln ≤ 16) (mn : Int) (lmn : 0 ≤ mn) (umn : mn ≤ 61) (my : Int) (lmy : 0 ≤ my) (umy : my ≤ 6) (hf0 : q_is (q_z f v0 11) tm) (hf1 : q_is (q_z f v0 3) nn) (hf2 : q_is (q_z f v0 4) ln) (hf3 : q_is (q_z f v0 5) mn) (hf4 : q_is (q_z f hist 1) 6) (hf5 : q_is (q_z f hist 2) my) (hr0 : q_ir (q_r f hist 0) ka) (hr1 : q_ir (q_r f v0 0) n0) (hr2 : q_ir (q_r f v0 1) l0) (hr3 : q_ir (q_r f v0 2) m0) (hw0 : tw_vw K L 10 5 3 4 f v0 n0 l0 m0 d0 s0) (hz0 : tw_nw K L 5 f) (hhk : tw_hk K L f ka A9 D9 S9) : q_Ct l g K L yX2_keep cX2_keep 2 none 2 43 [.ref hist, .ref v0] f [(2, 1, 2), (50, 3, 12), (56, 0, 8), (62, 0, 4), (68, 0, 7)] (q_Pv (fun (f1 : Nat → va_E) => q_is (q_z f1 hist 1) 1 ∧ (q_is (q_z f1 hist 2) (min 6 (my + 1))) ∧ (tw_hk K L f1 ka A9 D9 (tw_hu S9 0 (tw_cp (S9 0) s0))))) := by
  refine q_ofb (by decide +kernel) hN hT (Nat.le_of_ble_eq_true rfl) ?_
  intro p e s m below meth c ls cx hr hlk hB hl
  have hl : lv_has ls 2 [(0, .ref hist), (1, .ref v0)] := hl
  obtain ⟨H, hH⟩ : ∃ H : Heap, H = s.heap := ⟨_, rfl⟩
  obtain ⟨locs, hlocs⟩ : ∃ z : List Loc, z = [] := ⟨_, rfl⟩
  rw [← hH, ← hlocs] at hB
  rw [← hH, ← hlocs]
  refine q_ald_n cx dX2_keep_0 rfl (lv_at hl 0 rfl) ?_
  refine q_gX2_20 cx hB hhist khist hf4 dX2_keep_1 (fun lb80 ub80 => ?_)
  refine q_iflt (tgt := 19) cx ⟨by decide, by decide⟩ dX2_keep_4 (by decide) (fun c81 => ?_) (fun c81 => ?_)
  · exact absurd c81 (by omega)
  · refine q_ald_n cx dX2_keep_7 rfl (lv_at hl 0 rfl) ?_
    refine q_gX2_20 cx hB hhist khist hf4 dX2_keep_8 (fun lb82 ub82 => ?_)
    refine q_ald_n cx dX2_keep_11 rfl (lv_at hl 0 rfl) ?_
    refine q_gX2_11 cx hB hhist khist hr0 dX2_keep_12 (fun hb83 kb83 => ?_)
    refine q_alen (n := 6) cx hB hka kka (by decide) rfl 8 rfl rfl dX2_keep_15 ?_
    refine q_iclt (tgt := 24) cx ⟨by decide, by decide⟩ ⟨by decide, by decide⟩ dX2_keep_16 (by decide) (fun c84 => ?_) (fun c84 => ?_)
    · exact absurd c84 (by omega)
    · refine q_ald_n cx dX2_keep_19 rfl (lv_at hl 0 rfl) ?_
      refine q_iconst cx dX2_keep_20 ?_
      refine q_pX2_20 cx hB hhist khist ⟨by decide, by decide⟩ (by decide) (by decide) rfl dX2_keep_21 (fun H locs f85 ef85 z86 hB => ?_)
      have z87 : q_is (q_z f85 v0 11) tm := by rw [ef85, q_setz (Or.inr (by decide))]; exact hf0
      have z88 : q_is (q_z f85 v0 3) nn := by rw [ef85, q_setz (Or.inr (by decide))]; exact hf1
      have z89 : q_is (q_z f85 v0 4) ln := by rw [ef85, q_setz (Or.inr (by decide))]; exact hf2
      have z90 : q_is (q_z f85 v0 5) mn := by rw [ef85, q_setz (Or.inr (by decide))]; exact hf3
      have z91 : q_is (q_z f85 hist 2) my := by rw [ef85, q_setz (Or.inr (by decide))]; exact hf5
      have z92 : q_ir (q_r f85 hist 0) ka := by rw [ef85, q_setr (Or.inr (by decide))]; exact hr0
      have z93 : q_ir (q_r f85 v0 0) n0 := by rw [ef85, q_setr (Or.inr (by decide))]; exact hr1
      have z94 : q_ir (q_r f85 v0 1) l0 := by rw [ef85, q_setr (Or.inl (fun q => by rw [q, khist] at kv0; exact absurd kv0 (by decide)))]; exact hr2
      have z95 : q_ir (q_r f85 v0 2) m0 := by rw [ef85, q_setr (Or.inr (by decide))]; exact hr3
      have g96 : tw_vw K L 10 5 3 4 f85 v0 n0 l0 m0 d0 s0 := tw_vw_tr hw0 (fun a9 h9 k9 c9 => by rw [ef85, q_setz (Or.inl (fun q => by rw [q, khist] at k9; exact absurd k9 (by decide)))]) (fun a9 h9 k9 c9 => by rw [ef85, q_setz (Or.inl (fun q => by rw [q, khist] at k9; exact absurd k9 (by decide)))]) (fun a9 h9 k9 c9 => by rw [ef85, q_setz (Or.inl (fun q => by rw [q, khist] at k9; exact absurd k9 (by decide)))]) (fun a9 h9 k9 c9 => by rw [ef85, q_setz (Or.inl (fun q => by rw [q, khist] at k9; exact absurd k9 (by decide)))]) (fun i9 => by rw [ef85, q_setr (Or.inl (fun q => by rw [q, khist] at kn0; exact absurd kn0 (by decide)))]) (fun i9 => by rw [ef85, q_setr (Or.inl (fun q => by rw [q, khist] at kl0; exact absurd kl0 (by decide)))]) (fun i9 => by rw [ef85, q_setr (Or.inl (fun q => by rw [q, khist] at km0; exact absurd km0 (by decide)))])
      have g97 : tw_nw K L 5 f85 := tw_nw_tr hz0 (fun a9 h9 k9 => by rw [ef85, q_setj (Or.inl (fun q => by rw [q, khist] at k9; exact absurd k9 (by decide)))])
      have g98 : tw_hk K L f85 ka A9 D9 S9 := tw_hk_tr hhk (fun a9 h9 k9 i9 => by rw [ef85]; exact q_set_ne (Or.inl (fun q => by rw [q, khist] at k9; exact absurd k9 (by decide))))
      obtain ⟨d4, v4, n4, l4, m4, ed9, ⟨hv4, kv4⟩, ⟨hn4, kn4⟩, ⟨hl4, kl4⟩, ⟨hm4, km4⟩, ⟨er0, er1, er2, er3⟩, hw9, hz9⟩ := tw_hk_get g98 0 (by decide)
      have kv4 : K v4 = 50 := kv4
      have kn4 : K n4 = 200 := kn4
      have kl4 : K l4 = 206 := kl4
      have km4 : K m4 = 212 := km4
      have hw9 : tw_vw K L 50 56 62 68 f85 v4 n4 l4 m4 d4 (S9 0) := hw9
      have hz9 : tw_nw K L 56 f85 := hz9
      refine q_ald_n cx dX2_keep_24 rfl (lv_at hl 0 rfl) ?_
      refine q_gX2_11 cx hB hhist khist z92 dX2_keep_25 (fun hb99 kb99 => ?_)
      refine q_ald_n cx dX2_keep_28 rfl (lv_at hl 0 rfl) ?_
      refine q_gX2_20 cx hB hhist khist z86 dX2_keep_29 (fun lb100 ub100 => ?_)
      refine q_aald (k2 := 50) (n := 6) cx hB hka kka (by decide) rfl 8 rfl (by decide) rfl (by decide) (by decide) (by decide) rfl er0 dX2_keep_32 (fun hb102 kb102 => ?_)
      refine q_ald_n cx dX2_keep_33 rfl (lv_at hl 1 rfl) ?_
      refine q_cVv (As := [.ref v0]) (rest := []) cx hB (fun _ h => h) hN hv4 kv4 (by decide) rfl (f_vcopy40 l g hN hB.2.1 d4 (S9 0) d0 s0 v4 hv4 kv4 v0 hv0 kv0 n4 hn4 kn4 l4 hl4 kl4 m4 hm4 km4 n0 hn0 kn0 l0 hl0 kl0 m0 hm0 km0 nn (by omega) (by omega) ln (by omega) (by omega) mn (by omega) (by omega) tm (by omega) (by omega) z88 z89 z90 z87 er1 er2 er3 z93 z94 z95 hw9 g96 hz9 g97) q_cX2_23 q_dX10_copyFrom (by decide) rfl rfl hl.1 rfl (Nat.le_of_ble_eq_true rfl) dX2_keep_34 (fun H locs f103 h105 hF hB => ?_)
      obtain ⟨z106, z107, z108, z109, g110, g111⟩ := h105
      have z112 : q_is (q_z f103 v0 11) tm := Eq.trans (hF.z hv0 (by rw [kv0]; rfl)) z87
      have z113 : q_is (q_z f103 v0 3) nn := Eq.trans (hF.z hv0 (by rw [kv0]; rfl)) z88
      have z114 : q_is (q_z f103 v0 4) ln := Eq.trans (hF.z hv0 (by rw [kv0]; rfl)) z89
      have z115 : q_is (q_z f103 v0 5) mn := Eq.trans (hF.z hv0 (by rw [kv0]; rfl)) z90
      have z116 : q_is (q_z f103 hist 2) my := Eq.trans (hF.z hhist (by rw [khist]; rfl)) z91
      have z117 : q_is (q_z f103 hist 1) 0 := Eq.trans (hF.z hhist (by rw [khist]; rfl)) z86
      have z118 : q_ir (q_r f103 hist 0) ka := Eq.trans (hF.r hhist (by rw [khist]; rfl)) z92
      have z119 : q_ir (q_r f103 v0 0) n0 := Eq.trans (hF.r hv0 (by rw [kv0]; rfl)) z93
      have z120 : q_ir (q_r f103 v0 1) l0 := Eq.trans (hF.r hv0 (by rw [kv0]; rfl)) z94
      have z121 : q_ir (q_r f103 v0 2) m0 := Eq.trans (hF.r hv0 (by rw [kv0]; rfl)) z95
      have z122 : q_ir (q_r f103 ka 0) v4 := Eq.trans (hF.r hka (by rw [kka]; rfl)) er0
      have z123 : q_ir (q_r f103 v4 0) n4 := Eq.trans (hF.r hv4 (by rw [kv4]; rfl)) er1
      have z124 : q_ir (q_r f103 v4 1) l4 := Eq.trans (hF.r hv4 (by rw [kv4]; rfl)) er2
      have z125 : q_ir (q_r f103 v4 2) m4 := Eq.trans (hF.r hv4 (by rw [kv4]; rfl)) er3
      have g126 : tw_vw K L 10 5 3 4 f103 v0 n0 l0 m0 d0 s0 := tw_vw_tr g96 (fun a9 h9 k9 c9 => hF.z h9 (by rw [k9]; rfl)) (fun a9 h9 k9 c9 => hF.z h9 (by rw [k9]; rfl)) (fun a9 h9 k9 c9 => hF.z h9 (by rw [k9]; rfl)) (fun a9 h9 k9 c9 => hF.z h9 (by rw [k9]; rfl)) (fun i9 => hF.r hn0 (by rw [kn0]; rfl)) (fun i9 => hF.r hl0 (by rw [kl0]; rfl)) (fun i9 => hF.r hm0 (by rw [km0]; rfl))
      have g127 : tw_nw K L 5 f103 := tw_nw_tr g97 (fun a9 h9 k9 => hF.j h9 (by rw [k9]; rfl))
      have hk9 : tw_hk K L f103 ka A9 D9 (tw_hu S9 0 (tw_cp (S9 0) s0)) := tw_hk_up g98 0 (by decide) hF rfl ed9 g110 g111
      refine q_ald_n cx dX2_keep_37 rfl (lv_at hl 0 rfl) ?_
      refine lv_dup cx.1 cx.2.1 dX2_keep_38 rfl ?_
      refine q_gX2_20 cx hB hhist khist z117 dX2_keep_39 (fun lb128 ub128 => ?_)
      refine q_iconst cx dX2_keep_42 ?_
      refine q_iadd cx dX2_keep_43 ?_
      refine q_pX2_20 cx hB hhist khist ⟨by decide, by decide⟩ (by decide) (by decide) rfl dX2_keep_44 (fun H locs f129 ef129 z130 hB => ?_)
      have z131 : q_is (q_z f129 v0 11) tm := by rw [ef129, q_setz (Or.inr (by decide))]; exact z112
      have z132 : q_is (q_z f129 v0 3) nn := by rw [ef129, q_setz (Or.inr (by decide))]; exact z113
      have z133 : q_is (q_z f129 v0 4) ln := by rw [ef129, q_setz (Or.inr (by decide))]; exact z114
      have z134 : q_is (q_z f129 v0 5) mn := by rw [ef129, q_setz (Or.inr (by decide))]; exact z115
      have z135 : q_is (q_z f129 hist 2) my := by rw [ef129, q_setz (Or.inr (by decide))]; exact z116
      have z136 : q_ir (q_r f129 hist 0) ka := by rw [ef129, q_setr (Or.inr (by decide))]; exact z118
      have z137 : q_ir (q_r f129 v0 0) n0 := by rw [ef129, q_setr (Or.inr (by decide))]; exact z119
      have z138 : q_ir (q_r f129 v0 1) l0 := by rw [ef129, q_setr (Or.inl (fun q => by rw [q, khist] at kv0; exact absurd kv0 (by decide)))]; exact z120
      have z139 : q_ir (q_r f129 v0 2) m0 := by rw [ef129, q_setr (Or.inr (by decide))]; exact z121
      have g140 : tw_vw K L 10 5 3 4 f129 v0 n0 l0 m0 d0 s0 := tw_vw_tr g126 (fun a9 h9 k9 c9 => by rw [ef129, q_setz (Or.inl (fun q => by rw [q, khist] at k9; exact absurd k9 (by decide)))]) (fun a9 h9 k9 c9 => by rw [ef129, q_setz (Or.inl (fun q => by rw [q, khist] at k9; exact absurd k9 (by decide)))]) (fun a9 h9 k9 c9 => by rw [ef129, q_setz (Or.inl (fun q => by rw [q, khist] at k9; exact absurd k9 (by decide)))]) (fun a9 h9 k9 c9 => by rw [ef129, q_setz (Or.inl (fun q => by rw [q, khist] at k9; exact absurd k9 (by decide)))]) (fun i9 => by rw [ef129, q_setr (Or.inl (fun q => by rw [q, khist] at kn0; exact absurd kn0 (by decide)))]) (fun i9 => by rw [ef129, q_setr (Or.inl (fun q => by rw [q, khist] at kl0; exact absurd kl0 (by decide)))]) (fun i9 => by rw [ef129, q_setr (Or.inl (fun q => by rw [q, khist] at km0; exact absurd km0 (by decide)))])
      have g141 : tw_nw K L 5 f129 := tw_nw_tr g127 (fun a9 h9 k9 => by rw [ef129, q_setj (Or.inl (fun q => by rw [q, khist] at k9; exact absurd k9 (by decide)))])
      have g142 : tw_hk K L f129 ka A9 D9 (tw_hu S9 0 (tw_cp (S9 0) s0)) := tw_hk_tr hk9 (fun a9 h9 k9 i9 => by rw [ef129]; exact q_set_ne (Or.inl (fun q => by rw [q, khist] at k9; exact absurd k9 (by decide))))
      refine q_ald_n cx dX2_keep_47 rfl (lv_at hl 0 rfl) ?_
      refine q_bipush cx dX2_keep_48 rfl ?_
      refine q_ald_n cx dX2_keep_50 rfl (lv_at hl 0 rfl) ?_
      refine q_gX2_16 cx hB hhist khist z135 dX2_keep_51 (fun lb143 ub143 => ?_)
      refine q_iconst cx dX2_keep_54 ?_
      refine q_iadd cx dX2_keep_55 ?_
      refine q_mmin (rest := [.ref hist]) cx hl.1 q_h1383 q_h994 q_h56 q_h995 (by decide) (Nat.le_of_ble_eq_true rfl) (by decide) (by decide) ⟨by decide, by decide⟩ ⟨by omega, by omega⟩ dX2_keep_56 (fun y144 ay144 by144 ey144 => ?_)
      refine q_pX2_16 cx hB hhist khist ⟨by omega, by omega⟩ (by omega) (by omega) rfl dX2_keep_59 (fun H locs f145 ef145 z146 hB => ?_)
      have z147 : q_is (q_z f145 v0 11) tm := by rw [ef145, q_setz (Or.inr (by decide))]; exact z131
      have z148 : q_is (q_z f145 v0 3) nn := by rw [ef145, q_setz (Or.inr (by decide))]; exact z132
      have z149 : q_is (q_z f145 v0 4) ln := by rw [ef145, q_setz (Or.inr (by decide))]; exact z133
      have z150 : q_is (q_z f145 v0 5) mn := by rw [ef145, q_setz (Or.inr (by decide))]; exact z134
      have z151 : q_is (q_z f145 hist 1) (0 + 1) := by rw [ef145, q_setz (Or.inr (by decide))]; exact z130
      have z152 : q_ir (q_r f145 hist 0) ka := by rw [ef145, q_setr (Or.inr (by decide))]; exact z136
      have z153 : q_ir (q_r f145 v0 0) n0 := by rw [ef145, q_setr (Or.inr (by decide))]; exact z137
      have z154 : q_ir (q_r f145 v0 1) l0 := by rw [ef145, q_setr (Or.inr (by decide))]; exact z138
      have z155 : q_ir (q_r f145 v0 2) m0 := by rw [ef145, q_setr (Or.inl (fun q => by rw [q, khist] at kv0; exact absurd kv0 (by decide)))]; exact z139
      have g156 : tw_vw K L 10 5 3 4 f145 v0 n0 l0 m0 d0 s0 := tw_vw_tr g140 (fun a9 h9 k9 c9 => by rw [ef145, q_setz (Or.inl (fun q => by rw [q, khist] at k9; exact absurd k9 (by decide)))]) (fun a9 h9 k9 c9 => by rw [ef145, q_setz (Or.inl (fun q => by rw [q, khist] at k9; exact absurd k9 (by decide)))]) (fun a9 h9 k9 c9 => by rw [ef145, q_setz (Or.inl (fun q => by rw [q, khist] at k9; exact absurd k9 (by decide)))]) (fun a9 h9 k9 c9 => by rw [ef145, q_setz (Or.inl (fun q => by rw [q, khist] at k9; exact absurd k9 (by decide)))]) (fun i9 => by rw [ef145, q_setr (Or.inl (fun q => by rw [q, khist] at kn0; exact absurd kn0 (by decide)))]) (fun i9 => by rw [ef145, q_setr (Or.inl (fun q => by rw [q, khist] at kl0; exact absurd kl0 (by decide)))]) (fun i9 => by rw [ef145, q_setr (Or.inl (fun q => by rw [q, khist] at km0; exact absurd km0 (by decide)))])
      have g157 : tw_nw K L 5 f145 := tw_nw_tr g141 (fun a9 h9 k9 => by rw [ef145, q_setj (Or.inl (fun q => by rw [q, khist] at k9; exact absurd k9 (by decide)))])
      have g158 : tw_hk K L f145 ka A9 D9 (tw_hu S9 0 (tw_cp (S9 0) s0)) := tw_hk_tr g142 (fun a9 h9 k9 i9 => by rw [ef145]; exact q_set_ne (Or.inl (fun q => by rw [q, khist] at k9; exact absurd k9 (by decide))))
      refine q_vret cx hr hlk hB dX2_keep_62 ?_
      exact ⟨(Eq.trans z151 (by omega)), (Eq.trans z146 (by omega)), g158⟩
set_option maxHeartbeats 4000000 in
set_option maxRecDepth 100000 in
theorem f_takeBack_6 (l : Launch) (g : q_G) {K : Nat → Nat} {L : List Nat} (hN : L.Nodup) {f : Nat → va_E} (hT : q_Ty g K L f) (d0 : Nat → Nat) (s0 : tw_S) (A9 : Nat → Nat → Nat) (D9 : Nat → Nat → Nat) (S9 : Nat → tw_S) (hist : Nat) (hhist : hist ∈ L) (khist : K hist = 2) (v0 : Nat) (hv0 : v0 ∈ L) (kv0 : K v0 = 10) (n0 : Nat) (hn0 : n0 ∈ L) (kn0 : K n0 = 110) (l0 : Nat) (hl0 : l0 ∈ L) (kl0 : K l0 = 120) (m0 : Nat) (hm0 : m0 ∈ L) (km0 : K m0 = 130) (ka : Nat) (hka : ka ∈ L) (kka : K ka = 218) (tm : Int) (ltm : 0 ≤ tm) (utm : tm ≤ 9000) (nn : Int) (lnn : 0 ≤ nn) (unn : nn ≤ 10) (ln : Int) (lln : 0 ≤ ln) (uln : ln ≤ 16) (mn : Int) (lmn : 0 ≤ mn) (umn : mn ≤ 61) (my : Int) (lmy : 1 ≤ my) (umy : my ≤ 6) (tk : Int) (ltk : 0 ≤ tk) (utk : tk ≤ 9000) (nk : Int) (lnk : 0 ≤ nk) (unk : nk ≤ 10) (lk : Int) (llk : 0 ≤ lk) (ulk : lk ≤ 16) (mk : Int) (lmk : 0 ≤ mk) (umk : mk ≤ 61) (hf0 : q_is (q_z f v0 11) tm) (hf1 : q_is (q_z f v0 3) nn) (hf2 : q_is (q_z f v0 4) ln) (hf3 : q_is (q_z f v0 5) mn) (hf4 : q_is (q_z f hist 1) 6) (hf5 : q_is (q_z f hist 2) my) (hr0 : q_ir (q_r f hist 0) ka) (hr1 : q_ir (q_r f v0 0) n0) (hr2 : q_ir (q_r f v0 1) l0) (hr3 : q_ir (q_r f v0 2) m0) (hp0 : (S9 5) 0 11 = tk) (hp1 : (S9 5) 0 3 = nk) (hp2 : (S9 5) 0 4 = lk) (hp3 : (S9 5) 0 5 = mk) (hw0 : tw_vw K L 10 5 3 4 f v0 n0 l0 m0 d0 s0) (hz0 : tw_nw K L 5 f) (hhk : tw_hk K L f ka A9 D9 S9) : q_Ct l g K L yX2_takeBack cX2_takeBack 2 (some .boolean) 2 43 [.ref hist, .ref v0] f [(2, 1, 2), (3, 0, 4), (4, 0, 7), (5, 0, 8), (10, 3, 12)] (q_Pi (fun (z : Int) (f1 : Nat → va_E) => z = 1 ∧ q_is (q_z f1 hist 1) 5 ∧ q_is (q_z f1 hist 2) (my - 1) ∧ q_is (q_z f1 v0 11) tk ∧ q_is (q_z f1 v0 3) nk ∧ q_is (q_z f1 v0 4) lk ∧ q_is (q_z f1 v0 5) mk ∧ (tw_vw K L 10 5 3 4 f1 v0 n0 l0 m0 d0 (tw_cp s0 (S9 5))) ∧ (tw_nw K L 5 f1) ∧ (tw_hk K L f1 ka A9 D9 S9))) := by
  refine q_ofb (by decide +kernel) hN hT (Nat.le_of_ble_eq_true rfl) ?_
  intro p e s m below meth c ls cx hr hlk hB hl
  have hl : lv_has ls 2 [(0, .ref hist), (1, .ref v0)] := hl
  obtain ⟨H, hH⟩ : ∃ H : Heap, H = s.heap := ⟨_, rfl⟩
  obtain ⟨locs, hlocs⟩ : ∃ z : List Loc, z = [] := ⟨_, rfl⟩
  rw [← hH, ← hlocs] at hB
  rw [← hH, ← hlocs]
  refine q_ald_n cx dX2_takeBack_0 rfl (lv_at hl 0 rfl) ?_
  refine q_gX2_16 cx hB hhist khist hf5 dX2_takeBack_1 (fun lb82 ub82 => ?_)
  refine q_ifne (tgt := 9) cx ⟨by omega, by omega⟩ dX2_takeBack_4 (by decide) (fun c83 => ?_) (fun c83 => ?_)
  · refine q_ald_n cx dX2_takeBack_9 rfl (lv_at hl 0 rfl) ?_
    refine q_ald_n cx dX2_takeBack_10 rfl (lv_at hl 0 rfl) ?_
    refine q_gX2_20 cx hB hhist khist hf4 dX2_takeBack_11 (fun lb84 ub84 => ?_)
    refine q_ifle (tgt := 38) cx ⟨by decide, by decide⟩ dX2_takeBack_14 (by decide) (fun c85 => ?_) (fun c85 => ?_)
    · exact absurd c85 (by omega)
    · refine q_ald_n cx dX2_takeBack_17 rfl (lv_at hl 0 rfl) ?_
      refine q_gX2_20 cx hB hhist khist hf4 dX2_takeBack_18 (fun lb86 ub86 => ?_)
      refine q_ald_n cx dX2_takeBack_21 rfl (lv_at hl 0 rfl) ?_
      refine q_gX2_11 cx hB hhist khist hr0 dX2_takeBack_22 (fun hb87 kb87 => ?_)
      refine q_alen (n := 6) cx hB hka kka (by decide) rfl 8 rfl rfl dX2_takeBack_25 ?_
      refine q_icgt (tgt := 38) cx ⟨by decide, by decide⟩ ⟨by decide, by decide⟩ dX2_takeBack_26 (by decide) (fun c88 => ?_) (fun c88 => ?_)
      · exact absurd c88 (by omega)
      · refine q_ald_n cx dX2_takeBack_29 rfl (lv_at hl 0 rfl) ?_
        refine q_gX2_20 cx hB hhist khist hf4 dX2_takeBack_30 (fun lb89 ub89 => ?_)
        refine q_iconst cx dX2_takeBack_33 ?_
        refine q_isub cx dX2_takeBack_34 ?_
        refine lv_goto (tgt := 45) cx.1 cx.2.1 dX2_takeBack_35 (by decide) ?_
        refine q_pX2_20 cx hB hhist khist ⟨by decide, by decide⟩ (by decide) (by decide) rfl dX2_takeBack_45 (fun H locs f90 ef90 z91 hB => ?_)
        have z92 : q_is (q_z f90 v0 11) tm := by rw [ef90, q_setz (Or.inr (by decide))]; exact hf0
        have z93 : q_is (q_z f90 v0 3) nn := by rw [ef90, q_setz (Or.inr (by decide))]; exact hf1
        have z94 : q_is (q_z f90 v0 4) ln := by rw [ef90, q_setz (Or.inr (by decide))]; exact hf2
        have z95 : q_is (q_z f90 v0 5) mn := by rw [ef90, q_setz (Or.inr (by decide))]; exact hf3
        have z96 : q_is (q_z f90 hist 2) my := by rw [ef90, q_setz (Or.inr (by decide))]; exact hf5
        have z97 : q_ir (q_r f90 hist 0) ka := by rw [ef90, q_setr (Or.inr (by decide))]; exact hr0
        have z98 : q_ir (q_r f90 v0 0) n0 := by rw [ef90, q_setr (Or.inr (by decide))]; exact hr1
        have z99 : q_ir (q_r f90 v0 1) l0 := by rw [ef90, q_setr (Or.inl (fun q => by rw [q, khist] at kv0; exact absurd kv0 (by decide)))]; exact hr2
        have z100 : q_ir (q_r f90 v0 2) m0 := by rw [ef90, q_setr (Or.inr (by decide))]; exact hr3
        have g101 : tw_vw K L 10 5 3 4 f90 v0 n0 l0 m0 d0 s0 := tw_vw_tr hw0 (fun a9 h9 k9 c9 => by rw [ef90, q_setz (Or.inl (fun q => by rw [q, khist] at k9; exact absurd k9 (by decide)))]) (fun a9 h9 k9 c9 => by rw [ef90, q_setz (Or.inl (fun q => by rw [q, khist] at k9; exact absurd k9 (by decide)))]) (fun a9 h9 k9 c9 => by rw [ef90, q_setz (Or.inl (fun q => by rw [q, khist] at k9; exact absurd k9 (by decide)))]) (fun a9 h9 k9 c9 => by rw [ef90, q_setz (Or.inl (fun q => by rw [q, khist] at k9; exact absurd k9 (by decide)))]) (fun i9 => by rw [ef90, q_setr (Or.inl (fun q => by rw [q, khist] at kn0; exact absurd kn0 (by decide)))]) (fun i9 => by rw [ef90, q_setr (Or.inl (fun q => by rw [q, khist] at kl0; exact absurd kl0 (by decide)))]) (fun i9 => by rw [ef90, q_setr (Or.inl (fun q => by rw [q, khist] at km0; exact absurd km0 (by decide)))])
        have g102 : tw_nw K L 5 f90 := tw_nw_tr hz0 (fun a9 h9 k9 => by rw [ef90, q_setj (Or.inl (fun q => by rw [q, khist] at k9; exact absurd k9 (by decide)))])
        have g103 : tw_hk K L f90 ka A9 D9 S9 := tw_hk_tr hhk (fun a9 h9 k9 i9 => by rw [ef90]; exact q_set_ne (Or.inl (fun q => by rw [q, khist] at k9; exact absurd k9 (by decide))))
        obtain ⟨d9, v9, n9, l9, m9, ed9, ⟨hv9, kv9⟩, ⟨hn9, kn9⟩, ⟨hl9, kl9⟩, ⟨hm9, km9⟩, ⟨er0, er1, er2, er3⟩, hw9, hz9⟩ := tw_hk_get g103 5 (by decide)
        have kv9 : K v9 = 55 := kv9
        have kn9 : K n9 = 205 := kn9
        have kl9 : K l9 = 211 := kl9
        have km9 : K m9 = 217 := km9
        have hw9 : tw_vw K L 55 61 67 73 f90 v9 n9 l9 m9 d9 (S9 5) := hw9
        have hz9 : tw_nw K L 61 f90 := hz9
        have z104 : q_is (q_z f90 v9 11) tk := tw_kf hw9 (by decide) hp0
        have z105 : q_is (q_z f90 v9 3) nk := tw_kf hw9 (by decide) hp1
        have z106 : q_is (q_z f90 v9 4) lk := tw_kf hw9 (by decide) hp2
        have z107 : q_is (q_z f90 v9 5) mk := tw_kf hw9 (by decide) hp3
        refine q_ald_n cx dX2_takeBack_48 rfl (lv_at hl 1 rfl) ?_
        refine q_ald_n cx dX2_takeBack_49 rfl (lv_at hl 0 rfl) ?_
        refine q_gX2_11 cx hB hhist khist z97 dX2_takeBack_50 (fun hb108 kb108 => ?_)
        refine q_ald_n cx dX2_takeBack_53 rfl (lv_at hl 0 rfl) ?_
        refine q_gX2_20 cx hB hhist khist z91 dX2_takeBack_54 (fun lb109 ub109 => ?_)
        refine q_aald (k2 := 55) (n := 6) cx hB hka kka (by decide) rfl 8 rfl (by decide) rfl (by decide) (by decide) (by decide) rfl er0 dX2_takeBack_57 (fun hb111 kb111 => ?_)
        refine q_cVv (As := [.ref v9]) (rest := []) cx hB (fun _ h => h) hN hv0 kv0 (by decide) rfl (f_vcopy09 l g hN hB.2.1 d0 s0 d9 (S9 5) v0 hv0 kv0 v9 hv9 kv9 n0 hn0 kn0 l0 hl0 kl0 m0 hm0 km0 n9 hn9 kn9 l9 hl9 kl9 m9 hm9 km9 nk (by omega) (by omega) lk (by omega) (by omega) mk (by omega) (by omega) tk (by omega) (by omega) z105 z106 z107 z104 z98 z99 z100 er1 er2 er3 g101 hw9 g102 hz9) q_cX2_23 q_dX10_copyFrom (by decide) rfl rfl hl.1 rfl (Nat.le_of_ble_eq_true rfl) dX2_takeBack_58 (fun H locs f112 h114 hF hB => ?_)
        obtain ⟨z115, z116, z117, z118, g119, g120⟩ := h114
        have z121 : q_is (q_z f112 hist 2) my := Eq.trans (hF.z hhist (by rw [khist]; rfl)) z96
        have z122 : q_is (q_z f112 hist 1) (6 - 1) := Eq.trans (hF.z hhist (by rw [khist]; rfl)) z91
        have z123 : q_is (q_z f112 v9 11) tk := Eq.trans (hF.z hv9 (by rw [kv9]; rfl)) z104
        have z124 : q_is (q_z f112 v9 3) nk := Eq.trans (hF.z hv9 (by rw [kv9]; rfl)) z105
        have z125 : q_is (q_z f112 v9 4) lk := Eq.trans (hF.z hv9 (by rw [kv9]; rfl)) z106
        have z126 : q_is (q_z f112 v9 5) mk := Eq.trans (hF.z hv9 (by rw [kv9]; rfl)) z107
        have z127 : q_ir (q_r f112 hist 0) ka := Eq.trans (hF.r hhist (by rw [khist]; rfl)) z97
        have z128 : q_ir (q_r f112 v0 0) n0 := Eq.trans (hF.r hv0 (by rw [kv0]; rfl)) z98
        have z129 : q_ir (q_r f112 v0 1) l0 := Eq.trans (hF.r hv0 (by rw [kv0]; rfl)) z99
        have z130 : q_ir (q_r f112 v0 2) m0 := Eq.trans (hF.r hv0 (by rw [kv0]; rfl)) z100
        have z131 : q_ir (q_r f112 ka 5) v9 := Eq.trans (hF.r hka (by rw [kka]; rfl)) er0
        have z132 : q_ir (q_r f112 v9 0) n9 := Eq.trans (hF.r hv9 (by rw [kv9]; rfl)) er1
        have z133 : q_ir (q_r f112 v9 1) l9 := Eq.trans (hF.r hv9 (by rw [kv9]; rfl)) er2
        have z134 : q_ir (q_r f112 v9 2) m9 := Eq.trans (hF.r hv9 (by rw [kv9]; rfl)) er3
        have g135 : tw_hk K L f112 ka A9 D9 S9 := tw_hk_tr g103 (fun a9 h9 k9 i9 => hF a9 h9 i9 (tw_krw rfl k9))
        have g136 : tw_vw K L 55 61 67 73 f112 v9 n9 l9 m9 d9 (S9 5) := tw_vw_tr hw9 (fun a9 h9 k9 c9 => hF.z h9 (by rw [k9]; rfl)) (fun a9 h9 k9 c9 => hF.z h9 (by rw [k9]; rfl)) (fun a9 h9 k9 c9 => hF.z h9 (by rw [k9]; rfl)) (fun a9 h9 k9 c9 => hF.z h9 (by rw [k9]; rfl)) (fun i9 => hF.r hn9 (by rw [kn9]; rfl)) (fun i9 => hF.r hl9 (by rw [kl9]; rfl)) (fun i9 => hF.r hm9 (by rw [km9]; rfl))
        have g137 : tw_nw K L 61 f112 := tw_nw_tr hz9 (fun a9 h9 k9 => hF.j h9 (by rw [k9]; rfl))
        refine q_ald_n cx dX2_takeBack_61 rfl (lv_at hl 0 rfl) ?_
        refine lv_dup cx.1 cx.2.1 dX2_takeBack_62 rfl ?_
        refine q_gX2_16 cx hB hhist khist z121 dX2_takeBack_63 (fun lb138 ub138 => ?_)
        refine q_iconst cx dX2_takeBack_66 ?_
        refine q_isub cx dX2_takeBack_67 ?_
        refine q_pX2_16 cx hB hhist khist ⟨by omega, by omega⟩ (by omega) (by omega) rfl dX2_takeBack_68 (fun H locs f139 ef139 z140 hB => ?_)
        have z141 : q_is (q_z f139 hist 1) (6 - 1) := by rw [ef139, q_setz (Or.inr (by decide))]; exact z122
        have z142 : q_is (q_z f139 v9 11) tk := by rw [ef139, q_setz (Or.inr (by decide))]; exact z123
        have z143 : q_is (q_z f139 v9 3) nk := by rw [ef139, q_setz (Or.inr (by decide))]; exact z124
        have z144 : q_is (q_z f139 v9 4) lk := by rw [ef139, q_setz (Or.inr (by decide))]; exact z125
        have z145 : q_is (q_z f139 v9 5) mk := by rw [ef139, q_setz (Or.inr (by decide))]; exact z126
        have z146 : q_is (q_z f139 v0 3) nk := by rw [ef139, q_setz (Or.inr (by decide))]; exact z115
        have z147 : q_is (q_z f139 v0 4) lk := by rw [ef139, q_setz (Or.inr (by decide))]; exact z116
        have z148 : q_is (q_z f139 v0 5) mk := by rw [ef139, q_setz (Or.inr (by decide))]; exact z117
        have z149 : q_is (q_z f139 v0 11) tk := by rw [ef139, q_setz (Or.inr (by decide))]; exact z118
        have z150 : q_ir (q_r f139 hist 0) ka := by rw [ef139, q_setr (Or.inr (by decide))]; exact z127
        have z151 : q_ir (q_r f139 v0 0) n0 := by rw [ef139, q_setr (Or.inr (by decide))]; exact z128
        have z152 : q_ir (q_r f139 v0 1) l0 := by rw [ef139, q_setr (Or.inr (by decide))]; exact z129
        have z153 : q_ir (q_r f139 v0 2) m0 := by rw [ef139, q_setr (Or.inl (fun q => by rw [q, khist] at kv0; exact absurd kv0 (by decide)))]; exact z130
        have z154 : q_ir (q_r f139 ka 5) v9 := by rw [ef139, q_setr (Or.inr (by decide))]; exact z131
        have z155 : q_ir (q_r f139 v9 0) n9 := by rw [ef139, q_setr (Or.inr (by decide))]; exact z132
        have z156 : q_ir (q_r f139 v9 1) l9 := by rw [ef139, q_setr (Or.inr (by decide))]; exact z133
        have z157 : q_ir (q_r f139 v9 2) m9 := by rw [ef139, q_setr (Or.inl (fun q => by rw [q, khist] at kv9; exact absurd kv9 (by decide)))]; exact z134
        have g158 : tw_hk K L f139 ka A9 D9 S9 := tw_hk_tr g135 (fun a9 h9 k9 i9 => by rw [ef139]; exact q_set_ne (Or.inl (fun q => by rw [q, khist] at k9; exact absurd k9 (by decide))))
        have g159 : tw_vw K L 55 61 67 73 f139 v9 n9 l9 m9 d9 (S9 5) := tw_vw_tr g136 (fun a9 h9 k9 c9 => by rw [ef139, q_setz (Or.inl (fun q => by rw [q, khist] at k9; exact absurd k9 (by decide)))]) (fun a9 h9 k9 c9 => by rw [ef139, q_setz (Or.inl (fun q => by rw [q, khist] at k9; exact absurd k9 (by decide)))]) (fun a9 h9 k9 c9 => by rw [ef139, q_setz (Or.inl (fun q => by rw [q, khist] at k9; exact absurd k9 (by decide)))]) (fun a9 h9 k9 c9 => by rw [ef139, q_setz (Or.inl (fun q => by rw [q, khist] at k9; exact absurd k9 (by decide)))]) (fun i9 => by rw [ef139, q_setr (Or.inl (fun q => by rw [q, khist] at kn9; exact absurd kn9 (by decide)))]) (fun i9 => by rw [ef139, q_setr (Or.inl (fun q => by rw [q, khist] at kl9; exact absurd kl9 (by decide)))]) (fun i9 => by rw [ef139, q_setr (Or.inl (fun q => by rw [q, khist] at km9; exact absurd km9 (by decide)))])
        have g160 : tw_nw K L 61 f139 := tw_nw_tr g137 (fun a9 h9 k9 => by rw [ef139, q_setj (Or.inl (fun q => by rw [q, khist] at k9; exact absurd k9 (by decide)))])
        have g161 : tw_vw K L 10 5 3 4 f139 v0 n0 l0 m0 d0 (tw_cp s0 (S9 5)) := tw_vw_tr g119 (fun a9 h9 k9 c9 => by rw [ef139, q_setz (Or.inl (fun q => by rw [q, khist] at k9; exact absurd k9 (by decide)))]) (fun a9 h9 k9 c9 => by rw [ef139, q_setz (Or.inl (fun q => by rw [q, khist] at k9; exact absurd k9 (by decide)))]) (fun a9 h9 k9 c9 => by rw [ef139, q_setz (Or.inl (fun q => by rw [q, khist] at k9; exact absurd k9 (by decide)))]) (fun a9 h9 k9 c9 => by rw [ef139, q_setz (Or.inl (fun q => by rw [q, khist] at k9; exact absurd k9 (by decide)))]) (fun i9 => by rw [ef139, q_setr (Or.inl (fun q => by rw [q, khist] at kn0; exact absurd kn0 (by decide)))]) (fun i9 => by rw [ef139, q_setr (Or.inl (fun q => by rw [q, khist] at kl0; exact absurd kl0 (by decide)))]) (fun i9 => by rw [ef139, q_setr (Or.inl (fun q => by rw [q, khist] at km0; exact absurd km0 (by decide)))])
        have g162 : tw_nw K L 5 f139 := tw_nw_tr g120 (fun a9 h9 k9 => by rw [ef139, q_setj (Or.inl (fun q => by rw [q, khist] at k9; exact absurd k9 (by decide)))])
        refine q_iconst cx dX2_takeBack_71 ?_
        refine q_zret cx hr hlk hB dX2_takeBack_72 (by decide) (by decide) ?_
        exact ⟨rfl, (Eq.trans z141 (by omega)), z140, z149, z146, z147, z148, g161, g162, g158⟩
  · exact absurd c83 (by omega)
set_option maxHeartbeats 4000000 in
set_option maxRecDepth 100000 in
theorem f_forget (l : Launch) (g : q_G) {K : Nat → Nat} {L : List Nat} (hN : L.Nodup) {f : Nat → va_E} (hT : q_Ty g K L f) (hist : Nat) (hhist : hist ∈ L) (khist : K hist = 2) : q_Ct l g K L yX2_forget cX2_forget 1 none 0 0 [.ref hist] f [(2, 2, 2)] (q_Pv (fun (f1 : Nat → va_E) => q_is (q_z f1 hist 2) 0)) := by
  refine q_ofb (by decide +kernel) hN hT (Nat.le_of_ble_eq_true rfl) ?_
  intro p e s m below meth c ls cx hr hlk hB hl
  have hl : lv_has ls 1 [(0, .ref hist)] := hl
  obtain ⟨H, hH⟩ : ∃ H : Heap, H = s.heap := ⟨_, rfl⟩
  obtain ⟨locs, hlocs⟩ : ∃ z : List Loc, z = [] := ⟨_, rfl⟩
  rw [← hH, ← hlocs] at hB
  rw [← hH, ← hlocs]
  refine q_ald_n cx dX2_forget_0 rfl (lv_at hl 0 rfl) ?_
  refine q_iconst cx dX2_forget_1 ?_
  refine q_pX2_16 cx hB hhist khist ⟨by decide, by decide⟩ (by decide) (by decide) rfl dX2_forget_2 (fun H locs f3 ef3 z4 hB => ?_)
  refine q_vret cx hr hlk hB dX2_forget_5 ?_
  exact z4
