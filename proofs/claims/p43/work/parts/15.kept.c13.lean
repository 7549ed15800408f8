set_option maxHeartbeats 4000000 in
set_option maxRecDepth 100000 in
theorem f_lcopy05 (l : Launch) (g : q_G) {K : Nat → Nat} {L : List Nat} (hN : L.Nodup) {f : Nat → va_E} (hT : q_Ty g K L f) (d0 : Nat → Nat) (s0 : tw_S) (d5 : Nat → Nat) (s5 : tw_S) (v : Nat) (hv : v ∈ L) (kv : K v = 3) (p0 : Nat) (hp0 : p0 ∈ L) (kp0 : K p0 = 63) (v0 : Nat) (hv0 : v0 ∈ L) (kv0 : K v0 = 10) (n0 : Nat) (hn0 : n0 ∈ L) (kn0 : K n0 = 110) (l0 : Nat) (hl0 : l0 ∈ L) (kl0 : K l0 = 120) (m0 : Nat) (hm0 : m0 ∈ L) (km0 : K m0 = 130) (v5 : Nat) (hv5 : v5 ∈ L) (kv5 : K v5 = 51) (n5 : Nat) (hn5 : n5 ∈ L) (kn5 : K n5 = 201) (l5 : Nat) (hl5 : l5 ∈ L) (kl5 : K l5 = 207) (m5 : Nat) (hm5 : m5 ∈ L) (km5 : K m5 = 213) (li : Int) (lli : 0 ≤ li) (uli : li ≤ 15) (lj : Int) (llj : 0 ≤ lj) (ulj : lj ≤ 15) (hp0 : v = d0 (11 + Int.toNat li)) (hp1 : p0 = d5 (11 + Int.toNat lj)) (hw0 : tw_vw K L 10 5 3 4 f v0 n0 l0 m0 d0 s0) (hw5 : tw_vw K L 51 57 63 69 f v5 n5 l5 m5 d5 s5) : q_Ct l g K L yX3_copyFrom cX3_copyFrom 2 none 0 0 [.ref v, .ref p0] f [(3, 0, 4)] (q_Pv (fun (f1 : Nat → va_E) => (tw_vw K L 10 5 3 4 f1 v0 n0 l0 m0 d0 (tw_cl s0 s5 (11 + Int.toNat li) (11 + Int.toNat lj))))) := by
  refine q_ofb (by decide +kernel) hN hT (Nat.le_of_ble_eq_true rfl) ?_
  intro p e s m below meth c ls cx hr hlk hB hl
  have hl : lv_has ls 2 [(0, .ref v), (1, .ref p0)] := hl
  obtain ⟨H, hH⟩ : ∃ H : Heap, H = s.heap := ⟨_, rfl⟩
  obtain ⟨locs, hlocs⟩ : ∃ z : List Loc, z = [] := ⟨_, rfl⟩
  rw [← hH, ← hlocs] at hB
  rw [← hH, ← hlocs]
  refine q_ald_n cx dX3_copyFrom_0 rfl (lv_at hl 0 rfl) ?_
  refine q_ald_n cx dX3_copyFrom_1 rfl (lv_at hl 1 rfl) ?_
  obtain ⟨x61, ex61⟩ : ∃ zz, q_is (q_z f p0 0) zz := ⟨_, q_isr _⟩
  obtain ⟨lx61, ux61⟩ := q_isb ex61 (q_fib hB.2.1 hp0 kp0 (by decide) rfl)
  obtain ⟨x62, ex62, nx62⟩ : ∃ zz, q_is (q_z f p0 0) zz ∧ zz = x61 := ⟨_, ex61, rfl⟩
  have sx62 : q_is x62 (s5 (11 + Int.toNat lj) 0) := tw_g hw5 hp1 (by omega) (by omega) ex62
  refine q_gX3_7_63 cx hB hp0 kp0 ex62 dX3_copyFrom_2 (fun lb63 ub63 => ?_)
  refine q_pX3_7 cx hB hv kv ⟨by omega, by omega⟩ (by omega) (by omega) rfl dX3_copyFrom_5 (fun H locs f64 ef64 z65 hB => ?_)
  have z66 : q_is (q_z f64 p0 0) x61 := by rw [ef64, q_setz (Or.inl (fun q => by rw [q, kv] at kp0; exact absurd kp0 (by decide)))]; exact ex61
  have g67 : tw_vw K L 10 5 3 4 f64 v0 n0 l0 m0 d0 (tw_u s0 (11 + Int.toNat li) 0 x62) := tw_vw_s hw0 hp0 (by omega) (by omega) ef64 z65 (fun i9 => by rw [ef64, q_setr (Or.inl (fun q => by rw [q, kv] at kn0; exact absurd kn0 (by decide)))]) (fun i9 => by rw [ef64, q_setr (Or.inl (fun q => by rw [q, kv] at kl0; exact absurd kl0 (by decide)))]) (fun i9 => by rw [ef64, q_setr (Or.inl (fun q => by rw [q, kv] at km0; exact absurd km0 (by decide)))])
  have g68 : tw_vw K L 51 57 63 69 f64 v5 n5 l5 m5 d5 s5 := tw_vw_tr hw5 (fun a9 h9 k9 c9 => by rw [ef64, q_setz (Or.inl (fun q => by rw [q, kv] at k9; exact absurd k9 (by decide)))]) (fun a9 h9 k9 c9 => by rw [ef64, q_setz (Or.inl (fun q => by rw [q, kv] at k9; exact absurd k9 (by decide)))]) (fun a9 h9 k9 c9 => by rw [ef64, q_setz (Or.inl (fun q => by rw [q, kv] at k9; exact absurd k9 (by decide)))]) (fun a9 h9 k9 c9 => by rw [ef64, q_setz (Or.inl (fun q => by rw [q, kv] at k9; exact absurd k9 (by decide)))]) (fun i9 => by rw [ef64, q_setr (Or.inl (fun q => by rw [q, kv] at kn5; exact absurd kn5 (by decide)))]) (fun i9 => by rw [ef64, q_setr (Or.inl (fun q => by rw [q, kv] at kl5; exact absurd kl5 (by decide)))]) (fun i9 => by rw [ef64, q_setr (Or.inl (fun q => by rw [q, kv] at km5; exact absurd km5 (by decide)))])
  refine q_ald_n cx dX3_copyFrom_8 rfl (lv_at hl 0 rfl) ?_
  refine q_ald_n cx dX3_copyFrom_9 rfl (lv_at hl 1 rfl) ?_
  obtain ⟨x69, ex69⟩ : ∃ zz, q_is (q_z f64 p0 1) zz := ⟨_, q_isr _⟩
  obtain ⟨lx69, ux69⟩ := q_isb ex69 (q_fib hB.2.1 hp0 kp0 (by decide) rfl)
  obtain ⟨x70, ex70, nx70⟩ : ∃ zz, q_is (q_z f64 p0 1) zz ∧ zz = x69 := ⟨_, ex69, rfl⟩
  have sx70 : q_is x70 (s5 (11 + Int.toNat lj) 1) := tw_g g68 hp1 (by omega) (by omega) ex70
  refine q_gX3_13_63 cx hB hp0 kp0 ex70 dX3_copyFrom_10 (fun lb71 ub71 => ?_)
  refine q_pX3_13 cx hB hv kv ⟨by omega, by omega⟩ (by omega) (by omega) rfl dX3_copyFrom_13 (fun H locs f72 ef72 z73 hB => ?_)
  have z74 : q_is (q_z f72 p0 0) x61 := by rw [ef72, q_setz (Or.inr (by decide))]; exact z66
  have z75 : q_is (q_z f72 v 0) x62 := by rw [ef72, q_setz (Or.inr (by decide))]; exact z65
  have z76 : q_is (q_z f72 p0 1) x69 := by rw [ef72, q_setz (Or.inl (fun q => by rw [q, kv] at kp0; exact absurd kp0 (by decide)))]; exact ex69
  have g77 : tw_vw K L 10 5 3 4 f72 v0 n0 l0 m0 d0 (tw_u (tw_u s0 (11 + Int.toNat li) 0 x62) (11 + Int.toNat li) 1 x70) := tw_vw_s g67 hp0 (by omega) (by omega) ef72 z73 (fun i9 => by rw [ef72, q_setr (Or.inl (fun q => by rw [q, kv] at kn0; exact absurd kn0 (by decide)))]) (fun i9 => by rw [ef72, q_setr (Or.inl (fun q => by rw [q, kv] at kl0; exact absurd kl0 (by decide)))]) (fun i9 => by rw [ef72, q_setr (Or.inl (fun q => by rw [q, kv] at km0; exact absurd km0 (by decide)))])
  have g78 : tw_vw K L 51 57 63 69 f72 v5 n5 l5 m5 d5 s5 := tw_vw_tr g68 (fun a9 h9 k9 c9 => by rw [ef72, q_setz (Or.inl (fun q => by rw [q, kv] at k9; exact absurd k9 (by decide)))]) (fun a9 h9 k9 c9 => by rw [ef72, q_setz (Or.inl (fun q => by rw [q, kv] at k9; exact absurd k9 (by decide)))]) (fun a9 h9 k9 c9 => by rw [ef72, q_setz (Or.inl (fun q => by rw [q, kv] at k9; exact absurd k9 (by decide)))]) (fun a9 h9 k9 c9 => by rw [ef72, q_setz (Or.inl (fun q => by rw [q, kv] at k9; exact absurd k9 (by decide)))]) (fun i9 => by rw [ef72, q_setr (Or.inl (fun q => by rw [q, kv] at kn5; exact absurd kn5 (by decide)))]) (fun i9 => by rw [ef72, q_setr (Or.inl (fun q => by rw [q, kv] at kl5; exact absurd kl5 (by decide)))]) (fun i9 => by rw [ef72, q_setr (Or.inl (fun q => by rw [q, kv] at km5; exact absurd km5 (by decide)))])
  refine q_ald_n cx dX3_copyFrom_16 rfl (lv_at hl 0 rfl) ?_
  refine q_ald_n cx dX3_copyFrom_17 rfl (lv_at hl 1 rfl) ?_
  obtain ⟨x79, ex79⟩ : ∃ zz, q_is (q_z f72 p0 2) zz := ⟨_, q_isr _⟩
  obtain ⟨lx79, ux79⟩ := q_isb ex79 (q_fib hB.2.1 hp0 kp0 (by decide) rfl)
  obtain ⟨x80, ex80, nx80⟩ : ∃ zz, q_is (q_z f72 p0 2) zz ∧ zz = x79 := ⟨_, ex79, rfl⟩
  have sx80 : q_is x80 (s5 (11 + Int.toNat lj) 2) := tw_g g78 hp1 (by omega) (by omega) ex80
  refine q_gX3_16_63 cx hB hp0 kp0 ex80 dX3_copyFrom_18 (fun lb81 ub81 => ?_)
  refine q_pX3_16 cx hB hv kv ⟨by omega, by omega⟩ (by omega) (by omega) rfl dX3_copyFrom_21 (fun H locs f82 ef82 z83 hB => ?_)
  have z84 : q_is (q_z f82 p0 0) x61 := by rw [ef82, q_setz (Or.inr (by decide))]; exact z74
  have z85 : q_is (q_z f82 v 0) x62 := by rw [ef82, q_setz (Or.inr (by decide))]; exact z75
  have z86 : q_is (q_z f82 p0 1) x69 := by rw [ef82, q_setz (Or.inr (by decide))]; exact z76
  have z87 : q_is (q_z f82 v 1) x70 := by rw [ef82, q_setz (Or.inr (by decide))]; exact z73
  have z88 : q_is (q_z f82 p0 2) x79 := by rw [ef82, q_setz (Or.inl (fun q => by rw [q, kv] at kp0; exact absurd kp0 (by decide)))]; exact ex79
  have g89 : tw_vw K L 10 5 3 4 f82 v0 n0 l0 m0 d0 (tw_u (tw_u (tw_u s0 (11 + Int.toNat li) 0 x62) (11 + Int.toNat li) 1 x70) (11 + Int.toNat li) 2 x80) := tw_vw_s g77 hp0 (by omega) (by omega) ef82 z83 (fun i9 => by rw [ef82, q_setr (Or.inl (fun q => by rw [q, kv] at kn0; exact absurd kn0 (by decide)))]) (fun i9 => by rw [ef82, q_setr (Or.inl (fun q => by rw [q, kv] at kl0; exact absurd kl0 (by decide)))]) (fun i9 => by rw [ef82, q_setr (Or.inl (fun q => by rw [q, kv] at km0; exact absurd km0 (by decide)))])
  have g90 : tw_vw K L 51 57 63 69 f82 v5 n5 l5 m5 d5 s5 := tw_vw_tr g78 (fun a9 h9 k9 c9 => by rw [ef82, q_setz (Or.inl (fun q => by rw [q, kv] at k9; exact absurd k9 (by decide)))]) (fun a9 h9 k9 c9 => by rw [ef82, q_setz (Or.inl (fun q => by rw [q, kv] at k9; exact absurd k9 (by decide)))]) (fun a9 h9 k9 c9 => by rw [ef82, q_setz (Or.inl (fun q => by rw [q, kv] at k9; exact absurd k9 (by decide)))]) (fun a9 h9 k9 c9 => by rw [ef82, q_setz (Or.inl (fun q => by rw [q, kv] at k9; exact absurd k9 (by decide)))]) (fun i9 => by rw [ef82, q_setr (Or.inl (fun q => by rw [q, kv] at kn5; exact absurd kn5 (by decide)))]) (fun i9 => by rw [ef82, q_setr (Or.inl (fun q => by rw [q, kv] at kl5; exact absurd kl5 (by decide)))]) (fun i9 => by rw [ef82, q_setr (Or.inl (fun q => by rw [q, kv] at km5; exact absurd km5 (by decide)))])
  refine q_ald_n cx dX3_copyFrom_24 rfl (lv_at hl 0 rfl) ?_
  refine q_ald_n cx dX3_copyFrom_25 rfl (lv_at hl 1 rfl) ?_
  obtain ⟨x91, ex91⟩ : ∃ zz, q_is (q_z f82 p0 3) zz := ⟨_, q_isr _⟩
  obtain ⟨lx91, ux91⟩ := q_isb ex91 (q_fib hB.2.1 hp0 kp0 (by decide) rfl)
  obtain ⟨x92, ex92, nx92⟩ : ∃ zz, q_is (q_z f82 p0 3) zz ∧ zz = x91 := ⟨_, ex91, rfl⟩
  have sx92 : q_is x92 (s5 (11 + Int.toNat lj) 3) := tw_g g90 hp1 (by omega) (by omega) ex92
  refine q_gX3_19_63 cx hB hp0 kp0 ex92 dX3_copyFrom_26 (fun lb93 ub93 => ?_)
  refine q_pX3_19 cx hB hv kv ⟨by omega, by omega⟩ (by omega) (by omega) rfl dX3_copyFrom_29 (fun H locs f94 ef94 z95 hB => ?_)
  have z96 : q_is (q_z f94 p0 0) x61 := by rw [ef94, q_setz (Or.inr (by decide))]; exact z84
  have z97 : q_is (q_z f94 v 0) x62 := by rw [ef94, q_setz (Or.inr (by decide))]; exact z85
  have z98 : q_is (q_z f94 p0 1) x69 := by rw [ef94, q_setz (Or.inr (by decide))]; exact z86
  have z99 : q_is (q_z f94 v 1) x70 := by rw [ef94, q_setz (Or.inr (by decide))]; exact z87
  have z100 : q_is (q_z f94 p0 2) x79 := by rw [ef94, q_setz (Or.inr (by decide))]; exact z88
  have z101 : q_is (q_z f94 v 2) x80 := by rw [ef94, q_setz (Or.inr (by decide))]; exact z83
  have z102 : q_is (q_z f94 p0 3) x91 := by rw [ef94, q_setz (Or.inl (fun q => by rw [q, kv] at kp0; exact absurd kp0 (by decide)))]; exact ex91
  have g103 : tw_vw K L 10 5 3 4 f94 v0 n0 l0 m0 d0 (tw_u (tw_u (tw_u (tw_u s0 (11 + Int.toNat li) 0 x62) (11 + Int.toNat li) 1 x70) (11 + Int.toNat li) 2 x80) (11 + Int.toNat li) 3 x92) := tw_vw_s g89 hp0 (by omega) (by omega) ef94 z95 (fun i9 => by rw [ef94, q_setr (Or.inl (fun q => by rw [q, kv] at kn0; exact absurd kn0 (by decide)))]) (fun i9 => by rw [ef94, q_setr (Or.inl (fun q => by rw [q, kv] at kl0; exact absurd kl0 (by decide)))]) (fun i9 => by rw [ef94, q_setr (Or.inl (fun q => by rw [q, kv] at km0; exact absurd km0 (by decide)))])
  have g104 : tw_vw K L 51 57 63 69 f94 v5 n5 l5 m5 d5 s5 := tw_vw_tr g90 (fun a9 h9 k9 c9 => by rw [ef94, q_setz (Or.inl (fun q => by rw [q, kv] at k9; exact absurd k9 (by decide)))]) (fun a9 h9 k9 c9 => by rw [ef94, q_setz (Or.inl (fun q => by rw [q, kv] at k9; exact absurd k9 (by decide)))]) (fun a9 h9 k9 c9 => by rw [ef94, q_setz (Or.inl (fun q => by rw [q, kv] at k9; exact absurd k9 (by decide)))]) (fun a9 h9 k9 c9 => by rw [ef94, q_setz (Or.inl (fun q => by rw [q, kv] at k9; exact absurd k9 (by decide)))]) (fun i9 => by rw [ef94, q_setr (Or.inl (fun q => by rw [q, kv] at kn5; exact absurd kn5 (by decide)))]) (fun i9 => by rw [ef94, q_setr (Or.inl (fun q => by rw [q, kv] at kl5; exact absurd kl5 (by decide)))]) (fun i9 => by rw [ef94, q_setr (Or.inl (fun q => by rw [q, kv] at km5; exact absurd km5 (by decide)))])
  refine q_ald_n cx dX3_copyFrom_32 rfl (lv_at hl 0 rfl) ?_
  refine q_ald_n cx dX3_copyFrom_33 rfl (lv_at hl 1 rfl) ?_
  obtain ⟨x105, ex105⟩ : ∃ zz, q_is (q_z f94 p0 4) zz := ⟨_, q_isr _⟩
  obtain ⟨lx105, ux105⟩ := q_isb ex105 (q_fib hB.2.1 hp0 kp0 (by decide) rfl)
  obtain ⟨x106, ex106, nx106⟩ : ∃ zz, q_is (q_z f94 p0 4) zz ∧ zz = x105 := ⟨_, ex105, rfl⟩
  have sx106 : q_is x106 (s5 (11 + Int.toNat lj) 4) := tw_g g104 hp1 (by omega) (by omega) ex106
  refine q_gX3_22_63 cx hB hp0 kp0 ex106 dX3_copyFrom_34 (fun lb107 ub107 => ?_)
  refine q_pX3_22 cx hB hv kv ⟨by omega, by omega⟩ (by omega) (by omega) rfl dX3_copyFrom_37 (fun H locs f108 ef108 z109 hB => ?_)
  have z110 : q_is (q_z f108 p0 0) x61 := by rw [ef108, q_setz (Or.inr (by decide))]; exact z96
  have z111 : q_is (q_z f108 v 0) x62 := by rw [ef108, q_setz (Or.inr (by decide))]; exact z97
  have z112 : q_is (q_z f108 p0 1) x69 := by rw [ef108, q_setz (Or.inr (by decide))]; exact z98
  have z113 : q_is (q_z f108 v 1) x70 := by rw [ef108, q_setz (Or.inr (by decide))]; exact z99
  have z114 : q_is (q_z f108 p0 2) x79 := by rw [ef108, q_setz (Or.inr (by decide))]; exact z100
  have z115 : q_is (q_z f108 v 2) x80 := by rw [ef108, q_setz (Or.inr (by decide))]; exact z101
  have z116 : q_is (q_z f108 p0 3) x91 := by rw [ef108, q_setz (Or.inr (by decide))]; exact z102
  have z117 : q_is (q_z f108 v 3) x92 := by rw [ef108, q_setz (Or.inr (by decide))]; exact z95
  have z118 : q_is (q_z f108 p0 4) x105 := by rw [ef108, q_setz (Or.inl (fun q => by rw [q, kv] at kp0; exact absurd kp0 (by decide)))]; exact ex105
  have g119 : tw_vw K L 10 5 3 4 f108 v0 n0 l0 m0 d0 (tw_u (tw_u (tw_u (tw_u (tw_u s0 (11 + Int.toNat li) 0 x62) (11 + Int.toNat li) 1 x70) (11 + Int.toNat li) 2 x80) (11 + Int.toNat li) 3 x92) (11 + Int.toNat li) 4 x106) := tw_vw_s g103 hp0 (by omega) (by omega) ef108 z109 (fun i9 => by rw [ef108, q_setr (Or.inl (fun q => by rw [q, kv] at kn0; exact absurd kn0 (by decide)))]) (fun i9 => by rw [ef108, q_setr (Or.inl (fun q => by rw [q, kv] at kl0; exact absurd kl0 (by decide)))]) (fun i9 => by rw [ef108, q_setr (Or.inl (fun q => by rw [q, kv] at km0; exact absurd km0 (by decide)))])
  have g120 : tw_vw K L 51 57 63 69 f108 v5 n5 l5 m5 d5 s5 := tw_vw_tr g104 (fun a9 h9 k9 c9 => by rw [ef108, q_setz (Or.inl (fun q => by rw [q, kv] at k9; exact absurd k9 (by decide)))]) (fun a9 h9 k9 c9 => by rw [ef108, q_setz (Or.inl (fun q => by rw [q, kv] at k9; exact absurd k9 (by decide)))]) (fun a9 h9 k9 c9 => by rw [ef108, q_setz (Or.inl (fun q => by rw [q, kv] at k9; exact absurd k9 (by decide)))]) (fun a9 h9 k9 c9 => by rw [ef108, q_setz (Or.inl (fun q => by rw [q, kv] at k9; exact absurd k9 (by decide)))]) (fun i9 => by rw [ef108, q_setr (Or.inl (fun q => by rw [q, kv] at kn5; exact absurd kn5 (by decide)))]) (fun i9 => by rw [ef108, q_setr (Or.inl (fun q => by rw [q, kv] at kl5; exact absurd kl5 (by decide)))]) (fun i9 => by rw [ef108, q_setr (Or.inl (fun q => by rw [q, kv] at km5; exact absurd km5 (by decide)))])
  refine q_vret cx hr hlk hB dX3_copyFrom_40 ?_
  exact (tw_cg g119 (by have t0_ : x62 = s5 (11 + Int.toNat lj) 0 := sx62; have t1_ : x70 = s5 (11 + Int.toNat lj) 1 := sx70; have t2_ : x80 = s5 (11 + Int.toNat lj) 2 := sx80; have t3_ : x92 = s5 (11 + Int.toNat lj) 3 := sx92; have t4_ : x106 = s5 (11 + Int.toNat lj) 4 := sx106; (try simp only [t0_, t1_, t2_, t3_, t4_]); (repeat' split) <;> first | rfl | (exfalso; omega)))
set_option maxHeartbeats 4000000 in
set_option maxRecDepth 100000 in
theorem f_mcopy05 (l : Launch) (g : q_G) {K : Nat → Nat} {L : List Nat} (hN : L.Nodup) {f : Nat → va_E} (hT : q_Ty g K L f) (d0 : Nat → Nat) (s0 : tw_S) (d5 : Nat → Nat) (s5 : tw_S) (v : Nat) (hv : v ∈ L) (kv : K v = 4) (p0 : Nat) (hp0 : p0 ∈ L) (kp0 : K p0 = 69) (v0 : Nat) (hv0 : v0 ∈ L) (kv0 : K v0 = 10) (n0 : Nat) (hn0 : n0 ∈ L) (kn0 : K n0 = 110) (l0 : Nat) (hl0 : l0 ∈ L) (kl0 : K l0 = 120) (m0 : Nat) (hm0 : m0 ∈ L) (km0 : K m0 = 130) (v5 : Nat) (hv5 : v5 ∈ L) (kv5 : K v5 = 51) (n5 : Nat) (hn5 : n5 ∈ L) (kn5 : K n5 = 201) (l5 : Nat) (hl5 : l5 ∈ L) (kl5 : K l5 = 207) (m5 : Nat) (hm5 : m5 ∈ L) (km5 : K m5 = 213) (li : Int) (lli : 0 ≤ li) (uli : li ≤ 60) (lj : Int) (llj : 0 ≤ lj) (ulj : lj ≤ 60) (hp0 : v = d0 (27 + Int.toNat li)) (hp1 : p0 = d5 (27 + Int.toNat lj)) (hw0 : tw_vw K L 10 5 3 4 f v0 n0 l0 m0 d0 s0) (hw5 : tw_vw K L 51 57 63 69 f v5 n5 l5 m5 d5 s5) : q_Ct l g K L yX4_copyFrom cX4_copyFrom 2 none 0 0 [.ref v, .ref p0] f [(4, 0, 7)] (q_Pv (fun (f1 : Nat → va_E) => (tw_vw K L 10 5 3 4 f1 v0 n0 l0 m0 d0 (tw_cm s0 s5 (27 + Int.toNat li) (27 + Int.toNat lj))))) := by
  refine q_ofb (by decide +kernel) hN hT (Nat.le_of_ble_eq_true rfl) ?_
  intro p e s m below meth c ls cx hr hlk hB hl
  have hl : lv_has ls 2 [(0, .ref v), (1, .ref p0)] := hl
  obtain ⟨H, hH⟩ : ∃ H : Heap, H = s.heap := ⟨_, rfl⟩
  obtain ⟨locs, hlocs⟩ : ∃ z : List Loc, z = [] := ⟨_, rfl⟩
  rw [← hH, ← hlocs] at hB
  rw [← hH, ← hlocs]
  refine q_ald_n cx dX4_copyFrom_0 rfl (lv_at hl 0 rfl) ?_
  refine q_ald_n cx dX4_copyFrom_1 rfl (lv_at hl 1 rfl) ?_
  obtain ⟨x121, ex121⟩ : ∃ zz, q_is (q_z f p0 0) zz := ⟨_, q_isr _⟩
  obtain ⟨lx121, ux121⟩ := q_isb ex121 (q_fib hB.2.1 hp0 kp0 (by decide) rfl)
  obtain ⟨x122, ex122, nx122⟩ : ∃ zz, q_is (q_z f p0 0) zz ∧ zz = x121 := ⟨_, ex121, rfl⟩
  have sx122 : q_is x122 (s5 (27 + Int.toNat lj) 0) := tw_g hw5 hp1 (by omega) (by omega) ex122
  refine q_gX4_7_69 cx hB hp0 kp0 ex122 dX4_copyFrom_2 (fun lb123 ub123 => ?_)
  refine q_pX4_7 cx hB hv kv ⟨by omega, by omega⟩ (by omega) (by omega) rfl dX4_copyFrom_5 (fun H locs f124 ef124 z125 hB => ?_)
  have z126 : q_is (q_z f124 p0 0) x121 := by rw [ef124, q_setz (Or.inl (fun q => by rw [q, kv] at kp0; exact absurd kp0 (by decide)))]; exact ex121
  have g127 : tw_vw K L 10 5 3 4 f124 v0 n0 l0 m0 d0 (tw_u s0 (27 + Int.toNat li) 0 x122) := tw_vw_s hw0 hp0 (by omega) (by omega) ef124 z125 (fun i9 => by rw [ef124, q_setr (Or.inl (fun q => by rw [q, kv] at kn0; exact absurd kn0 (by decide)))]) (fun i9 => by rw [ef124, q_setr (Or.inl (fun q => by rw [q, kv] at kl0; exact absurd kl0 (by decide)))]) (fun i9 => by rw [ef124, q_setr (Or.inl (fun q => by rw [q, kv] at km0; exact absurd km0 (by decide)))])
  have g128 : tw_vw K L 51 57 63 69 f124 v5 n5 l5 m5 d5 s5 := tw_vw_tr hw5 (fun a9 h9 k9 c9 => by rw [ef124, q_setz (Or.inl (fun q => by rw [q, kv] at k9; exact absurd k9 (by decide)))]) (fun a9 h9 k9 c9 => by rw [ef124, q_setz (Or.inl (fun q => by rw [q, kv] at k9; exact absurd k9 (by decide)))]) (fun a9 h9 k9 c9 => by rw [ef124, q_setz (Or.inl (fun q => by rw [q, kv] at k9; exact absurd k9 (by decide)))]) (fun a9 h9 k9 c9 => by rw [ef124, q_setz (Or.inl (fun q => by rw [q, kv] at k9; exact absurd k9 (by decide)))]) (fun i9 => by rw [ef124, q_setr (Or.inl (fun q => by rw [q, kv] at kn5; exact absurd kn5 (by decide)))]) (fun i9 => by rw [ef124, q_setr (Or.inl (fun q => by rw [q, kv] at kl5; exact absurd kl5 (by decide)))]) (fun i9 => by rw [ef124, q_setr (Or.inl (fun q => by rw [q, kv] at km5; exact absurd km5 (by decide)))])
  refine q_ald_n cx dX4_copyFrom_8 rfl (lv_at hl 0 rfl) ?_
  refine q_ald_n cx dX4_copyFrom_9 rfl (lv_at hl 1 rfl) ?_
  obtain ⟨x129, ex129⟩ : ∃ zz, q_is (q_z f124 p0 1) zz := ⟨_, q_isr _⟩
  obtain ⟨lx129, ux129⟩ := q_isb ex129 (q_fib hB.2.1 hp0 kp0 (by decide) rfl)
  obtain ⟨x130, ex130, nx130⟩ : ∃ zz, q_is (q_z f124 p0 1) zz ∧ zz = x129 := ⟨_, ex129, rfl⟩
  have sx130 : q_is x130 (s5 (27 + Int.toNat lj) 1) := tw_g g128 hp1 (by omega) (by omega) ex130
  refine q_gX4_13_69 cx hB hp0 kp0 ex130 dX4_copyFrom_10 (fun lb131 ub131 => ?_)
  refine q_pX4_13 cx hB hv kv ⟨by omega, by omega⟩ (by omega) (by omega) rfl dX4_copyFrom_13 (fun H locs f132 ef132 z133 hB => ?_)
  have z134 : q_is (q_z f132 p0 0) x121 := by rw [ef132, q_setz (Or.inr (by decide))]; exact z126
  have z135 : q_is (q_z f132 v 0) x122 := by rw [ef132, q_setz (Or.inr (by decide))]; exact z125
  have z136 : q_is (q_z f132 p0 1) x129 := by rw [ef132, q_setz (Or.inl (fun q => by rw [q, kv] at kp0; exact absurd kp0 (by decide)))]; exact ex129
  have g137 : tw_vw K L 10 5 3 4 f132 v0 n0 l0 m0 d0 (tw_u (tw_u s0 (27 + Int.toNat li) 0 x122) (27 + Int.toNat li) 1 x130) := tw_vw_s g127 hp0 (by omega) (by omega) ef132 z133 (fun i9 => by rw [ef132, q_setr (Or.inl (fun q => by rw [q, kv] at kn0; exact absurd kn0 (by decide)))]) (fun i9 => by rw [ef132, q_setr (Or.inl (fun q => by rw [q, kv] at kl0; exact absurd kl0 (by decide)))]) (fun i9 => by rw [ef132, q_setr (Or.inl (fun q => by rw [q, kv] at km0; exact absurd km0 (by decide)))])
  have g138 : tw_vw K L 51 57 63 69 f132 v5 n5 l5 m5 d5 s5 := tw_vw_tr g128 (fun a9 h9 k9 c9 => by rw [ef132, q_setz (Or.inl (fun q => by rw [q, kv] at k9; exact absurd k9 (by decide)))]) (fun a9 h9 k9 c9 => by rw [ef132, q_setz (Or.inl (fun q => by rw [q, kv] at k9; exact absurd k9 (by decide)))]) (fun a9 h9 k9 c9 => by rw [ef132, q_setz (Or.inl (fun q => by rw [q, kv] at k9; exact absurd k9 (by decide)))]) (fun a9 h9 k9 c9 => by rw [ef132, q_setz (Or.inl (fun q => by rw [q, kv] at k9; exact absurd k9 (by decide)))]) (fun i9 => by rw [ef132, q_setr (Or.inl (fun q => by rw [q, kv] at kn5; exact absurd kn5 (by decide)))]) (fun i9 => by rw [ef132, q_setr (Or.inl (fun q => by rw [q, kv] at kl5; exact absurd kl5 (by decide)))]) (fun i9 => by rw [ef132, q_setr (Or.inl (fun q => by rw [q, kv] at km5; exact absurd km5 (by decide)))])
  refine q_ald_n cx dX4_copyFrom_16 rfl (lv_at hl 0 rfl) ?_
  refine q_ald_n cx dX4_copyFrom_17 rfl (lv_at hl 1 rfl) ?_
  obtain ⟨x139, ex139⟩ : ∃ zz, q_is (q_z f132 p0 2) zz := ⟨_, q_isr _⟩
  obtain ⟨lx139, ux139⟩ := q_isb ex139 (q_fib hB.2.1 hp0 kp0 (by decide) rfl)
  obtain ⟨x140, ex140, nx140⟩ : ∃ zz, q_is (q_z f132 p0 2) zz ∧ zz = x139 := ⟨_, ex139, rfl⟩
  have sx140 : q_is x140 (s5 (27 + Int.toNat lj) 2) := tw_g g138 hp1 (by omega) (by omega) ex140
  refine q_gX4_16_69 cx hB hp0 kp0 ex140 dX4_copyFrom_18 (fun lb141 ub141 => ?_)
  refine q_pX4_16 cx hB hv kv ⟨by omega, by omega⟩ (by omega) (by omega) rfl dX4_copyFrom_21 (fun H locs f142 ef142 z143 hB => ?_)
  have z144 : q_is (q_z f142 p0 0) x121 := by rw [ef142, q_setz (Or.inr (by decide))]; exact z134
  have z145 : q_is (q_z f142 v 0) x122 := by rw [ef142, q_setz (Or.inr (by decide))]; exact z135
  have z146 : q_is (q_z f142 p0 1) x129 := by rw [ef142, q_setz (Or.inr (by decide))]; exact z136
  have z147 : q_is (q_z f142 v 1) x130 := by rw [ef142, q_setz (Or.inr (by decide))]; exact z133
  have z148 : q_is (q_z f142 p0 2) x139 := by rw [ef142, q_setz (Or.inl (fun q => by rw [q, kv] at kp0; exact absurd kp0 (by decide)))]; exact ex139
  have g149 : tw_vw K L 10 5 3 4 f142 v0 n0 l0 m0 d0 (tw_u (tw_u (tw_u s0 (27 + Int.toNat li) 0 x122) (27 + Int.toNat li) 1 x130) (27 + Int.toNat li) 2 x140) := tw_vw_s g137 hp0 (by omega) (by omega) ef142 z143 (fun i9 => by rw [ef142, q_setr (Or.inl (fun q => by rw [q, kv] at kn0; exact absurd kn0 (by decide)))]) (fun i9 => by rw [ef142, q_setr (Or.inl (fun q => by rw [q, kv] at kl0; exact absurd kl0 (by decide)))]) (fun i9 => by rw [ef142, q_setr (Or.inl (fun q => by rw [q, kv] at km0; exact absurd km0 (by decide)))])
  have g150 : tw_vw K L 51 57 63 69 f142 v5 n5 l5 m5 d5 s5 := tw_vw_tr g138 (fun a9 h9 k9 c9 => by rw [ef142, q_setz (Or.inl (fun q => by rw [q, kv] at k9; exact absurd k9 (by decide)))]) (fun a9 h9 k9 c9 => by rw [ef142, q_setz (Or.inl (fun q => by rw [q, kv] at k9; exact absurd k9 (by decide)))]) (fun a9 h9 k9 c9 => by rw [ef142, q_setz (Or.inl (fun q => by rw [q, kv] at k9; exact absurd k9 (by decide)))]) (fun a9 h9 k9 c9 => by rw [ef142, q_setz (Or.inl (fun q => by rw [q, kv] at k9; exact absurd k9 (by decide)))]) (fun i9 => by rw [ef142, q_setr (Or.inl (fun q => by rw [q, kv] at kn5; exact absurd kn5 (by decide)))]) (fun i9 => by rw [ef142, q_setr (Or.inl (fun q => by rw [q, kv] at kl5; exact absurd kl5 (by decide)))]) (fun i9 => by rw [ef142, q_setr (Or.inl (fun q => by rw [q, kv] at km5; exact absurd km5 (by decide)))])
  refine q_ald_n cx dX4_copyFrom_24 rfl (lv_at hl 0 rfl) ?_
  refine q_ald_n cx dX4_copyFrom_25 rfl (lv_at hl 1 rfl) ?_
  obtain ⟨x151, ex151⟩ : ∃ zz, q_is (q_z f142 p0 3) zz := ⟨_, q_isr _⟩
  obtain ⟨lx151, ux151⟩ := q_isb ex151 (q_fib hB.2.1 hp0 kp0 (by decide) rfl)
  obtain ⟨x152, ex152, nx152⟩ : ∃ zz, q_is (q_z f142 p0 3) zz ∧ zz = x151 := ⟨_, ex151, rfl⟩
  have sx152 : q_is x152 (s5 (27 + Int.toNat lj) 3) := tw_g g150 hp1 (by omega) (by omega) ex152
  refine q_gX4_19_69 cx hB hp0 kp0 ex152 dX4_copyFrom_26 (fun lb153 ub153 => ?_)
  refine q_pX4_19 cx hB hv kv ⟨by omega, by omega⟩ (by omega) (by omega) rfl dX4_copyFrom_29 (fun H locs f154 ef154 z155 hB => ?_)
  have z156 : q_is (q_z f154 p0 0) x121 := by rw [ef154, q_setz (Or.inr (by decide))]; exact z144
  have z157 : q_is (q_z f154 v 0) x122 := by rw [ef154, q_setz (Or.inr (by decide))]; exact z145
  have z158 : q_is (q_z f154 p0 1) x129 := by rw [ef154, q_setz (Or.inr (by decide))]; exact z146
  have z159 : q_is (q_z f154 v 1) x130 := by rw [ef154, q_setz (Or.inr (by decide))]; exact z147
  have z160 : q_is (q_z f154 p0 2) x139 := by rw [ef154, q_setz (Or.inr (by decide))]; exact z148
  have z161 : q_is (q_z f154 v 2) x140 := by rw [ef154, q_setz (Or.inr (by decide))]; exact z143
  have z162 : q_is (q_z f154 p0 3) x151 := by rw [ef154, q_setz (Or.inl (fun q => by rw [q, kv] at kp0; exact absurd kp0 (by decide)))]; exact ex151
  have g163 : tw_vw K L 10 5 3 4 f154 v0 n0 l0 m0 d0 (tw_u (tw_u (tw_u (tw_u s0 (27 + Int.toNat li) 0 x122) (27 + Int.toNat li) 1 x130) (27 + Int.toNat li) 2 x140) (27 + Int.toNat li) 3 x152) := tw_vw_s g149 hp0 (by omega) (by omega) ef154 z155 (fun i9 => by rw [ef154, q_setr (Or.inl (fun q => by rw [q, kv] at kn0; exact absurd kn0 (by decide)))]) (fun i9 => by rw [ef154, q_setr (Or.inl (fun q => by rw [q, kv] at kl0; exact absurd kl0 (by decide)))]) (fun i9 => by rw [ef154, q_setr (Or.inl (fun q => by rw [q, kv] at km0; exact absurd km0 (by decide)))])
  have g164 : tw_vw K L 51 57 63 69 f154 v5 n5 l5 m5 d5 s5 := tw_vw_tr g150 (fun a9 h9 k9 c9 => by rw [ef154, q_setz (Or.inl (fun q => by rw [q, kv] at k9; exact absurd k9 (by decide)))]) (fun a9 h9 k9 c9 => by rw [ef154, q_setz (Or.inl (fun q => by rw [q, kv] at k9; exact absurd k9 (by decide)))]) (fun a9 h9 k9 c9 => by rw [ef154, q_setz (Or.inl (fun q => by rw [q, kv] at k9; exact absurd k9 (by decide)))]) (fun a9 h9 k9 c9 => by rw [ef154, q_setz (Or.inl (fun q => by rw [q, kv] at k9; exact absurd k9 (by decide)))]) (fun i9 => by rw [ef154, q_setr (Or.inl (fun q => by rw [q, kv] at kn5; exact absurd kn5 (by decide)))]) (fun i9 => by rw [ef154, q_setr (Or.inl (fun q => by rw [q, kv] at kl5; exact absurd kl5 (by decide)))]) (fun i9 => by rw [ef154, q_setr (Or.inl (fun q => by rw [q, kv] at km5; exact absurd km5 (by decide)))])
  refine q_ald_n cx dX4_copyFrom_32 rfl (lv_at hl 0 rfl) ?_
  refine q_ald_n cx dX4_copyFrom_33 rfl (lv_at hl 1 rfl) ?_
  obtain ⟨x165, ex165⟩ : ∃ zz, q_is (q_z f154 p0 4) zz := ⟨_, q_isr _⟩
  obtain ⟨lx165, ux165⟩ := q_isb ex165 (q_fib hB.2.1 hp0 kp0 (by decide) rfl)
  obtain ⟨x166, ex166, nx166⟩ : ∃ zz, q_is (q_z f154 p0 4) zz ∧ zz = x165 := ⟨_, ex165, rfl⟩
  have sx166 : q_is x166 (s5 (27 + Int.toNat lj) 4) := tw_g g164 hp1 (by omega) (by omega) ex166
  refine q_gX4_22_69 cx hB hp0 kp0 ex166 dX4_copyFrom_34 (fun lb167 ub167 => ?_)
  refine q_pX4_22 cx hB hv kv ⟨by omega, by omega⟩ (by omega) (by omega) rfl dX4_copyFrom_37 (fun H locs f168 ef168 z169 hB => ?_)
  have z170 : q_is (q_z f168 p0 0) x121 := by rw [ef168, q_setz (Or.inr (by decide))]; exact z156
  have z171 : q_is (q_z f168 v 0) x122 := by rw [ef168, q_setz (Or.inr (by decide))]; exact z157
  have z172 : q_is (q_z f168 p0 1) x129 := by rw [ef168, q_setz (Or.inr (by decide))]; exact z158
  have z173 : q_is (q_z f168 v 1) x130 := by rw [ef168, q_setz (Or.inr (by decide))]; exact z159
  have z174 : q_is (q_z f168 p0 2) x139 := by rw [ef168, q_setz (Or.inr (by decide))]; exact z160
  have z175 : q_is (q_z f168 v 2) x140 := by rw [ef168, q_setz (Or.inr (by decide))]; exact z161
  have z176 : q_is (q_z f168 p0 3) x151 := by rw [ef168, q_setz (Or.inr (by decide))]; exact z162
  have z177 : q_is (q_z f168 v 3) x152 := by rw [ef168, q_setz (Or.inr (by decide))]; exact z155
  have z178 : q_is (q_z f168 p0 4) x165 := by rw [ef168, q_setz (Or.inl (fun q => by rw [q, kv] at kp0; exact absurd kp0 (by decide)))]; exact ex165
  have g179 : tw_vw K L 10 5 3 4 f168 v0 n0 l0 m0 d0 (tw_u (tw_u (tw_u (tw_u (tw_u s0 (27 + Int.toNat li) 0 x122) (27 + Int.toNat li) 1 x130) (27 + Int.toNat li) 2 x140) (27 + Int.toNat li) 3 x152) (27 + Int.toNat li) 4 x166) := tw_vw_s g163 hp0 (by omega) (by omega) ef168 z169 (fun i9 => by rw [ef168, q_setr (Or.inl (fun q => by rw [q, kv] at kn0; exact absurd kn0 (by decide)))]) (fun i9 => by rw [ef168, q_setr (Or.inl (fun q => by rw [q, kv] at kl0; exact absurd kl0 (by decide)))]) (fun i9 => by rw [ef168, q_setr (Or.inl (fun q => by rw [q, kv] at km0; exact absurd km0 (by decide)))])
  have g180 : tw_vw K L 51 57 63 69 f168 v5 n5 l5 m5 d5 s5 := tw_vw_tr g164 (fun a9 h9 k9 c9 => by rw [ef168, q_setz (Or.inl (fun q => by rw [q, kv] at k9; exact absurd k9 (by decide)))]) (fun a9 h9 k9 c9 => by rw [ef168, q_setz (Or.inl (fun q => by rw [q, kv] at k9; exact absurd k9 (by decide)))]) (fun a9 h9 k9 c9 => by rw [ef168, q_setz (Or.inl (fun q => by rw [q, kv] at k9; exact absurd k9 (by decide)))]) (fun a9 h9 k9 c9 => by rw [ef168, q_setz (Or.inl (fun q => by rw [q, kv] at k9; exact absurd k9 (by decide)))]) (fun i9 => by rw [ef168, q_setr (Or.inl (fun q => by rw [q, kv] at kn5; exact absurd kn5 (by decide)))]) (fun i9 => by rw [ef168, q_setr (Or.inl (fun q => by rw [q, kv] at kl5; exact absurd kl5 (by decide)))]) (fun i9 => by rw [ef168, q_setr (Or.inl (fun q => by rw [q, kv] at km5; exact absurd km5 (by decide)))])
  refine q_ald_n cx dX4_copyFrom_40 rfl (lv_at hl 0 rfl) ?_
  refine q_ald_n cx dX4_copyFrom_41 rfl (lv_at hl 1 rfl) ?_
  obtain ⟨x181, ex181⟩ : ∃ zz, q_is (q_z f168 p0 5) zz := ⟨_, q_isr _⟩
  obtain ⟨lx181, ux181⟩ := q_isb ex181 (q_fib hB.2.1 hp0 kp0 (by decide) rfl)
  obtain ⟨x182, ex182, nx182⟩ : ∃ zz, q_is (q_z f168 p0 5) zz ∧ zz = x181 := ⟨_, ex181, rfl⟩
  have sx182 : q_is x182 (s5 (27 + Int.toNat lj) 5) := tw_g g180 hp1 (by omega) (by omega) ex182
  refine q_gX4_25_69 cx hB hp0 kp0 ex182 dX4_copyFrom_42 (fun lb183 ub183 => ?_)
  refine q_pX4_25 cx hB hv kv ⟨by omega, by omega⟩ (by omega) (by omega) rfl dX4_copyFrom_45 (fun H locs f184 ef184 z185 hB => ?_)
  have z186 : q_is (q_z f184 p0 0) x121 := by rw [ef184, q_setz (Or.inr (by decide))]; exact z170
  have z187 : q_is (q_z f184 v 0) x122 := by rw [ef184, q_setz (Or.inr (by decide))]; exact z171
  have z188 : q_is (q_z f184 p0 1) x129 := by rw [ef184, q_setz (Or.inr (by decide))]; exact z172
  have z189 : q_is (q_z f184 v 1) x130 := by rw [ef184, q_setz (Or.inr (by decide))]; exact z173
  have z190 : q_is (q_z f184 p0 2) x139 := by rw [ef184, q_setz (Or.inr (by decide))]; exact z174
  have z191 : q_is (q_z f184 v 2) x140 := by rw [ef184, q_setz (Or.inr (by decide))]; exact z175
  have z192 : q_is (q_z f184 p0 3) x151 := by rw [ef184, q_setz (Or.inr (by decide))]; exact z176
  have z193 : q_is (q_z f184 v 3) x152 := by rw [ef184, q_setz (Or.inr (by decide))]; exact z177
  have z194 : q_is (q_z f184 p0 4) x165 := by rw [ef184, q_setz (Or.inr (by decide))]; exact z178
  have z195 : q_is (q_z f184 v 4) x166 := by rw [ef184, q_setz (Or.inr (by decide))]; exact z169
  have z196 : q_is (q_z f184 p0 5) x181 := by rw [ef184, q_setz (Or.inl (fun q => by rw [q, kv] at kp0; exact absurd kp0 (by decide)))]; exact ex181
  have g197 : tw_vw K L 10 5 3 4 f184 v0 n0 l0 m0 d0 (tw_u (tw_u (tw_u (tw_u (tw_u (tw_u s0 (27 + Int.toNat li) 0 x122) (27 + Int.toNat li) 1 x130) (27 + Int.toNat li) 2 x140) (27 + Int.toNat li) 3 x152) (27 + Int.toNat li) 4 x166) (27 + Int.toNat li) 5 x182) := tw_vw_s g179 hp0 (by omega) (by omega) ef184 z185 (fun i9 => by rw [ef184, q_setr (Or.inl (fun q => by rw [q, kv] at kn0; exact absurd kn0 (by decide)))]) (fun i9 => by rw [ef184, q_setr (Or.inl (fun q => by rw [q, kv] at kl0; exact absurd kl0 (by decide)))]) (fun i9 => by rw [ef184, q_setr (Or.inl (fun q => by rw [q, kv] at km0; exact absurd km0 (by decide)))])
  have g198 : tw_vw K L 51 57 63 69 f184 v5 n5 l5 m5 d5 s5 := tw_vw_tr g180 (fun a9 h9 k9 c9 => by rw [ef184, q_setz (Or.inl (fun q => by rw [q, kv] at k9; exact absurd k9 (by decide)))]) (fun a9 h9 k9 c9 => by rw [ef184, q_setz (Or.inl (fun q => by rw [q, kv] at k9; exact absurd k9 (by decide)))]) (fun a9 h9 k9 c9 => by rw [ef184, q_setz (Or.inl (fun q => by rw [q, kv] at k9; exact absurd k9 (by decide)))]) (fun a9 h9 k9 c9 => by rw [ef184, q_setz (Or.inl (fun q => by rw [q, kv] at k9; exact absurd k9 (by decide)))]) (fun i9 => by rw [ef184, q_setr (Or.inl (fun q => by rw [q, kv] at kn5; exact absurd kn5 (by decide)))]) (fun i9 => by rw [ef184, q_setr (Or.inl (fun q => by rw [q, kv] at kl5; exact absurd kl5 (by decide)))]) (fun i9 => by rw [ef184, q_setr (Or.inl (fun q => by rw [q, kv] at km5; exact absurd km5 (by decide)))])
  refine q_ald_n cx dX4_copyFrom_48 rfl (lv_at hl 0 rfl) ?_
  refine q_ald_n cx dX4_copyFrom_49 rfl (lv_at hl 1 rfl) ?_
  obtain ⟨x199, ex199⟩ : ∃ zz, q_is (q_z f184 p0 6) zz := ⟨_, q_isr _⟩
  obtain ⟨lx199, ux199⟩ := q_isb ex199 (q_fib hB.2.1 hp0 kp0 (by decide) rfl)
  obtain ⟨x200, ex200, nx200⟩ : ∃ zz, q_is (q_z f184 p0 6) zz ∧ zz = x199 := ⟨_, ex199, rfl⟩
  have sx200 : q_is x200 (s5 (27 + Int.toNat lj) 6) := tw_g g198 hp1 (by omega) (by omega) ex200
  refine q_gX4_28_69 cx hB hp0 kp0 ex200 dX4_copyFrom_50 (fun lb201 ub201 => ?_)
  refine q_pX4_28 cx hB hv kv ⟨by omega, by omega⟩ (by omega) (by omega) rfl dX4_copyFrom_53 (fun H locs f202 ef202 z203 hB => ?_)
  have z204 : q_is (q_z f202 p0 0) x121 := by rw [ef202, q_setz (Or.inr (by decide))]; exact z186
  have z205 : q_is (q_z f202 v 0) x122 := by rw [ef202, q_setz (Or.inr (by decide))]; exact z187
  have z206 : q_is (q_z f202 p0 1) x129 := by rw [ef202, q_setz (Or.inr (by decide))]; exact z188
  have z207 : q_is (q_z f202 v 1) x130 := by rw [ef202, q_setz (Or.inr (by decide))]; exact z189
  have z208 : q_is (q_z f202 p0 2) x139 := by rw [ef202, q_setz (Or.inr (by decide))]; exact z190
  have z209 : q_is (q_z f202 v 2) x140 := by rw [ef202, q_setz (Or.inr (by decide))]; exact z191
  have z210 : q_is (q_z f202 p0 3) x151 := by rw [ef202, q_setz (Or.inr (by decide))]; exact z192
  have z211 : q_is (q_z f202 v 3) x152 := by rw [ef202, q_setz (Or.inr (by decide))]; exact z193
  have z212 : q_is (q_z f202 p0 4) x165 := by rw [ef202, q_setz (Or.inr (by decide))]; exact z194
  have z213 : q_is (q_z f202 v 4) x166 := by rw [ef202, q_setz (Or.inr (by decide))]; exact z195
  have z214 : q_is (q_z f202 p0 5) x181 := by rw [ef202, q_setz (Or.inr (by decide))]; exact z196
  have z215 : q_is (q_z f202 v 5) x182 := by rw [ef202, q_setz (Or.inr (by decide))]; exact z185
  have z216 : q_is (q_z f202 p0 6) x199 := by rw [ef202, q_setz (Or.inl (fun q => by rw [q, kv] at kp0; exact absurd kp0 (by decide)))]; exact ex199
  have g217 : tw_vw K L 10 5 3 4 f202 v0 n0 l0 m0 d0 (tw_u (tw_u (tw_u (tw_u (tw_u (tw_u (tw_u s0 (27 + Int.toNat li) 0 x122) (27 + Int.toNat li) 1 x130) (27 + Int.toNat li) 2 x140) (27 + Int.toNat li) 3 x152) (27 + Int.toNat li) 4 x166) (27 + Int.toNat li) 5 x182) (27 + Int.toNat li) 6 x200) := tw_vw_s g197 hp0 (by omega) (by omega) ef202 z203 (fun i9 => by rw [ef202, q_setr (Or.inl (fun q => by rw [q, kv] at kn0; exact absurd kn0 (by decide)))]) (fun i9 => by rw [ef202, q_setr (Or.inl (fun q => by rw [q, kv] at kl0; exact absurd kl0 (by decide)))]) (fun i9 => by rw [ef202, q_setr (Or.inl (fun q => by rw [q, kv] at km0; exact absurd km0 (by decide)))])
  have g218 : tw_vw K L 51 57 63 69 f202 v5 n5 l5 m5 d5 s5 := tw_vw_tr g198 (fun a9 h9 k9 c9 => by rw [ef202, q_setz (Or.inl (fun q => by rw [q, kv] at k9; exact absurd k9 (by decide)))]) (fun a9 h9 k9 c9 => by rw [ef202, q_setz (Or.inl (fun q => by rw [q, kv] at k9; exact absurd k9 (by decide)))]) (fun a9 h9 k9 c9 => by rw [ef202, q_setz (Or.inl (fun q => by rw [q, kv] at k9; exact absurd k9 (by decide)))]) (fun a9 h9 k9 c9 => by rw [ef202, q_setz (Or.inl (fun q => by rw [q, kv] at k9; exact absurd k9 (by decide)))]) (fun i9 => by rw [ef202, q_setr (Or.inl (fun q => by rw [q, kv] at kn5; exact absurd kn5 (by decide)))]) (fun i9 => by rw [ef202, q_setr (Or.inl (fun q => by rw [q, kv] at kl5; exact absurd kl5 (by decide)))]) (fun i9 => by rw [ef202, q_setr (Or.inl (fun q => by rw [q, kv] at km5; exact absurd km5 (by decide)))])
  refine q_ald_n cx dX4_copyFrom_56 rfl (lv_at hl 0 rfl) ?_
  refine q_ald_n cx dX4_copyFrom_57 rfl (lv_at hl 1 rfl) ?_
  obtain ⟨x219, ex219⟩ : ∃ zz, q_is (q_z f202 p0 7) zz := ⟨_, q_isr _⟩
  obtain ⟨lx219, ux219⟩ := q_isb ex219 (q_fib hB.2.1 hp0 kp0 (by decide) rfl)
  obtain ⟨x220, ex220, nx220⟩ : ∃ zz, q_is (q_z f202 p0 7) zz ∧ zz = x219 := ⟨_, ex219, rfl⟩
  have sx220 : q_is x220 (s5 (27 + Int.toNat lj) 7) := tw_g g218 hp1 (by omega) (by omega) ex220
  refine q_gX4_31_69 cx hB hp0 kp0 ex220 dX4_copyFrom_58 (fun lb221 ub221 => ?_)
  refine q_pX4_31 cx hB hv kv ⟨by omega, by omega⟩ (by omega) (by omega) rfl dX4_copyFrom_61 (fun H locs f222 ef222 z223 hB => ?_)
  have z224 : q_is (q_z f222 p0 0) x121 := by rw [ef222, q_setz (Or.inr (by decide))]; exact z204
  have z225 : q_is (q_z f222 v 0) x122 := by rw [ef222, q_setz (Or.inr (by decide))]; exact z205
  have z226 : q_is (q_z f222 p0 1) x129 := by rw [ef222, q_setz (Or.inr (by decide))]; exact z206
  have z227 : q_is (q_z f222 v 1) x130 := by rw [ef222, q_setz (Or.inr (by decide))]; exact z207
  have z228 : q_is (q_z f222 p0 2) x139 := by rw [ef222, q_setz (Or.inr (by decide))]; exact z208
  have z229 : q_is (q_z f222 v 2) x140 := by rw [ef222, q_setz (Or.inr (by decide))]; exact z209
  have z230 : q_is (q_z f222 p0 3) x151 := by rw [ef222, q_setz (Or.inr (by decide))]; exact z210
  have z231 : q_is (q_z f222 v 3) x152 := by rw [ef222, q_setz (Or.inr (by decide))]; exact z211
  have z232 : q_is (q_z f222 p0 4) x165 := by rw [ef222, q_setz (Or.inr (by decide))]; exact z212
  have z233 : q_is (q_z f222 v 4) x166 := by rw [ef222, q_setz (Or.inr (by decide))]; exact z213
  have z234 : q_is (q_z f222 p0 5) x181 := by rw [ef222, q_setz (Or.inr (by decide))]; exact z214
  have z235 : q_is (q_z f222 v 5) x182 := by rw [ef222, q_setz (Or.inr (by decide))]; exact z215
  have z236 : q_is (q_z f222 p0 6) x199 := by rw [ef222, q_setz (Or.inr (by decide))]; exact z216
  have z237 : q_is (q_z f222 v 6) x200 := by rw [ef222, q_setz (Or.inr (by decide))]; exact z203
  have z238 : q_is (q_z f222 p0 7) x219 := by rw [ef222, q_setz (Or.inl (fun q => by rw [q, kv] at kp0; exact absurd kp0 (by decide)))]; exact ex219
  have g239 : tw_vw K L 10 5 3 4 f222 v0 n0 l0 m0 d0 (tw_u (tw_u (tw_u (tw_u (tw_u (tw_u (tw_u (tw_u s0 (27 + Int.toNat li) 0 x122) (27 + Int.toNat li) 1 x130) (27 + Int.toNat li) 2 x140) (27 + Int.toNat li) 3 x152) (27 + Int.toNat li) 4 x166) (27 + Int.toNat li) 5 x182) (27 + Int.toNat li) 6 x200) (27 + Int.toNat li) 7 x220) := tw_vw_s g217 hp0 (by omega) (by omega) ef222 z223 (fun i9 => by rw [ef222, q_setr (Or.inl (fun q => by rw [q, kv] at kn0; exact absurd kn0 (by decide)))]) (fun i9 => by rw [ef222, q_setr (Or.inl (fun q => by rw [q, kv] at kl0; exact absurd kl0 (by decide)))]) (fun i9 => by rw [ef222, q_setr (Or.inl (fun q => by rw [q, kv] at km0; exact absurd km0 (by decide)))])
  have g240 : tw_vw K L 51 57 63 69 f222 v5 n5 l5 m5 d5 s5 := tw_vw_tr g218 (fun a9 h9 k9 c9 => by rw [ef222, q_setz (Or.inl (fun q => by rw [q, kv] at k9; exact absurd k9 (by decide)))]) (fun a9 h9 k9 c9 => by rw [ef222, q_setz (Or.inl (fun q => by rw [q, kv] at k9; exact absurd k9 (by decide)))]) (fun a9 h9 k9 c9 => by rw [ef222, q_setz (Or.inl (fun q => by rw [q, kv] at k9; exact absurd k9 (by decide)))]) (fun a9 h9 k9 c9 => by rw [ef222, q_setz (Or.inl (fun q => by rw [q, kv] at k9; exact absurd k9 (by decide)))]) (fun i9 => by rw [ef222, q_setr (Or.inl (fun q => by rw [q, kv] at kn5; exact absurd kn5 (by decide)))]) (fun i9 => by rw [ef222, q_setr (Or.inl (fun q => by rw [q, kv] at kl5; exact absurd kl5 (by decide)))]) (fun i9 => by rw [ef222, q_setr (Or.inl (fun q => by rw [q, kv] at km5; exact absurd km5 (by decide)))])
  refine q_vret cx hr hlk hB dX4_copyFrom_64 ?_
  exact (tw_cg g239 (by have t0_ : x122 = s5 (27 + Int.toNat lj) 0 := sx122; have t1_ : x130 = s5 (27 + Int.toNat lj) 1 := sx130; have t2_ : x140 = s5 (27 + Int.toNat lj) 2 := sx140; have t3_ : x152 = s5 (27 + Int.toNat lj) 3 := sx152; have t4_ : x166 = s5 (27 + Int.toNat lj) 4 := sx166; have t5_ : x182 = s5 (27 + Int.toNat lj) 5 := sx182; have t6_ : x200 = s5 (27 + Int.toNat lj) 6 := sx200; have t7_ : x220 = s5 (27 + Int.toNat lj) 7 := sx220; (try simp only [t0_, t1_, t2_, t3_, t4_, t5_, t6_, t7_]); (repeat' split) <;> first | rfl | (exfalso; omega)))
set_option maxHeartbeats 4000000 in
set_option maxRecDepth 100000 in
theorem f_vcopy05 (l : Launch) (g : q_G) {K : Nat → Nat} {L : List Nat} (hN : L.Nodup) {f : Nat → va_E} (hT : q_Ty g K L f) (d0 : Nat → Nat) (s0 : tw_S) (d5 : Nat → Nat) (s5 : tw_S) (v0 : Nat) (hv0 : v0 ∈ L) (kv0 : K v0 = 10) (v5 : Nat) (hv5 : v5 ∈ L) (kv5 : K v5 = 51) (n0 : Nat) (hn0 : n0 ∈ L) (kn0 : K n0 = 110) (l0 : Nat) (hl0 : l0 ∈ L) (kl0 : K l0 = 120) (m0 : Nat) (hm0 : m0 ∈ L) (km0 : K m0 = 130) (n5 : Nat) (hn5 : n5 ∈ L) (kn5 : K n5 = 201) (l5 : Nat) (hl5 : l5 ∈ L) (kl5 : K l5 = 207) (m5 : Nat) (hm5 : m5 ∈ L) (km5 : K m5 = 213) (nn : Int) (lnn : 0 ≤ nn) (unn : nn ≤ 10) (ln : Int) (lln : 0 ≤ ln) (uln : ln ≤ 16) (mn : Int) (lmn : 0 ≤ mn) (umn : mn ≤ 61) (tm : Int) (ltm : 0 ≤ tm) (utm : tm ≤ 20000) (hf0 : q_is (q_z f v5 3) nn) (hf1 : q_is (q_z f v5 4) ln) (hf2 : q_is (q_z f v5 5) mn) (hf3 : q_is (q_z f v5 11) tm) (hr0 : q_ir (q_r f v0 0) n0) (hr1 : q_ir (q_r f v0 1) l0) (hr2 : q_ir (q_r f v0 2) m0) (hr3 : q_ir (q_r f v5 0) n5) (hr4 : q_ir (q_r f v5 1) l5) (hr5 : q_ir (q_r f v5 2) m5) (hw0 : tw_vw K L 10 5 3 4 f v0 n0 l0 m0 d0 s0) (hw5 : tw_vw K L 51 57 63 69 f v5 n5 l5 m5 d5 s5) (hz0 : tw_nw K L 5 f) (hz5 : tw_nw K L 57 f) : q_Ct l g K L yX10_copyFrom cX10_copyFrom 3 none 1 21 [.ref v0, .ref v5] f [(3, 0, 4), (4, 0, 7), (5, 0, 8), (10, 3, 12)] (q_Pv (fun (f1 : Nat → va_E) => q_is (q_z f1 v0 3) nn ∧ q_is (q_z f1 v0 4) ln ∧ q_is (q_z f1 v0 5) mn ∧ q_is (q_z f1 v0 11) tm ∧ (tw_vw K L 10 5 3 4 f1 v0 n0 l0 m0 d0 (tw_cp s0 s5)) ∧ (tw_nw K L 5 f1))) := by
  refine q_ofb (by decide +kernel) hN hT (Nat.le_of_ble_eq_true rfl) ?_
  intro p e s m below meth c ls cx hr hlk hB hl
  have hl : lv_has ls 3 [(0, .ref v0), (1, .ref v5)] := hl
  have J140 : ∀ (n : Nat) (f140 : Nat → va_E) (v140_2 : Int) (lv140_2 : 0 ≤ v140_2) (uv140_2 : v140_2 ≤ 61) (w140_v0_3 : Int) (lw140_v0_3 : 0 ≤ w140_v0_3) (uw140_v0_3 : w140_v0_3 ≤ 10) (w140_v0_4 : Int) (lw140_v0_4 : 0 ≤ w140_v0_4) (uw140_v0_4 : w140_v0_4 ≤ 16) (w140_v0_5 : Int) (lw140_v0_5 : 0 ≤ w140_v0_5) (uw140_v0_5 : w140_v0_5 ≤ 61) (w140_v0_11 : Int) (lw140_v0_11 : 0 ≤ w140_v0_11) (uw140_v0_11 : w140_v0_11 ≤ 20000) (hj_v5_3 : q_is (q_z f140 v5 3) nn) (hj_v5_4 : q_is (q_z f140 v5 4) ln) (hj_v5_5 : q_is (q_z f140 v5 5) mn) (hj_v5_11 : q_is (q_z f140 v5 11) tm) (hj_v0_3 : q_is (q_z f140 v0 3) w140_v0_3) (hj_v0_4 : q_is (q_z f140 v0 4) w140_v0_4) (hj_v0_5 : q_is (q_z f140 v0 5) w140_v0_5) (hj_v0_11 : q_is (q_z f140 v0 11) w140_v0_11) (hq_v0_0 : q_ir (q_r f140 v0 0) n0) (hq_v0_1 : q_ir (q_r f140 v0 1) l0) (hq_v0_2 : q_ir (q_r f140 v0 2) m0) (hq_v5_0 : q_ir (q_r f140 v5 0) n5) (hq_v5_1 : q_ir (q_r f140 v5 1) l5) (hq_v5_2 : q_ir (q_r f140 v5 2) m5) (hw5140 : tw_vw K L 51 57 63 69 f140 v5 n5 l5 m5 d5 s5) (hz0140 : tw_nw K L 5 f140) (hz5140 : tw_nw K L 57 f140) (hrl140_0 : 0 ≤ 1 * mn + -1 * v140_2 + 0) (hrl140_1 : 0 ≤ 1 * nn + -1 * w140_v0_3 + 0 ∧ 1 * nn + -1 * w140_v0_3 + 0 ≤ 0) (hrl140_2 : 0 ≤ 1 * ln + -1 * w140_v0_4 + 0 ∧ 1 * ln + -1 * w140_v0_4 + 0 ≤ 0) (hrl140_3 : 0 ≤ 1 * mn + -1 * w140_v0_5 + 0 ∧ 1 * mn + -1 * w140_v0_5 + 0 ≤ 0) (hrl140_4 : 0 ≤ 1 * tm + -1 * w140_v0_11 + 0 ∧ 1 * tm + -1 * w140_v0_11 + 0 ≤ 0) (hvw : tw_vw K L 10 5 3 4 f140 v0 n0 l0 m0 d0 (tw_cml (tw_cll (tw_cnl (tw_c0 s0 s5) s5 (Int.toNat (s5 0 3))) s5 (Int.toNat (s5 0 4))) s5 (Int.toNat v140_2))) (hmu : (Int.toNat (2147483647 - v140_2)) < n) (H : Heap) (locs : List Loc) (hB : q_B g K L (fun q => q ∈ L) [(3, 0, 4), (4, 0, 7), (5, 0, 8), (10, 3, 12)] f f140 s H locs) (ls : Array Slot) (hl : lv_has ls 3 [(0, .ref v0), (1, .ref v5), (2, .int (q_i v140_2))]), W p l e { frames := 1, cells := 0, slots := 0, locals := 21 } s m ([.ref v0, .ref v5] : List Value).toArray below meth c H locs 0 0 (MQ below (q_Q g K L [(3, 0, 4), (4, 0, 7), (5, 0, 8), (10, 3, 12)] f (q_Pv (fun (f1 : Nat → va_E) => q_is (q_z f1 v0 3) nn ∧ q_is (q_z f1 v0 4) ln ∧ q_is (q_z f1 v0 5) mn ∧ q_is (q_z f1 v0 11) tm ∧ (tw_vw K L 10 5 3 4 f1 v0 n0 l0 m0 d0 (tw_cp s0 s5)) ∧ (tw_nw K L 5 f1)))) ([.ref v0, .ref v5] : List Value).toArray s 0 0 (fun q => q ∈ L)) (F0 m 140 ls []) := by
    intro n
    induction n with
    | zero =>
      intro f140 v140_2 lv140_2 uv140_2 w140_v0_3 lw140_v0_3 uw140_v0_3 w140_v0_4 lw140_v0_4 uw140_v0_4 w140_v0_5 lw140_v0_5 uw140_v0_5 w140_v0_11 lw140_v0_11 uw140_v0_11 hj_v5_3 hj_v5_4 hj_v5_5 hj_v5_11 hj_v0_3 hj_v0_4 hj_v0_5 hj_v0_11 hq_v0_0 hq_v0_1 hq_v0_2 hq_v5_0 hq_v5_1 hq_v5_2 hw5140 hz0140 hz5140 hrl140_0 hrl140_1 hrl140_2 hrl140_3 hrl140_4 hvw hmu
      exact absurd hmu (Nat.not_lt_zero _)
    | succ n ih140 =>
      intro f140 v140_2 lv140_2 uv140_2 w140_v0_3 lw140_v0_3 uw140_v0_3 w140_v0_4 lw140_v0_4 uw140_v0_4 w140_v0_5 lw140_v0_5 uw140_v0_5 w140_v0_11 lw140_v0_11 uw140_v0_11 hj_v5_3 hj_v5_4 hj_v5_5 hj_v5_11 hj_v0_3 hj_v0_4 hj_v0_5 hj_v0_11 hq_v0_0 hq_v0_1 hq_v0_2 hq_v5_0 hq_v5_1 hq_v5_2 hw5140 hz0140 hz5140 hrl140_0 hrl140_1 hrl140_2 hrl140_3 hrl140_4 hvw hmu H locs hB ls hl
      refine q_ild_n cx dX10_copyFrom_140 rfl (lv_at hl 2 rfl) ?_
      refine q_ald_n cx dX10_copyFrom_141 rfl (lv_at hl 0 rfl) ?_
      obtain ⟨x1698, ex1698, nx1698⟩ : ∃ zz, q_is (q_z f140 v0 5) zz ∧ zz = w140_v0_5 := ⟨_, hj_v0_5, rfl⟩
      have sx1698 : q_is x1698 ((tw_cml (tw_cll (tw_cnl (tw_c0 s0 s5) s5 (Int.toNat (s5 0 3))) s5 (Int.toNat (s5 0 4))) s5 (Int.toNat v140_2)) 0 5) := tw_g hvw (tw_v0 hw0) (by omega) (by omega) ex1698
      refine q_gX10_42 cx hB hv0 kv0 ex1698 dX10_copyFrom_142 (fun lb1699 ub1699 => ?_)
      refine q_icge (tgt := 167) cx ⟨by omega, by omega⟩ ⟨by omega, by omega⟩ dX10_copyFrom_145 (by decide) (fun c1700 => ?_) (fun c1700 => ?_)
      · have hve5 : tw_vw K L 10 5 3 4 f140 v0 n0 l0 m0 d0 (tw_cml (tw_cll (tw_cnl (tw_c0 s0 s5) s5 (Int.toNat (s5 0 3))) s5 (Int.toNat (s5 0 4))) s5 (Int.toNat (s5 0 5))) := tw_cg hvw (by have e8 : mn = s5 0 5 := tw_g hw5 (tw_v0 hw5) (by omega) (by omega) hf2; have e9 : v140_2 = s5 0 5 := by omega; rw [e9])
        refine q_vret cx hr hlk hB dX10_copyFrom_167 ?_
        exact ⟨(Eq.trans hj_v0_3 (by omega)), (Eq.trans hj_v0_4 (by omega)), (Eq.trans hj_v0_5 (by omega)), (Eq.trans hj_v0_11 (by omega)), (tw_cg hve5 rfl), hz0140⟩
      · refine q_ald_n cx dX10_copyFrom_148 rfl (lv_at hl 0 rfl) ?_
        refine q_ild_n cx dX10_copyFrom_149 rfl (lv_at hl 2 rfl) ?_
        refine q_cVr (As := [.int (q_i v140_2)]) (rest := []) cx hB (fun _ h => h) hN hv0 kv0 (by decide) rfl (f_messageAt0 l g hN hB.2.1 d0 (tw_cml (tw_cll (tw_cnl (tw_c0 s0 s5) s5 (Int.toNat (s5 0 3))) s5 (Int.toNat (s5 0 4))) s5 (Int.toNat v140_2)) v0 hv0 kv0 v140_2 (by omega) (by omega) n0 hn0 kn0 l0 hl0 kl0 m0 hm0 km0 hq_v0_0 hq_v0_1 hq_v0_2 hvw) q_cX10_81 q_dX10_messageAt (by decide) rfl rfl hl.1 rfl (Nat.le_of_ble_eq_true rfl) dX10_copyFrom_150 (fun y1702 H locs f1701 h1703 hF hB => ?_)
        obtain ⟨rfl, hy1702, ky1702, t1704⟩ := h1703
        refine q_ald_n cx dX10_copyFrom_153 rfl (lv_at hl 1 rfl) ?_
        refine q_ild_n cx dX10_copyFrom_154 rfl (lv_at hl 2 rfl) ?_
        refine q_cVr (As := [.int (q_i v140_2)]) (rest := [.ref y1702]) cx hB (fun _ h => h) hN hv5 kv5 (by decide) rfl (f_messageAt5 l g hN hB.2.1 d5 s5 v5 hv5 kv5 v140_2 (by omega) (by omega) n5 hn5 kn5 l5 hl5 kl5 m5 hm5 km5 hq_v5_0 hq_v5_1 hq_v5_2 hw5140) q_cX10_81 q_dX10_messageAt (by decide) rfl rfl hl.1 rfl (Nat.le_of_ble_eq_true rfl) dX10_copyFrom_155 (fun y1706 H locs f1705 h1707 hF hB => ?_)
        obtain ⟨rfl, hy1706, ky1706, t1708⟩ := h1707
        refine q_cVv (As := [.ref y1706]) (rest := []) cx hB (fun _ h => h) hN hy1702 ky1702 (by decide) rfl (f_mcopy05 l g hN hB.2.1 d0 (tw_cml (tw_cll (tw_cnl (tw_c0 s0 s5) s5 (Int.toNat (s5 0 3))) s5 (Int.toNat (s5 0 4))) s5 (Int.toNat v140_2)) d5 s5 y1702 hy1702 ky1702 y1706 hy1706 ky1706 v0 hv0 kv0 n0 hn0 kn0 l0 hl0 kl0 m0 hm0 km0 v5 hv5 kv5 n5 hn5 kn5 l5 hl5 kl5 m5 hm5 km5 v140_2 (by omega) (by omega) v140_2 (by omega) (by omega) t1704 t1708 hvw hw5140) q_cX10_85 q_dX4_copyFrom (by decide) rfl rfl hl.1 rfl (Nat.le_of_ble_eq_true rfl) dX10_copyFrom_158 (fun H locs f1709 h1711 hF hB => ?_)
        have g1712 := h1711
        have z1713 : q_is (q_z f1709 v5 3) nn := Eq.trans (hF.z hv5 (by rw [kv5]; rfl)) hj_v5_3
        have z1714 : q_is (q_z f1709 v5 4) ln := Eq.trans (hF.z hv5 (by rw [kv5]; rfl)) hj_v5_4
        have z1715 : q_is (q_z f1709 v5 5) mn := Eq.trans (hF.z hv5 (by rw [kv5]; rfl)) hj_v5_5
        have z1716 : q_is (q_z f1709 v5 11) tm := Eq.trans (hF.z hv5 (by rw [kv5]; rfl)) hj_v5_11
        have z1717 : q_is (q_z f1709 v0 3) w140_v0_3 := Eq.trans (hF.z hv0 (by rw [kv0]; rfl)) hj_v0_3
        have z1718 : q_is (q_z f1709 v0 4) w140_v0_4 := Eq.trans (hF.z hv0 (by rw [kv0]; rfl)) hj_v0_4
        have z1719 : q_is (q_z f1709 v0 5) w140_v0_5 := Eq.trans (hF.z hv0 (by rw [kv0]; rfl)) hj_v0_5
        have z1720 : q_is (q_z f1709 v0 11) w140_v0_11 := Eq.trans (hF.z hv0 (by rw [kv0]; rfl)) hj_v0_11
        have z1721 : q_ir (q_r f1709 v0 0) n0 := Eq.trans (hF.r hv0 (by rw [kv0]; rfl)) hq_v0_0
        have z1722 : q_ir (q_r f1709 v0 1) l0 := Eq.trans (hF.r hv0 (by rw [kv0]; rfl)) hq_v0_1
        have z1723 : q_ir (q_r f1709 v0 2) m0 := Eq.trans (hF.r hv0 (by rw [kv0]; rfl)) hq_v0_2
        have z1724 : q_ir (q_r f1709 v5 0) n5 := Eq.trans (hF.r hv5 (by rw [kv5]; rfl)) hq_v5_0
        have z1725 : q_ir (q_r f1709 v5 1) l5 := Eq.trans (hF.r hv5 (by rw [kv5]; rfl)) hq_v5_1
        have z1726 : q_ir (q_r f1709 v5 2) m5 := Eq.trans (hF.r hv5 (by rw [kv5]; rfl)) hq_v5_2
        have g1727 : tw_vw K L 51 57 63 69 f1709 v5 n5 l5 m5 d5 s5 := tw_vw_tr hw5140 (fun a9 h9 k9 c9 => hF.z h9 (by rw [k9]; rfl)) (fun a9 h9 k9 c9 => hF.z h9 (by rw [k9]; rfl)) (fun a9 h9 k9 c9 => hF.z h9 (by rw [k9]; rfl)) (fun a9 h9 k9 c9 => hF.z h9 (by rw [k9]; rfl)) (fun i9 => hF.r hn5 (by rw [kn5]; rfl)) (fun i9 => hF.r hl5 (by rw [kl5]; rfl)) (fun i9 => hF.r hm5 (by rw [km5]; rfl))
        have g1728 : tw_nw K L 5 f1709 := tw_nw_tr hz0140 (fun a9 h9 k9 => hF.j h9 (by rw [k9]; rfl))
        have g1729 : tw_nw K L 57 f1709 := tw_nw_tr hz5140 (fun a9 h9 k9 => hF.j h9 (by rw [k9]; rfl))
        refine q_iinc (lv' := [(2, .int (q_i (v140_2 + 1))), (0, .ref v0), (1, .ref v5)]) cx dX10_copyFrom_161 hl (k := 2) rfl (by decide) rfl (fun ls hl => ?_)
        refine lv_goto (tgt := 140) cx.1 cx.2.1 dX10_copyFrom_164 (by decide) ?_
        exact ih140 f1709 (v140_2 + 1) (by omega) (by omega) w140_v0_3 (by omega) (by omega) w140_v0_4 (by omega) (by omega) w140_v0_5 (by omega) (by omega) w140_v0_11 (by omega) (by omega) z1713 z1714 z1715 z1716 z1717 z1718 z1719 z1720 z1721 z1722 z1723 z1724 z1725 z1726 g1727 g1728 g1729 (by omega) (by omega) (by omega) (by omega) (by omega) (tw_cg g1712 (by have t0_ : x1698 = (tw_cml (tw_cll (tw_cnl (tw_c0 s0 s5) s5 (Int.toNat (s5 0 3))) s5 (Int.toNat (s5 0 4))) s5 (Int.toNat v140_2)) 0 5 := sx1698; (try simp only [t0_]); rw [tw_cml_s (by omega)]; (repeat' split) <;> first | rfl | (exfalso; omega))) (by omega) H locs hB ls (lv_sub hl [1, 2, 0] rfl)
  have J111 : ∀ (n : Nat) (f111 : Nat → va_E) (v111_2 : Int) (lv111_2 : 0 ≤ v111_2) (uv111_2 : v111_2 ≤ 16) (w111_v0_3 : Int) (lw111_v0_3 : 0 ≤ w111_v0_3) (uw111_v0_3 : w111_v0_3 ≤ 10) (w111_v0_4 : Int) (lw111_v0_4 : 0 ≤ w111_v0_4) (uw111_v0_4 : w111_v0_4 ≤ 16) (w111_v0_5 : Int) (lw111_v0_5 : 0 ≤ w111_v0_5) (uw111_v0_5 : w111_v0_5 ≤ 61) (w111_v0_11 : Int) (lw111_v0_11 : 0 ≤ w111_v0_11) (uw111_v0_11 : w111_v0_11 ≤ 20000) (hj_v5_3 : q_is (q_z f111 v5 3) nn) (hj_v5_4 : q_is (q_z f111 v5 4) ln) (hj_v5_5 : q_is (q_z f111 v5 5) mn) (hj_v5_11 : q_is (q_z f111 v5 11) tm) (hj_v0_3 : q_is (q_z f111 v0 3) w111_v0_3) (hj_v0_4 : q_is (q_z f111 v0 4) w111_v0_4) (hj_v0_5 : q_is (q_z f111 v0 5) w111_v0_5) (hj_v0_11 : q_is (q_z f111 v0 11) w111_v0_11) (hq_v0_0 : q_ir (q_r f111 v0 0) n0) (hq_v0_1 : q_ir (q_r f111 v0 1) l0) (hq_v0_2 : q_ir (q_r f111 v0 2) m0) (hq_v5_0 : q_ir (q_r f111 v5 0) n5) (hq_v5_1 : q_ir (q_r f111 v5 1) l5) (hq_v5_2 : q_ir (q_r f111 v5 2) m5) (hw5111 : tw_vw K L 51 57 63 69 f111 v5 n5 l5 m5 d5 s5) (hz0111 : tw_nw K L 5 f111) (hz5111 : tw_nw K L 57 f111) (hrl111_0 : 0 ≤ 1 * ln + -1 * v111_2 + 0) (hrl111_1 : 0 ≤ 1 * nn + -1 * w111_v0_3 + 0 ∧ 1 * nn + -1 * w111_v0_3 + 0 ≤ 0) (hrl111_2 : 0 ≤ 1 * ln + -1 * w111_v0_4 + 0 ∧ 1 * ln + -1 * w111_v0_4 + 0 ≤ 0) (hrl111_3 : 0 ≤ 1 * mn + -1 * w111_v0_5 + 0 ∧ 1 * mn + -1 * w111_v0_5 + 0 ≤ 0) (hrl111_4 : 0 ≤ 1 * tm + -1 * w111_v0_11 + 0 ∧ 1 * tm + -1 * w111_v0_11 + 0 ≤ 0) (hvw : tw_vw K L 10 5 3 4 f111 v0 n0 l0 m0 d0 (tw_cll (tw_cnl (tw_c0 s0 s5) s5 (Int.toNat (s5 0 3))) s5 (Int.toNat v111_2))) (hmu : (Int.toNat (2147483647 - v111_2)) < n) (H : Heap) (locs : List Loc) (hB : q_B g K L (fun q => q ∈ L) [(3, 0, 4), (4, 0, 7), (5, 0, 8), (10, 3, 12)] f f111 s H locs) (ls : Array Slot) (hl : lv_has ls 3 [(0, .ref v0), (1, .ref v5), (2, .int (q_i v111_2))]), W p l e { frames := 1, cells := 0, slots := 0, locals := 21 } s m ([.ref v0, .ref v5] : List Value).toArray below meth c H locs 0 0 (MQ below (q_Q g K L [(3, 0, 4), (4, 0, 7), (5, 0, 8), (10, 3, 12)] f (q_Pv (fun (f1 : Nat → va_E) => q_is (q_z f1 v0 3) nn ∧ q_is (q_z f1 v0 4) ln ∧ q_is (q_z f1 v0 5) mn ∧ q_is (q_z f1 v0 11) tm ∧ (tw_vw K L 10 5 3 4 f1 v0 n0 l0 m0 d0 (tw_cp s0 s5)) ∧ (tw_nw K L 5 f1)))) ([.ref v0, .ref v5] : List Value).toArray s 0 0 (fun q => q ∈ L)) (F0 m 111 ls []) := by
    intro n
    induction n with
    | zero =>
      intro f111 v111_2 lv111_2 uv111_2 w111_v0_3 lw111_v0_3 uw111_v0_3 w111_v0_4 lw111_v0_4 uw111_v0_4 w111_v0_5 lw111_v0_5 uw111_v0_5 w111_v0_11 lw111_v0_11 uw111_v0_11 hj_v5_3 hj_v5_4 hj_v5_5 hj_v5_11 hj_v0_3 hj_v0_4 hj_v0_5 hj_v0_11 hq_v0_0 hq_v0_1 hq_v0_2 hq_v5_0 hq_v5_1 hq_v5_2 hw5111 hz0111 hz5111 hrl111_0 hrl111_1 hrl111_2 hrl111_3 hrl111_4 hvw hmu
      exact absurd hmu (Nat.not_lt_zero _)
    | succ n ih111 =>
      intro f111 v111_2 lv111_2 uv111_2 w111_v0_3 lw111_v0_3 uw111_v0_3 w111_v0_4 lw111_v0_4 uw111_v0_4 w111_v0_5 lw111_v0_5 uw111_v0_5 w111_v0_11 lw111_v0_11 uw111_v0_11 hj_v5_3 hj_v5_4 hj_v5_5 hj_v5_11 hj_v0_3 hj_v0_4 hj_v0_5 hj_v0_11 hq_v0_0 hq_v0_1 hq_v0_2 hq_v5_0 hq_v5_1 hq_v5_2 hw5111 hz0111 hz5111 hrl111_0 hrl111_1 hrl111_2 hrl111_3 hrl111_4 hvw hmu H locs hB ls hl
      refine q_ild_n cx dX10_copyFrom_111 rfl (lv_at hl 2 rfl) ?_
      refine q_ald_n cx dX10_copyFrom_112 rfl (lv_at hl 0 rfl) ?_
      obtain ⟨x1730, ex1730, nx1730⟩ : ∃ zz, q_is (q_z f111 v0 4) zz ∧ zz = w111_v0_4 := ⟨_, hj_v0_4, rfl⟩
      have sx1730 : q_is x1730 ((tw_cll (tw_cnl (tw_c0 s0 s5) s5 (Int.toNat (s5 0 3))) s5 (Int.toNat v111_2)) 0 4) := tw_g hvw (tw_v0 hw0) (by omega) (by omega) ex1730
      refine q_gX10_39 cx hB hv0 kv0 ex1730 dX10_copyFrom_113 (fun lb1731 ub1731 => ?_)
      refine q_icge (tgt := 138) cx ⟨by omega, by omega⟩ ⟨by omega, by omega⟩ dX10_copyFrom_116 (by decide) (fun c1732 => ?_) (fun c1732 => ?_)
      · have hve4 : tw_vw K L 10 5 3 4 f111 v0 n0 l0 m0 d0 (tw_cll (tw_cnl (tw_c0 s0 s5) s5 (Int.toNat (s5 0 3))) s5 (Int.toNat (s5 0 4))) := tw_cg hvw (by have e8 : ln = s5 0 4 := tw_g hw5 (tw_v0 hw5) (by omega) (by omega) hf1; have e9 : v111_2 = s5 0 4 := by omega; rw [e9])
        refine q_iconst cx dX10_copyFrom_138 ?_
        refine lv_istore_n (lv' := [(2, .int (q_i 0)), (0, .ref v0), (1, .ref v5)]) cx.1 cx.2.1 dX10_copyFrom_139 rfl hl (by decide) rfl (fun ls hl => ?_)
        exact J140 ((Int.toNat (2147483647 - 0)) + 1) f111 0 (by decide) (by decide) w111_v0_3 (by omega) (by omega) w111_v0_4 (by omega) (by omega) w111_v0_5 (by omega) (by omega) w111_v0_11 (by omega) (by omega) hj_v5_3 hj_v5_4 hj_v5_5 hj_v5_11 hj_v0_3 hj_v0_4 hj_v0_5 hj_v0_11 hq_v0_0 hq_v0_1 hq_v0_2 hq_v5_0 hq_v5_1 hq_v5_2 hw5111 hz0111 hz5111 (by omega) (by omega) (by omega) (by omega) (by omega) (tw_cg hve4 (by have t0_ : x1730 = (tw_cll (tw_cnl (tw_c0 s0 s5) s5 (Int.toNat (s5 0 3))) s5 (Int.toNat v111_2)) 0 4 := sx1730; (try simp only [t0_]); rfl)) (Nat.lt_succ_self _) H locs hB ls (lv_sub hl [1, 2, 0] rfl)
      · refine q_ald_n cx dX10_copyFrom_119 rfl (lv_at hl 0 rfl) ?_
        refine q_ild_n cx dX10_copyFrom_120 rfl (lv_at hl 2 rfl) ?_
        refine q_cVr (As := [.int (q_i v111_2)]) (rest := []) cx hB (fun _ h => h) hN hv0 kv0 (by decide) rfl (f_linkAt0 l g hN hB.2.1 d0 (tw_cll (tw_cnl (tw_c0 s0 s5) s5 (Int.toNat (s5 0 3))) s5 (Int.toNat v111_2)) v0 hv0 kv0 v111_2 (by omega) (by omega) n0 hn0 kn0 l0 hl0 kl0 m0 hm0 km0 hq_v0_0 hq_v0_1 hq_v0_2 hvw) q_cX10_74 q_dX10_linkAt (by decide) rfl rfl hl.1 rfl (Nat.le_of_ble_eq_true rfl) dX10_copyFrom_121 (fun y1734 H locs f1733 h1735 hF hB => ?_)
        obtain ⟨rfl, hy1734, ky1734, t1736⟩ := h1735
        refine q_ald_n cx dX10_copyFrom_124 rfl (lv_at hl 1 rfl) ?_
        refine q_ild_n cx dX10_copyFrom_125 rfl (lv_at hl 2 rfl) ?_
        refine q_cVr (As := [.int (q_i v111_2)]) (rest := [.ref y1734]) cx hB (fun _ h => h) hN hv5 kv5 (by decide) rfl (f_linkAt5 l g hN hB.2.1 d5 s5 v5 hv5 kv5 v111_2 (by omega) (by omega) n5 hn5 kn5 l5 hl5 kl5 m5 hm5 km5 hq_v5_0 hq_v5_1 hq_v5_2 hw5111) q_cX10_74 q_dX10_linkAt (by decide) rfl rfl hl.1 rfl (Nat.le_of_ble_eq_true rfl) dX10_copyFrom_126 (fun y1738 H locs f1737 h1739 hF hB => ?_)
        obtain ⟨rfl, hy1738, ky1738, t1740⟩ := h1739
        refine q_cVv (As := [.ref y1738]) (rest := []) cx hB (fun _ h => h) hN hy1734 ky1734 (by decide) rfl (f_lcopy05 l g hN hB.2.1 d0 (tw_cll (tw_cnl (tw_c0 s0 s5) s5 (Int.toNat (s5 0 3))) s5 (Int.toNat v111_2)) d5 s5 y1734 hy1734 ky1734 y1738 hy1738 ky1738 v0 hv0 kv0 n0 hn0 kn0 l0 hl0 kl0 m0 hm0 km0 v5 hv5 kv5 n5 hn5 kn5 l5 hl5 kl5 m5 hm5 km5 v111_2 (by omega) (by omega) v111_2 (by omega) (by omega) t1736 t1740 hvw hw5111) q_cX10_78 q_dX3_copyFrom (by decide) rfl rfl hl.1 rfl (Nat.le_of_ble_eq_true rfl) dX10_copyFrom_129 (fun H locs f1741 h1743 hF hB => ?_)
        have g1744 := h1743
        have z1745 : q_is (q_z f1741 v5 3) nn := Eq.trans (hF.z hv5 (by rw [kv5]; rfl)) hj_v5_3
        have z1746 : q_is (q_z f1741 v5 4) ln := Eq.trans (hF.z hv5 (by rw [kv5]; rfl)) hj_v5_4
        have z1747 : q_is (q_z f1741 v5 5) mn := Eq.trans (hF.z hv5 (by rw [kv5]; rfl)) hj_v5_5
        have z1748 : q_is (q_z f1741 v5 11) tm := Eq.trans (hF.z hv5 (by rw [kv5]; rfl)) hj_v5_11
        have z1749 : q_is (q_z f1741 v0 3) w111_v0_3 := Eq.trans (hF.z hv0 (by rw [kv0]; rfl)) hj_v0_3
        have z1750 : q_is (q_z f1741 v0 4) w111_v0_4 := Eq.trans (hF.z hv0 (by rw [kv0]; rfl)) hj_v0_4
        have z1751 : q_is (q_z f1741 v0 5) w111_v0_5 := Eq.trans (hF.z hv0 (by rw [kv0]; rfl)) hj_v0_5
        have z1752 : q_is (q_z f1741 v0 11) w111_v0_11 := Eq.trans (hF.z hv0 (by rw [kv0]; rfl)) hj_v0_11
        have z1753 : q_ir (q_r f1741 v0 0) n0 := Eq.trans (hF.r hv0 (by rw [kv0]; rfl)) hq_v0_0
        have z1754 : q_ir (q_r f1741 v0 1) l0 := Eq.trans (hF.r hv0 (by rw [kv0]; rfl)) hq_v0_1
        have z1755 : q_ir (q_r f1741 v0 2) m0 := Eq.trans (hF.r hv0 (by rw [kv0]; rfl)) hq_v0_2
        have z1756 : q_ir (q_r f1741 v5 0) n5 := Eq.trans (hF.r hv5 (by rw [kv5]; rfl)) hq_v5_0
        have z1757 : q_ir (q_r f1741 v5 1) l5 := Eq.trans (hF.r hv5 (by rw [kv5]; rfl)) hq_v5_1
        have z1758 : q_ir (q_r f1741 v5 2) m5 := Eq.trans (hF.r hv5 (by rw [kv5]; rfl)) hq_v5_2
        have g1759 : tw_vw K L 51 57 63 69 f1741 v5 n5 l5 m5 d5 s5 := tw_vw_tr hw5111 (fun a9 h9 k9 c9 => hF.z h9 (by rw [k9]; rfl)) (fun a9 h9 k9 c9 => hF.z h9 (by rw [k9]; rfl)) (fun a9 h9 k9 c9 => hF.z h9 (by rw [k9]; rfl)) (fun a9 h9 k9 c9 => hF.z h9 (by rw [k9]; rfl)) (fun i9 => hF.r hn5 (by rw [kn5]; rfl)) (fun i9 => hF.r hl5 (by rw [kl5]; rfl)) (fun i9 => hF.r hm5 (by rw [km5]; rfl))
        have g1760 : tw_nw K L 5 f1741 := tw_nw_tr hz0111 (fun a9 h9 k9 => hF.j h9 (by rw [k9]; rfl))
        have g1761 : tw_nw K L 57 f1741 := tw_nw_tr hz5111 (fun a9 h9 k9 => hF.j h9 (by rw [k9]; rfl))
        refine q_iinc (lv' := [(2, .int (q_i (v111_2 + 1))), (0, .ref v0), (1, .ref v5)]) cx dX10_copyFrom_132 hl (k := 2) rfl (by decide) rfl (fun ls hl => ?_)
        refine lv_goto (tgt := 111) cx.1 cx.2.1 dX10_copyFrom_135 (by decide) ?_
        exact ih111 f1741 (v111_2 + 1) (by omega) (by omega) w111_v0_3 (by omega) (by omega) w111_v0_4 (by omega) (by omega) w111_v0_5 (by omega) (by omega) w111_v0_11 (by omega) (by omega) z1745 z1746 z1747 z1748 z1749 z1750 z1751 z1752 z1753 z1754 z1755 z1756 z1757 z1758 g1759 g1760 g1761 (by omega) (by omega) (by omega) (by omega) (by omega) (tw_cg g1744 (by have t0_ : x1730 = (tw_cll (tw_cnl (tw_c0 s0 s5) s5 (Int.toNat (s5 0 3))) s5 (Int.toNat v111_2)) 0 4 := sx1730; (try simp only [t0_]); rw [tw_cll_s (by omega)]; (repeat' split) <;> first | rfl | (exfalso; omega))) (by omega) H locs hB ls (lv_sub hl [1, 2, 0] rfl)
  have J82 : ∀ (n : Nat) (f82 : Nat → va_E) (v82_2 : Int) (lv82_2 : 0 ≤ v82_2) (uv82_2 : v82_2 ≤ 10) (w82_v0_3 : Int) (lw82_v0_3 : 0 ≤ w82_v0_3) (uw82_v0_3 : w82_v0_3 ≤ 10) (w82_v0_4 : Int) (lw82_v0_4 : 0 ≤ w82_v0_4) (uw82_v0_4 : w82_v0_4 ≤ 16) (w82_v0_5 : Int) (lw82_v0_5 : 0 ≤ w82_v0_5) (uw82_v0_5 : w82_v0_5 ≤ 61) (w82_v0_11 : Int) (lw82_v0_11 : 0 ≤ w82_v0_11) (uw82_v0_11 : w82_v0_11 ≤ 20000) (hj_v5_3 : q_is (q_z f82 v5 3) nn) (hj_v5_4 : q_is (q_z f82 v5 4) ln) (hj_v5_5 : q_is (q_z f82 v5 5) mn) (hj_v5_11 : q_is (q_z f82 v5 11) tm) (hj_v0_3 : q_is (q_z f82 v0 3) w82_v0_3) (hj_v0_4 : q_is (q_z f82 v0 4) w82_v0_4) (hj_v0_5 : q_is (q_z f82 v0 5) w82_v0_5) (hj_v0_11 : q_is (q_z f82 v0 11) w82_v0_11) (hq_v0_0 : q_ir (q_r f82 v0 0) n0) (hq_v0_1 : q_ir (q_r f82 v0 1) l0) (hq_v0_2 : q_ir (q_r f82 v0 2) m0) (hq_v5_0 : q_ir (q_r f82 v5 0) n5) (hq_v5_1 : q_ir (q_r f82 v5 1) l5) (hq_v5_2 : q_ir (q_r f82 v5 2) m5) (hw582 : tw_vw K L 51 57 63 69 f82 v5 n5 l5 m5 d5 s5) (hz082 : tw_nw K L 5 f82) (hz582 : tw_nw K L 57 f82) (hrl82_0 : 0 ≤ 1 * nn + -1 * v82_2 + 0) (hrl82_1 : 0 ≤ 1 * nn + -1 * w82_v0_3 + 0 ∧ 1 * nn + -1 * w82_v0_3 + 0 ≤ 0) (hrl82_2 : 0 ≤ 1 * ln + -1 * w82_v0_4 + 0 ∧ 1 * ln + -1 * w82_v0_4 + 0 ≤ 0) (hrl82_3 : 0 ≤ 1 * mn + -1 * w82_v0_5 + 0 ∧ 1 * mn + -1 * w82_v0_5 + 0 ≤ 0) (hrl82_4 : 0 ≤ 1 * tm + -1 * w82_v0_11 + 0 ∧ 1 * tm + -1 * w82_v0_11 + 0 ≤ 0) (hvw : tw_vw K L 10 5 3 4 f82 v0 n0 l0 m0 d0 (tw_cnl (tw_c0 s0 s5) s5 (Int.toNat v82_2))) (hmu : (Int.toNat (2147483647 - v82_2)) < n) (H : Heap) (locs : List Loc) (hB : q_B g K L (fun q => q ∈ L) [(3, 0, 4), (4, 0, 7), (5, 0, 8), (10, 3, 12)] f f82 s H locs) (ls : Array Slot) (hl : lv_has ls 3 [(0, .ref v0), (1, .ref v5), (2, .int (q_i v82_2))]), W p l e { frames := 1, cells := 0, slots := 0, locals := 21 } s m ([.ref v0, .ref v5] : List Value).toArray below meth c H locs 0 0 (MQ below (q_Q g K L [(3, 0, 4), (4, 0, 7), (5, 0, 8), (10, 3, 12)] f (q_Pv (fun (f1 : Nat → va_E) => q_is (q_z f1 v0 3) nn ∧ q_is (q_z f1 v0 4) ln ∧ q_is (q_z f1 v0 5) mn ∧ q_is (q_z f1 v0 11) tm ∧ (tw_vw K L 10 5 3 4 f1 v0 n0 l0 m0 d0 (tw_cp s0 s5)) ∧ (tw_nw K L 5 f1)))) ([.ref v0, .ref v5] : List Value).toArray s 0 0 (fun q => q ∈ L)) (F0 m 82 ls []) := by
    intro n
    induction n with
    | zero =>
      intro f82 v82_2 lv82_2 uv82_2 w82_v0_3 lw82_v0_3 uw82_v0_3 w82_v0_4 lw82_v0_4 uw82_v0_4 w82_v0_5 lw82_v0_5 uw82_v0_5 w82_v0_11 lw82_v0_11 uw82_v0_11 hj_v5_3 hj_v5_4 hj_v5_5 hj_v5_11 hj_v0_3 hj_v0_4 hj_v0_5 hj_v0_11 hq_v0_0 hq_v0_1 hq_v0_2 hq_v5_0 hq_v5_1 hq_v5_2 hw582 hz082 hz582 hrl82_0 hrl82_1 hrl82_2 hrl82_3 hrl82_4 hvw hmu
      exact absurd hmu (Nat.not_lt_zero _)
    | succ n ih82 =>
      intro f82 v82_2 lv82_2 uv82_2 w82_v0_3 lw82_v0_3 uw82_v0_3 w82_v0_4 lw82_v0_4 uw82_v0_4 w82_v0_5 lw82_v0_5 uw82_v0_5 w82_v0_11 lw82_v0_11 uw82_v0_11 hj_v5_3 hj_v5_4 hj_v5_5 hj_v5_11 hj_v0_3 hj_v0_4 hj_v0_5 hj_v0_11 hq_v0_0 hq_v0_1 hq_v0_2 hq_v5_0 hq_v5_1 hq_v5_2 hw582 hz082 hz582 hrl82_0 hrl82_1 hrl82_2 hrl82_3 hrl82_4 hvw hmu H locs hB ls hl
      refine q_ild_n cx dX10_copyFrom_82 rfl (lv_at hl 2 rfl) ?_
      refine q_ald_n cx dX10_copyFrom_83 rfl (lv_at hl 0 rfl) ?_
      obtain ⟨x1762, ex1762, nx1762⟩ : ∃ zz, q_is (q_z f82 v0 3) zz ∧ zz = w82_v0_3 := ⟨_, hj_v0_3, rfl⟩
      have sx1762 : q_is x1762 ((tw_cnl (tw_c0 s0 s5) s5 (Int.toNat v82_2)) 0 3) := tw_g hvw (tw_v0 hw0) (by omega) (by omega) ex1762
      refine q_gX10_35 cx hB hv0 kv0 ex1762 dX10_copyFrom_84 (fun lb1763 ub1763 => ?_)
      refine q_icge (tgt := 109) cx ⟨by omega, by omega⟩ ⟨by omega, by omega⟩ dX10_copyFrom_87 (by decide) (fun c1764 => ?_) (fun c1764 => ?_)
      · have hve3 : tw_vw K L 10 5 3 4 f82 v0 n0 l0 m0 d0 (tw_cnl (tw_c0 s0 s5) s5 (Int.toNat (s5 0 3))) := tw_cg hvw (by have e8 : nn = s5 0 3 := tw_g hw5 (tw_v0 hw5) (by omega) (by omega) hf0; have e9 : v82_2 = s5 0 3 := by omega; rw [e9])
        refine q_iconst cx dX10_copyFrom_109 ?_
        refine lv_istore_n (lv' := [(2, .int (q_i 0)), (0, .ref v0), (1, .ref v5)]) cx.1 cx.2.1 dX10_copyFrom_110 rfl hl (by decide) rfl (fun ls hl => ?_)
        exact J111 ((Int.toNat (2147483647 - 0)) + 1) f82 0 (by decide) (by decide) w82_v0_3 (by omega) (by omega) w82_v0_4 (by omega) (by omega) w82_v0_5 (by omega) (by omega) w82_v0_11 (by omega) (by omega) hj_v5_3 hj_v5_4 hj_v5_5 hj_v5_11 hj_v0_3 hj_v0_4 hj_v0_5 hj_v0_11 hq_v0_0 hq_v0_1 hq_v0_2 hq_v5_0 hq_v5_1 hq_v5_2 hw582 hz082 hz582 (by omega) (by omega) (by omega) (by omega) (by omega) (tw_cg hve3 (by have t0_ : x1762 = (tw_cnl (tw_c0 s0 s5) s5 (Int.toNat v82_2)) 0 3 := sx1762; (try simp only [t0_]); rfl)) (Nat.lt_succ_self _) H locs hB ls (lv_sub hl [1, 2, 0] rfl)
      · refine q_ald_n cx dX10_copyFrom_90 rfl (lv_at hl 0 rfl) ?_
        refine q_ild_n cx dX10_copyFrom_91 rfl (lv_at hl 2 rfl) ?_
        refine q_cVr (As := [.int (q_i v82_2)]) (rest := []) cx hB (fun _ h => h) hN hv0 kv0 (by decide) rfl (f_nodeAt0 l g hN hB.2.1 d0 (tw_cnl (tw_c0 s0 s5) s5 (Int.toNat v82_2)) v0 hv0 kv0 v82_2 (by omega) (by omega) n0 hn0 kn0 l0 hl0 kl0 m0 hm0 km0 hq_v0_0 hq_v0_1 hq_v0_2 hvw) q_cX10_66 q_dX10_nodeAt (by decide) rfl rfl hl.1 rfl (Nat.le_of_ble_eq_true rfl) dX10_copyFrom_92 (fun y1766 H locs f1765 h1767 hF hB => ?_)
        obtain ⟨rfl, hy1766, ky1766, t1768⟩ := h1767
        refine q_ald_n cx dX10_copyFrom_95 rfl (lv_at hl 1 rfl) ?_
        refine q_ild_n cx dX10_copyFrom_96 rfl (lv_at hl 2 rfl) ?_
        refine q_cVr (As := [.int (q_i v82_2)]) (rest := [.ref y1766]) cx hB (fun _ h => h) hN hv5 kv5 (by decide) rfl (f_nodeAt5 l g hN hB.2.1 d5 s5 v5 hv5 kv5 v82_2 (by omega) (by omega) n5 hn5 kn5 l5 hl5 kl5 m5 hm5 km5 hq_v5_0 hq_v5_1 hq_v5_2 hw582) q_cX10_66 q_dX10_nodeAt (by decide) rfl rfl hl.1 rfl (Nat.le_of_ble_eq_true rfl) dX10_copyFrom_97 (fun y1770 H locs f1769 h1771 hF hB => ?_)
        obtain ⟨rfl, hy1770, ky1770, t1772⟩ := h1771
        refine q_cVv (As := [.ref y1770]) (rest := []) cx hB (fun _ h => h) hN hy1766 ky1766 (by decide) rfl (f_ncopy05 l g hN hB.2.1 d0 (tw_cnl (tw_c0 s0 s5) s5 (Int.toNat v82_2)) d5 s5 y1766 hy1766 ky1766 y1770 hy1770 ky1770 v0 hv0 kv0 n0 hn0 kn0 l0 hl0 kl0 m0 hm0 km0 v5 hv5 kv5 n5 hn5 kn5 l5 hl5 kl5 m5 hm5 km5 v82_2 (by omega) (by omega) v82_2 (by omega) (by omega) t1768 t1772 hvw hw582 hz082 hz582) q_cX10_70 q_dX5_copyFrom (by decide) rfl rfl hl.1 rfl (Nat.le_of_ble_eq_true rfl) dX10_copyFrom_100 (fun H locs f1773 h1775 hF hB => ?_)
        obtain ⟨g1776, g1777⟩ := h1775
        have z1778 : q_is (q_z f1773 v5 3) nn := Eq.trans (hF.z hv5 (by rw [kv5]; rfl)) hj_v5_3
        have z1779 : q_is (q_z f1773 v5 4) ln := Eq.trans (hF.z hv5 (by rw [kv5]; rfl)) hj_v5_4
        have z1780 : q_is (q_z f1773 v5 5) mn := Eq.trans (hF.z hv5 (by rw [kv5]; rfl)) hj_v5_5
        have z1781 : q_is (q_z f1773 v5 11) tm := Eq.trans (hF.z hv5 (by rw [kv5]; rfl)) hj_v5_11
        have z1782 : q_is (q_z f1773 v0 3) w82_v0_3 := Eq.trans (hF.z hv0 (by rw [kv0]; rfl)) hj_v0_3
        have z1783 : q_is (q_z f1773 v0 4) w82_v0_4 := Eq.trans (hF.z hv0 (by rw [kv0]; rfl)) hj_v0_4
        have z1784 : q_is (q_z f1773 v0 5) w82_v0_5 := Eq.trans (hF.z hv0 (by rw [kv0]; rfl)) hj_v0_5
        have z1785 : q_is (q_z f1773 v0 11) w82_v0_11 := Eq.trans (hF.z hv0 (by rw [kv0]; rfl)) hj_v0_11
        have z1786 : q_ir (q_r f1773 v0 0) n0 := Eq.trans (hF.r hv0 (by rw [kv0]; rfl)) hq_v0_0
        have z1787 : q_ir (q_r f1773 v0 1) l0 := Eq.trans (hF.r hv0 (by rw [kv0]; rfl)) hq_v0_1
        have z1788 : q_ir (q_r f1773 v0 2) m0 := Eq.trans (hF.r hv0 (by rw [kv0]; rfl)) hq_v0_2
        have z1789 : q_ir (q_r f1773 v5 0) n5 := Eq.trans (hF.r hv5 (by rw [kv5]; rfl)) hq_v5_0
        have z1790 : q_ir (q_r f1773 v5 1) l5 := Eq.trans (hF.r hv5 (by rw [kv5]; rfl)) hq_v5_1
        have z1791 : q_ir (q_r f1773 v5 2) m5 := Eq.trans (hF.r hv5 (by rw [kv5]; rfl)) hq_v5_2
        have g1792 : tw_vw K L 51 57 63 69 f1773 v5 n5 l5 m5 d5 s5 := tw_vw_tr hw582 (fun a9 h9 k9 c9 => hF.z h9 (by rw [k9]; rfl)) (fun a9 h9 k9 c9 => hF.z h9 (by rw [k9]; rfl)) (fun a9 h9 k9 c9 => hF.z h9 (by rw [k9]; rfl)) (fun a9 h9 k9 c9 => hF.z h9 (by rw [k9]; rfl)) (fun i9 => hF.r hn5 (by rw [kn5]; rfl)) (fun i9 => hF.r hl5 (by rw [kl5]; rfl)) (fun i9 => hF.r hm5 (by rw [km5]; rfl))
        have g1793 : tw_nw K L 57 f1773 := tw_nw_tr hz582 (fun a9 h9 k9 => hF.j h9 (by rw [k9]; rfl))
        refine q_iinc (lv' := [(2, .int (q_i (v82_2 + 1))), (0, .ref v0), (1, .ref v5)]) cx dX10_copyFrom_103 hl (k := 2) rfl (by decide) rfl (fun ls hl => ?_)
        refine lv_goto (tgt := 82) cx.1 cx.2.1 dX10_copyFrom_106 (by decide) ?_
        exact ih82 f1773 (v82_2 + 1) (by omega) (by omega) w82_v0_3 (by omega) (by omega) w82_v0_4 (by omega) (by omega) w82_v0_5 (by omega) (by omega) w82_v0_11 (by omega) (by omega) z1778 z1779 z1780 z1781 z1782 z1783 z1784 z1785 z1786 z1787 z1788 z1789 z1790 z1791 g1792 g1777 g1793 (by omega) (by omega) (by omega) (by omega) (by omega) (tw_cg g1776 (by have t0_ : x1762 = (tw_cnl (tw_c0 s0 s5) s5 (Int.toNat v82_2)) 0 3 := sx1762; (try simp only [t0_]); rw [tw_cnl_s (by omega)]; (repeat' split) <;> first | rfl | (exfalso; omega))) (by omega) H locs hB ls (lv_sub hl [1, 2, 0] rfl)
  obtain ⟨H, hH⟩ : ∃ H : Heap, H = s.heap := ⟨_, rfl⟩
  obtain ⟨locs, hlocs⟩ : ∃ z : List Loc, z = [] := ⟨_, rfl⟩
  rw [← hH, ← hlocs] at hB
  rw [← hH, ← hlocs]
  refine q_ald_n cx dX10_copyFrom_0 rfl (lv_at hl 0 rfl) ?_
  refine q_ald_n cx dX10_copyFrom_1 rfl (lv_at hl 1 rfl) ?_
  obtain ⟨x1794, ex1794, nx1794⟩ : ∃ zz, q_is (q_z f v5 3) zz ∧ zz = nn := ⟨_, hf0, rfl⟩
  have sx1794 : q_is x1794 (s5 0 3) := tw_g hw5 (tw_v0 hw5) (by omega) (by omega) ex1794
  refine q_gX10_35_51 cx hB hv5 kv5 ex1794 dX10_copyFrom_2 (fun lb1795 ub1795 => ?_)
  refine q_pX10_35 cx hB hv0 kv0 ⟨by omega, by omega⟩ (by omega) (by omega) rfl dX10_copyFrom_5 (fun H locs f1796 ef1796 z1797 hB => ?_)
  have z1798 : q_is (q_z f1796 v5 3) nn := by rw [ef1796, q_setz (Or.inl (fun q => by rw [q, kv0] at kv5; exact absurd kv5 (by decide)))]; exact hf0
  have z1799 : q_is (q_z f1796 v5 4) ln := by rw [ef1796, q_setz (Or.inr (by decide))]; exact hf1
  have z1800 : q_is (q_z f1796 v5 5) mn := by rw [ef1796, q_setz (Or.inr (by decide))]; exact hf2
  have z1801 : q_is (q_z f1796 v5 11) tm := by rw [ef1796, q_setz (Or.inr (by decide))]; exact hf3
  have z1802 : q_ir (q_r f1796 v0 0) n0 := by rw [ef1796, q_setr (Or.inr (by decide))]; exact hr0
  have z1803 : q_ir (q_r f1796 v0 1) l0 := by rw [ef1796, q_setr (Or.inr (by decide))]; exact hr1
  have z1804 : q_ir (q_r f1796 v0 2) m0 := by rw [ef1796, q_setr (Or.inr (by decide))]; exact hr2
  have z1805 : q_ir (q_r f1796 v5 0) n5 := by rw [ef1796, q_setr (Or.inr (by decide))]; exact hr3
  have z1806 : q_ir (q_r f1796 v5 1) l5 := by rw [ef1796, q_setr (Or.inr (by decide))]; exact hr4
  have z1807 : q_ir (q_r f1796 v5 2) m5 := by rw [ef1796, q_setr (Or.inr (by decide))]; exact hr5
  have g1808 : tw_vw K L 10 5 3 4 f1796 v0 n0 l0 m0 d0 (tw_u s0 0 3 x1794) := tw_vw_s hw0 (tw_v0 hw0) (by omega) (by omega) ef1796 z1797 (fun i9 => by rw [ef1796, q_setr (Or.inl (fun q => by rw [q, kv0] at kn0; exact absurd kn0 (by decide)))]) (fun i9 => by rw [ef1796, q_setr (Or.inl (fun q => by rw [q, kv0] at kl0; exact absurd kl0 (by decide)))]) (fun i9 => by rw [ef1796, q_setr (Or.inl (fun q => by rw [q, kv0] at km0; exact absurd km0 (by decide)))])
  have g1809 : tw_vw K L 51 57 63 69 f1796 v5 n5 l5 m5 d5 s5 := tw_vw_tr hw5 (fun a9 h9 k9 c9 => by rw [ef1796, q_setz (Or.inl (fun q => by rw [q, kv0] at k9; exact absurd k9 (by decide)))]) (fun a9 h9 k9 c9 => by rw [ef1796, q_setz (Or.inl (fun q => by rw [q, kv0] at k9; exact absurd k9 (by decide)))]) (fun a9 h9 k9 c9 => by rw [ef1796, q_setz (Or.inl (fun q => by rw [q, kv0] at k9; exact absurd k9 (by decide)))]) (fun a9 h9 k9 c9 => by rw [ef1796, q_setz (Or.inl (fun q => by rw [q, kv0] at k9; exact absurd k9 (by decide)))]) (fun i9 => by rw [ef1796, q_setr (Or.inl (fun q => by rw [q, kv0] at kn5; exact absurd kn5 (by decide)))]) (fun i9 => by rw [ef1796, q_setr (Or.inl (fun q => by rw [q, kv0] at kl5; exact absurd kl5 (by decide)))]) (fun i9 => by rw [ef1796, q_setr (Or.inl (fun q => by rw [q, kv0] at km5; exact absurd km5 (by decide)))])
  have g1810 : tw_nw K L 5 f1796 := tw_nw_tr hz0 (fun a9 h9 k9 => by rw [ef1796, q_setj (Or.inl (fun q => by rw [q, kv0] at k9; exact absurd k9 (by decide)))])
  have g1811 : tw_nw K L 57 f1796 := tw_nw_tr hz5 (fun a9 h9 k9 => by rw [ef1796, q_setj (Or.inl (fun q => by rw [q, kv0] at k9; exact absurd k9 (by decide)))])
  refine q_ald_n cx dX10_copyFrom_8 rfl (lv_at hl 0 rfl) ?_
  refine q_ald_n cx dX10_copyFrom_9 rfl (lv_at hl 1 rfl) ?_
  obtain ⟨x1812, ex1812, nx1812⟩ : ∃ zz, q_is (q_z f1796 v5 4) zz ∧ zz = ln := ⟨_, z1799, rfl⟩
  have sx1812 : q_is x1812 (s5 0 4) := tw_g g1809 (tw_v0 hw5) (by omega) (by omega) ex1812
  refine q_gX10_39_51 cx hB hv5 kv5 ex1812 dX10_copyFrom_10 (fun lb1813 ub1813 => ?_)
  refine q_pX10_39 cx hB hv0 kv0 ⟨by omega, by omega⟩ (by omega) (by omega) rfl dX10_copyFrom_13 (fun H locs f1814 ef1814 z1815 hB => ?_)
  have z1816 : q_is (q_z f1814 v5 3) nn := by rw [ef1814, q_setz (Or.inr (by decide))]; exact z1798
  have z1817 : q_is (q_z f1814 v5 4) ln := by rw [ef1814, q_setz (Or.inl (fun q => by rw [q, kv0] at kv5; exact absurd kv5 (by decide)))]; exact z1799
  have z1818 : q_is (q_z f1814 v5 5) mn := by rw [ef1814, q_setz (Or.inr (by decide))]; exact z1800
  have z1819 : q_is (q_z f1814 v5 11) tm := by rw [ef1814, q_setz (Or.inr (by decide))]; exact z1801
  have z1820 : q_is (q_z f1814 v0 3) x1794 := by rw [ef1814, q_setz (Or.inr (by decide))]; exact z1797
  have z1821 : q_ir (q_r f1814 v0 0) n0 := by rw [ef1814, q_setr (Or.inr (by decide))]; exact z1802
  have z1822 : q_ir (q_r f1814 v0 1) l0 := by rw [ef1814, q_setr (Or.inr (by decide))]; exact z1803
  have z1823 : q_ir (q_r f1814 v0 2) m0 := by rw [ef1814, q_setr (Or.inr (by decide))]; exact z1804
  have z1824 : q_ir (q_r f1814 v5 0) n5 := by rw [ef1814, q_setr (Or.inr (by decide))]; exact z1805
  have z1825 : q_ir (q_r f1814 v5 1) l5 := by rw [ef1814, q_setr (Or.inr (by decide))]; exact z1806
  have z1826 : q_ir (q_r f1814 v5 2) m5 := by rw [ef1814, q_setr (Or.inr (by decide))]; exact z1807
  have g1827 : tw_vw K L 10 5 3 4 f1814 v0 n0 l0 m0 d0 (tw_u (tw_u s0 0 3 x1794) 0 4 x1812) := tw_vw_s g1808 (tw_v0 hw0) (by omega) (by omega) ef1814 z1815 (fun i9 => by rw [ef1814, q_setr (Or.inl (fun q => by rw [q, kv0] at kn0; exact absurd kn0 (by decide)))]) (fun i9 => by rw [ef1814, q_setr (Or.inl (fun q => by rw [q, kv0] at kl0; exact absurd kl0 (by decide)))]) (fun i9 => by rw [ef1814, q_setr (Or.inl (fun q => by rw [q, kv0] at km0; exact absurd km0 (by decide)))])
  have g1828 : tw_vw K L 51 57 63 69 f1814 v5 n5 l5 m5 d5 s5 := tw_vw_tr g1809 (fun a9 h9 k9 c9 => by rw [ef1814, q_setz (Or.inl (fun q => by rw [q, kv0] at k9; exact absurd k9 (by decide)))]) (fun a9 h9 k9 c9 => by rw [ef1814, q_setz (Or.inl (fun q => by rw [q, kv0] at k9; exact absurd k9 (by decide)))]) (fun a9 h9 k9 c9 => by rw [ef1814, q_setz (Or.inl (fun q => by rw [q, kv0] at k9; exact absurd k9 (by decide)))]) (fun a9 h9 k9 c9 => by rw [ef1814, q_setz (Or.inl (fun q => by rw [q, kv0] at k9; exact absurd k9 (by decide)))]) (fun i9 => by rw [ef1814, q_setr (Or.inl (fun q => by rw [q, kv0] at kn5; exact absurd kn5 (by decide)))]) (fun i9 => by rw [ef1814, q_setr (Or.inl (fun q => by rw [q, kv0] at kl5; exact absurd kl5 (by decide)))]) (fun i9 => by rw [ef1814, q_setr (Or.inl (fun q => by rw [q, kv0] at km5; exact absurd km5 (by decide)))])
  have g1829 : tw_nw K L 5 f1814 := tw_nw_tr g1810 (fun a9 h9 k9 => by rw [ef1814, q_setj (Or.inl (fun q => by rw [q, kv0] at k9; exact absurd k9 (by decide)))])
  have g1830 : tw_nw K L 57 f1814 := tw_nw_tr g1811 (fun a9 h9 k9 => by rw [ef1814, q_setj (Or.inl (fun q => by rw [q, kv0] at k9; exact absurd k9 (by decide)))])
  refine q_ald_n cx dX10_copyFrom_16 rfl (lv_at hl 0 rfl) ?_
  refine q_ald_n cx dX10_copyFrom_17 rfl (lv_at hl 1 rfl) ?_
  obtain ⟨x1831, ex1831, nx1831⟩ : ∃ zz, q_is (q_z f1814 v5 5) zz ∧ zz = mn := ⟨_, z1818, rfl⟩
  have sx1831 : q_is x1831 (s5 0 5) := tw_g g1828 (tw_v0 hw5) (by omega) (by omega) ex1831
  refine q_gX10_42_51 cx hB hv5 kv5 ex1831 dX10_copyFrom_18 (fun lb1832 ub1832 => ?_)
  refine q_pX10_42 cx hB hv0 kv0 ⟨by omega, by omega⟩ (by omega) (by omega) rfl dX10_copyFrom_21 (fun H locs f1833 ef1833 z1834 hB => ?_)
  have z1835 : q_is (q_z f1833 v5 3) nn := by rw [ef1833, q_setz (Or.inr (by decide))]; exact z1816
  have z1836 : q_is (q_z f1833 v5 4) ln := by rw [ef1833, q_setz (Or.inr (by decide))]; exact z1817
  have z1837 : q_is (q_z f1833 v5 5) mn := by rw [ef1833, q_setz (Or.inl (fun q => by rw [q, kv0] at kv5; exact absurd kv5 (by decide)))]; exact z1818
  have z1838 : q_is (q_z f1833 v5 11) tm := by rw [ef1833, q_setz (Or.inr (by decide))]; exact z1819
  have z1839 : q_is (q_z f1833 v0 3) x1794 := by rw [ef1833, q_setz (Or.inr (by decide))]; exact z1820
  have z1840 : q_is (q_z f1833 v0 4) x1812 := by rw [ef1833, q_setz (Or.inr (by decide))]; exact z1815
  have z1841 : q_ir (q_r f1833 v0 0) n0 := by rw [ef1833, q_setr (Or.inr (by decide))]; exact z1821
  have z1842 : q_ir (q_r f1833 v0 1) l0 := by rw [ef1833, q_setr (Or.inr (by decide))]; exact z1822
  have z1843 : q_ir (q_r f1833 v0 2) m0 := by rw [ef1833, q_setr (Or.inr (by decide))]; exact z1823
  have z1844 : q_ir (q_r f1833 v5 0) n5 := by rw [ef1833, q_setr (Or.inr (by decide))]; exact z1824
  have z1845 : q_ir (q_r f1833 v5 1) l5 := by rw [ef1833, q_setr (Or.inr (by decide))]; exact z1825
  have z1846 : q_ir (q_r f1833 v5 2) m5 := by rw [ef1833, q_setr (Or.inr (by decide))]; exact z1826
  have g1847 : tw_vw K L 10 5 3 4 f1833 v0 n0 l0 m0 d0 (tw_u (tw_u (tw_u s0 0 3 x1794) 0 4 x1812) 0 5 x1831) := tw_vw_s g1827 (tw_v0 hw0) (by omega) (by omega) ef1833 z1834 (fun i9 => by rw [ef1833, q_setr (Or.inl (fun q => by rw [q, kv0] at kn0; exact absurd kn0 (by decide)))]) (fun i9 => by rw [ef1833, q_setr (Or.inl (fun q => by rw [q, kv0] at kl0; exact absurd kl0 (by decide)))]) (fun i9 => by rw [ef1833, q_setr (Or.inl (fun q => by rw [q, kv0] at km0; exact absurd km0 (by decide)))])
  have g1848 : tw_vw K L 51 57 63 69 f1833 v5 n5 l5 m5 d5 s5 := tw_vw_tr g1828 (fun a9 h9 k9 c9 => by rw [ef1833, q_setz (Or.inl (fun q => by rw [q, kv0] at k9; exact absurd k9 (by decide)))]) (fun a9 h9 k9 c9 => by rw [ef1833, q_setz (Or.inl (fun q => by rw [q, kv0] at k9; exact absurd k9 (by decide)))]) (fun a9 h9 k9 c9 => by rw [ef1833, q_setz (Or.inl (fun q => by rw [q, kv0] at k9; exact absurd k9 (by decide)))]) (fun a9 h9 k9 c9 => by rw [ef1833, q_setz (Or.inl (fun q => by rw [q, kv0] at k9; exact absurd k9 (by decide)))]) (fun i9 => by rw [ef1833, q_setr (Or.inl (fun q => by rw [q, kv0] at kn5; exact absurd kn5 (by decide)))]) (fun i9 => by rw [ef1833, q_setr (Or.inl (fun q => by rw [q, kv0] at kl5; exact absurd kl5 (by decide)))]) (fun i9 => by rw [ef1833, q_setr (Or.inl (fun q => by rw [q, kv0] at km5; exact absurd km5 (by decide)))])
  have g1849 : tw_nw K L 5 f1833 := tw_nw_tr g1829 (fun a9 h9 k9 => by rw [ef1833, q_setj (Or.inl (fun q => by rw [q, kv0] at k9; exact absurd k9 (by decide)))])
  have g1850 : tw_nw K L 57 f1833 := tw_nw_tr g1830 (fun a9 h9 k9 => by rw [ef1833, q_setj (Or.inl (fun q => by rw [q, kv0] at k9; exact absurd k9 (by decide)))])
  refine q_ald_n cx dX10_copyFrom_24 rfl (lv_at hl 0 rfl) ?_
  refine q_ald_n cx dX10_copyFrom_25 rfl (lv_at hl 1 rfl) ?_
  obtain ⟨x1851, ex1851⟩ : ∃ zz, q_is (q_z f1833 v5 6) zz := ⟨_, q_isr _⟩
  obtain ⟨lx1851, ux1851⟩ := q_isb ex1851 (q_fib hB.2.1 hv5 kv5 (by decide) rfl)
  obtain ⟨x1852, ex1852, nx1852⟩ : ∃ zz, q_is (q_z f1833 v5 6) zz ∧ zz = x1851 := ⟨_, ex1851, rfl⟩
  have sx1852 : q_is x1852 (s5 0 6) := tw_g g1848 (tw_v0 hw5) (by omega) (by omega) ex1852
  refine q_gX10_45_51 cx hB hv5 kv5 ex1852 dX10_copyFrom_26 (fun lb1853 ub1853 => ?_)
  refine q_pX10_45 cx hB hv0 kv0 ⟨by omega, by omega⟩ (by omega) (by omega) rfl dX10_copyFrom_29 (fun H locs f1854 ef1854 z1855 hB => ?_)
  have z1856 : q_is (q_z f1854 v5 3) nn := by rw [ef1854, q_setz (Or.inr (by decide))]; exact z1835
  have z1857 : q_is (q_z f1854 v5 4) ln := by rw [ef1854, q_setz (Or.inr (by decide))]; exact z1836
  have z1858 : q_is (q_z f1854 v5 5) mn := by rw [ef1854, q_setz (Or.inr (by decide))]; exact z1837
  have z1859 : q_is (q_z f1854 v5 11) tm := by rw [ef1854, q_setz (Or.inr (by decide))]; exact z1838
  have z1860 : q_is (q_z f1854 v0 3) x1794 := by rw [ef1854, q_setz (Or.inr (by decide))]; exact z1839
  have z1861 : q_is (q_z f1854 v0 4) x1812 := by rw [ef1854, q_setz (Or.inr (by decide))]; exact z1840
  have z1862 : q_is (q_z f1854 v0 5) x1831 := by rw [ef1854, q_setz (Or.inr (by decide))]; exact z1834
  have z1863 : q_is (q_z f1854 v5 6) x1851 := by rw [ef1854, q_setz (Or.inl (fun q => by rw [q, kv0] at kv5; exact absurd kv5 (by decide)))]; exact ex1851
  have z1864 : q_ir (q_r f1854 v0 0) n0 := by rw [ef1854, q_setr (Or.inr (by decide))]; exact z1841
  have z1865 : q_ir (q_r f1854 v0 1) l0 := by rw [ef1854, q_setr (Or.inr (by decide))]; exact z1842
  have z1866 : q_ir (q_r f1854 v0 2) m0 := by rw [ef1854, q_setr (Or.inr (by decide))]; exact z1843
  have z1867 : q_ir (q_r f1854 v5 0) n5 := by rw [ef1854, q_setr (Or.inr (by decide))]; exact z1844
  have z1868 : q_ir (q_r f1854 v5 1) l5 := by rw [ef1854, q_setr (Or.inr (by decide))]; exact z1845
  have z1869 : q_ir (q_r f1854 v5 2) m5 := by rw [ef1854, q_setr (Or.inr (by decide))]; exact z1846
  have g1870 : tw_vw K L 10 5 3 4 f1854 v0 n0 l0 m0 d0 (tw_u (tw_u (tw_u (tw_u s0 0 3 x1794) 0 4 x1812) 0 5 x1831) 0 6 x1852) := tw_vw_s g1847 (tw_v0 hw0) (by omega) (by omega) ef1854 z1855 (fun i9 => by rw [ef1854, q_setr (Or.inl (fun q => by rw [q, kv0] at kn0; exact absurd kn0 (by decide)))]) (fun i9 => by rw [ef1854, q_setr (Or.inl (fun q => by rw [q, kv0] at kl0; exact absurd kl0 (by decide)))]) (fun i9 => by rw [ef1854, q_setr (Or.inl (fun q => by rw [q, kv0] at km0; exact absurd km0 (by decide)))])
  have g1871 : tw_vw K L 51 57 63 69 f1854 v5 n5 l5 m5 d5 s5 := tw_vw_tr g1848 (fun a9 h9 k9 c9 => by rw [ef1854, q_setz (Or.inl (fun q => by rw [q, kv0] at k9; exact absurd k9 (by decide)))]) (fun a9 h9 k9 c9 => by rw [ef1854, q_setz (Or.inl (fun q => by rw [q, kv0] at k9; exact absurd k9 (by decide)))]) (fun a9 h9 k9 c9 => by rw [ef1854, q_setz (Or.inl (fun q => by rw [q, kv0] at k9; exact absurd k9 (by decide)))]) (fun a9 h9 k9 c9 => by rw [ef1854, q_setz (Or.inl (fun q => by rw [q, kv0] at k9; exact absurd k9 (by decide)))]) (fun i9 => by rw [ef1854, q_setr (Or.inl (fun q => by rw [q, kv0] at kn5; exact absurd kn5 (by decide)))]) (fun i9 => by rw [ef1854, q_setr (Or.inl (fun q => by rw [q, kv0] at kl5; exact absurd kl5 (by decide)))]) (fun i9 => by rw [ef1854, q_setr (Or.inl (fun q => by rw [q, kv0] at km5; exact absurd km5 (by decide)))])
  have g1872 : tw_nw K L 5 f1854 := tw_nw_tr g1849 (fun a9 h9 k9 => by rw [ef1854, q_setj (Or.inl (fun q => by rw [q, kv0] at k9; exact absurd k9 (by decide)))])
  have g1873 : tw_nw K L 57 f1854 := tw_nw_tr g1850 (fun a9 h9 k9 => by rw [ef1854, q_setj (Or.inl (fun q => by rw [q, kv0] at k9; exact absurd k9 (by decide)))])
  refine q_ald_n cx dX10_copyFrom_32 rfl (lv_at hl 0 rfl) ?_
  refine q_ald_n cx dX10_copyFrom_33 rfl (lv_at hl 1 rfl) ?_
  obtain ⟨x1874, ex1874⟩ : ∃ zz, q_is (q_z f1854 v5 7) zz := ⟨_, q_isr _⟩
  obtain ⟨lx1874, ux1874⟩ := q_isb ex1874 (q_fib hB.2.1 hv5 kv5 (by decide) rfl)
  obtain ⟨x1875, ex1875, nx1875⟩ : ∃ zz, q_is (q_z f1854 v5 7) zz ∧ zz = x1874 := ⟨_, ex1874, rfl⟩
  have sx1875 : q_is x1875 (s5 0 7) := tw_g g1871 (tw_v0 hw5) (by omega) (by omega) ex1875
  refine q_gX10_48_51 cx hB hv5 kv5 ex1875 dX10_copyFrom_34 (fun lb1876 ub1876 => ?_)
  refine q_pX10_48 cx hB hv0 kv0 ⟨by omega, by omega⟩ (by omega) (by omega) rfl dX10_copyFrom_37 (fun H locs f1877 ef1877 z1878 hB => ?_)
  have z1879 : q_is (q_z f1877 v5 3) nn := by rw [ef1877, q_setz (Or.inr (by decide))]; exact z1856
  have z1880 : q_is (q_z f1877 v5 4) ln := by rw [ef1877, q_setz (Or.inr (by decide))]; exact z1857
  have z1881 : q_is (q_z f1877 v5 5) mn := by rw [ef1877, q_setz (Or.inr (by decide))]; exact z1858
  have z1882 : q_is (q_z f1877 v5 11) tm := by rw [ef1877, q_setz (Or.inr (by decide))]; exact z1859
  have z1883 : q_is (q_z f1877 v0 3) x1794 := by rw [ef1877, q_setz (Or.inr (by decide))]; exact z1860
  have z1884 : q_is (q_z f1877 v0 4) x1812 := by rw [ef1877, q_setz (Or.inr (by decide))]; exact z1861
  have z1885 : q_is (q_z f1877 v0 5) x1831 := by rw [ef1877, q_setz (Or.inr (by decide))]; exact z1862
  have z1886 : q_is (q_z f1877 v5 6) x1851 := by rw [ef1877, q_setz (Or.inr (by decide))]; exact z1863
  have z1887 : q_is (q_z f1877 v0 6) x1852 := by rw [ef1877, q_setz (Or.inr (by decide))]; exact z1855
  have z1888 : q_is (q_z f1877 v5 7) x1874 := by rw [ef1877, q_setz (Or.inl (fun q => by rw [q, kv0] at kv5; exact absurd kv5 (by decide)))]; exact ex1874
  have z1889 : q_ir (q_r f1877 v0 0) n0 := by rw [ef1877, q_setr (Or.inr (by decide))]; exact z1864
  have z1890 : q_ir (q_r f1877 v0 1) l0 := by rw [ef1877, q_setr (Or.inr (by decide))]; exact z1865
  have z1891 : q_ir (q_r f1877 v0 2) m0 := by rw [ef1877, q_setr (Or.inr (by decide))]; exact z1866
  have z1892 : q_ir (q_r f1877 v5 0) n5 := by rw [ef1877, q_setr (Or.inr (by decide))]; exact z1867
  have z1893 : q_ir (q_r f1877 v5 1) l5 := by rw [ef1877, q_setr (Or.inr (by decide))]; exact z1868
  have z1894 : q_ir (q_r f1877 v5 2) m5 := by rw [ef1877, q_setr (Or.inr (by decide))]; exact z1869
  have g1895 : tw_vw K L 10 5 3 4 f1877 v0 n0 l0 m0 d0 (tw_u (tw_u (tw_u (tw_u (tw_u s0 0 3 x1794) 0 4 x1812) 0 5 x1831) 0 6 x1852) 0 7 x1875) := tw_vw_s g1870 (tw_v0 hw0) (by omega) (by omega) ef1877 z1878 (fun i9 => by rw [ef1877, q_setr (Or.inl (fun q => by rw [q, kv0] at kn0; exact absurd kn0 (by decide)))]) (fun i9 => by rw [ef1877, q_setr (Or.inl (fun q => by rw [q, kv0] at kl0; exact absurd kl0 (by decide)))]) (fun i9 => by rw [ef1877, q_setr (Or.inl (fun q => by rw [q, kv0] at km0; exact absurd km0 (by decide)))])
  have g1896 : tw_vw K L 51 57 63 69 f1877 v5 n5 l5 m5 d5 s5 := tw_vw_tr g1871 (fun a9 h9 k9 c9 => by rw [ef1877, q_setz (Or.inl (fun q => by rw [q, kv0] at k9; exact absurd k9 (by decide)))]) (fun a9 h9 k9 c9 => by rw [ef1877, q_setz (Or.inl (fun q => by rw [q, kv0] at k9; exact absurd k9 (by decide)))]) (fun a9 h9 k9 c9 => by rw [ef1877, q_setz (Or.inl (fun q => by rw [q, kv0] at k9; exact absurd k9 (by decide)))]) (fun a9 h9 k9 c9 => by rw [ef1877, q_setz (Or.inl (fun q => by rw [q, kv0] at k9; exact absurd k9 (by decide)))]) (fun i9 => by rw [ef1877, q_setr (Or.inl (fun q => by rw [q, kv0] at kn5; exact absurd kn5 (by decide)))]) (fun i9 => by rw [ef1877, q_setr (Or.inl (fun q => by rw [q, kv0] at kl5; exact absurd kl5 (by decide)))]) (fun i9 => by rw [ef1877, q_setr (Or.inl (fun q => by rw [q, kv0] at km5; exact absurd km5 (by decide)))])
  have g1897 : tw_nw K L 5 f1877 := tw_nw_tr g1872 (fun a9 h9 k9 => by rw [ef1877, q_setj (Or.inl (fun q => by rw [q, kv0] at k9; exact absurd k9 (by decide)))])
  have g1898 : tw_nw K L 57 f1877 := tw_nw_tr g1873 (fun a9 h9 k9 => by rw [ef1877, q_setj (Or.inl (fun q => by rw [q, kv0] at k9; exact absurd k9 (by decide)))])
  refine q_ald_n cx dX10_copyFrom_40 rfl (lv_at hl 0 rfl) ?_
  refine q_ald_n cx dX10_copyFrom_41 rfl (lv_at hl 1 rfl) ?_
  obtain ⟨x1899, ex1899⟩ : ∃ zz, q_is (q_z f1877 v5 8) zz := ⟨_, q_isr _⟩
  obtain ⟨lx1899, ux1899⟩ := q_isb ex1899 (q_fib hB.2.1 hv5 kv5 (by decide) rfl)
  obtain ⟨x1900, ex1900, nx1900⟩ : ∃ zz, q_is (q_z f1877 v5 8) zz ∧ zz = x1899 := ⟨_, ex1899, rfl⟩
  have sx1900 : q_is x1900 (s5 0 8) := tw_g g1896 (tw_v0 hw5) (by omega) (by omega) ex1900
  refine q_gX10_51_51 cx hB hv5 kv5 ex1900 dX10_copyFrom_42 (fun lb1901 ub1901 => ?_)
  refine q_pX10_51 cx hB hv0 kv0 ⟨by omega, by omega⟩ (by omega) (by omega) rfl dX10_copyFrom_45 (fun H locs f1902 ef1902 z1903 hB => ?_)
  have z1904 : q_is (q_z f1902 v5 3) nn := by rw [ef1902, q_setz (Or.inr (by decide))]; exact z1879
  have z1905 : q_is (q_z f1902 v5 4) ln := by rw [ef1902, q_setz (Or.inr (by decide))]; exact z1880
  have z1906 : q_is (q_z f1902 v5 5) mn := by rw [ef1902, q_setz (Or.inr (by decide))]; exact z1881
  have z1907 : q_is (q_z f1902 v5 11) tm := by rw [ef1902, q_setz (Or.inr (by decide))]; exact z1882
  have z1908 : q_is (q_z f1902 v0 3) x1794 := by rw [ef1902, q_setz (Or.inr (by decide))]; exact z1883
  have z1909 : q_is (q_z f1902 v0 4) x1812 := by rw [ef1902, q_setz (Or.inr (by decide))]; exact z1884
  have z1910 : q_is (q_z f1902 v0 5) x1831 := by rw [ef1902, q_setz (Or.inr (by decide))]; exact z1885
  have z1911 : q_is (q_z f1902 v5 6) x1851 := by rw [ef1902, q_setz (Or.inr (by decide))]; exact z1886
  have z1912 : q_is (q_z f1902 v0 6) x1852 := by rw [ef1902, q_setz (Or.inr (by decide))]; exact z1887
  have z1913 : q_is (q_z f1902 v5 7) x1874 := by rw [ef1902, q_setz (Or.inr (by decide))]; exact z1888
  have z1914 : q_is (q_z f1902 v0 7) x1875 := by rw [ef1902, q_setz (Or.inr (by decide))]; exact z1878
  have z1915 : q_is (q_z f1902 v5 8) x1899 := by rw [ef1902, q_setz (Or.inl (fun q => by rw [q, kv0] at kv5; exact absurd kv5 (by decide)))]; exact ex1899
  have z1916 : q_ir (q_r f1902 v0 0) n0 := by rw [ef1902, q_setr (Or.inr (by decide))]; exact z1889
  have z1917 : q_ir (q_r f1902 v0 1) l0 := by rw [ef1902, q_setr (Or.inr (by decide))]; exact z1890
  have z1918 : q_ir (q_r f1902 v0 2) m0 := by rw [ef1902, q_setr (Or.inr (by decide))]; exact z1891
  have z1919 : q_ir (q_r f1902 v5 0) n5 := by rw [ef1902, q_setr (Or.inr (by decide))]; exact z1892
  have z1920 : q_ir (q_r f1902 v5 1) l5 := by rw [ef1902, q_setr (Or.inr (by decide))]; exact z1893
  have z1921 : q_ir (q_r f1902 v5 2) m5 := by rw [ef1902, q_setr (Or.inr (by decide))]; exact z1894
  have g1922 : tw_vw K L 10 5 3 4 f1902 v0 n0 l0 m0 d0 (tw_u (tw_u (tw_u (tw_u (tw_u (tw_u s0 0 3 x1794) 0 4 x1812) 0 5 x1831) 0 6 x1852) 0 7 x1875) 0 8 x1900) := tw_vw_s g1895 (tw_v0 hw0) (by omega) (by omega) ef1902 z1903 (fun i9 => by rw [ef1902, q_setr (Or.inl (fun q => by rw [q, kv0] at kn0; exact absurd kn0 (by decide)))]) (fun i9 => by rw [ef1902, q_setr (Or.inl (fun q => by rw [q, kv0] at kl0; exact absurd kl0 (by decide)))]) (fun i9 => by rw [ef1902, q_setr (Or.inl (fun q => by rw [q, kv0] at km0; exact absurd km0 (by decide)))])
  have g1923 : tw_vw K L 51 57 63 69 f1902 v5 n5 l5 m5 d5 s5 := tw_vw_tr g1896 (fun a9 h9 k9 c9 => by rw [ef1902, q_setz (Or.inl (fun q => by rw [q, kv0] at k9; exact absurd k9 (by decide)))]) (fun a9 h9 k9 c9 => by rw [ef1902, q_setz (Or.inl (fun q => by rw [q, kv0] at k9; exact absurd k9 (by decide)))]) (fun a9 h9 k9 c9 => by rw [ef1902, q_setz (Or.inl (fun q => by rw [q, kv0] at k9; exact absurd k9 (by decide)))]) (fun a9 h9 k9 c9 => by rw [ef1902, q_setz (Or.inl (fun q => by rw [q, kv0] at k9; exact absurd k9 (by decide)))]) (fun i9 => by rw [ef1902, q_setr (Or.inl (fun q => by rw [q, kv0] at kn5; exact absurd kn5 (by decide)))]) (fun i9 => by rw [ef1902, q_setr (Or.inl (fun q => by rw [q, kv0] at kl5; exact absurd kl5 (by decide)))]) (fun i9 => by rw [ef1902, q_setr (Or.inl (fun q => by rw [q, kv0] at km5; exact absurd km5 (by decide)))])
  have g1924 : tw_nw K L 5 f1902 := tw_nw_tr g1897 (fun a9 h9 k9 => by rw [ef1902, q_setj (Or.inl (fun q => by rw [q, kv0] at k9; exact absurd k9 (by decide)))])
  have g1925 : tw_nw K L 57 f1902 := tw_nw_tr g1898 (fun a9 h9 k9 => by rw [ef1902, q_setj (Or.inl (fun q => by rw [q, kv0] at k9; exact absurd k9 (by decide)))])
  refine q_ald_n cx dX10_copyFrom_48 rfl (lv_at hl 0 rfl) ?_
  refine q_ald_n cx dX10_copyFrom_49 rfl (lv_at hl 1 rfl) ?_
  obtain ⟨x1926, ex1926⟩ : ∃ zz, q_is (q_z f1902 v5 9) zz := ⟨_, q_isr _⟩
  obtain ⟨lx1926, ux1926⟩ := q_isb ex1926 (q_fib hB.2.1 hv5 kv5 (by decide) rfl)
  obtain ⟨x1927, ex1927, nx1927⟩ : ∃ zz, q_is (q_z f1902 v5 9) zz ∧ zz = x1926 := ⟨_, ex1926, rfl⟩
  have sx1927 : q_is x1927 (s5 0 9) := tw_g g1923 (tw_v0 hw5) (by omega) (by omega) ex1927
  refine q_gX10_54_51 cx hB hv5 kv5 ex1927 dX10_copyFrom_50 (fun lb1928 ub1928 => ?_)
  refine q_pX10_54 cx hB hv0 kv0 ⟨by omega, by omega⟩ (by omega) (by omega) rfl dX10_copyFrom_53 (fun H locs f1929 ef1929 z1930 hB => ?_)
  have z1931 : q_is (q_z f1929 v5 3) nn := by rw [ef1929, q_setz (Or.inr (by decide))]; exact z1904
  have z1932 : q_is (q_z f1929 v5 4) ln := by rw [ef1929, q_setz (Or.inr (by decide))]; exact z1905
  have z1933 : q_is (q_z f1929 v5 5) mn := by rw [ef1929, q_setz (Or.inr (by decide))]; exact z1906
  have z1934 : q_is (q_z f1929 v5 11) tm := by rw [ef1929, q_setz (Or.inr (by decide))]; exact z1907
  have z1935 : q_is (q_z f1929 v0 3) x1794 := by rw [ef1929, q_setz (Or.inr (by decide))]; exact z1908
  have z1936 : q_is (q_z f1929 v0 4) x1812 := by rw [ef1929, q_setz (Or.inr (by decide))]; exact z1909
  have z1937 : q_is (q_z f1929 v0 5) x1831 := by rw [ef1929, q_setz (Or.inr (by decide))]; exact z1910
  have z1938 : q_is (q_z f1929 v5 6) x1851 := by rw [ef1929, q_setz (Or.inr (by decide))]; exact z1911
  have z1939 : q_is (q_z f1929 v0 6) x1852 := by rw [ef1929, q_setz (Or.inr (by decide))]; exact z1912
  have z1940 : q_is (q_z f1929 v5 7) x1874 := by rw [ef1929, q_setz (Or.inr (by decide))]; exact z1913
  have z1941 : q_is (q_z f1929 v0 7) x1875 := by rw [ef1929, q_setz (Or.inr (by decide))]; exact z1914
  have z1942 : q_is (q_z f1929 v5 8) x1899 := by rw [ef1929, q_setz (Or.inr (by decide))]; exact z1915
  have z1943 : q_is (q_z f1929 v0 8) x1900 := by rw [ef1929, q_setz (Or.inr (by decide))]; exact z1903
  have z1944 : q_is (q_z f1929 v5 9) x1926 := by rw [ef1929, q_setz (Or.inl (fun q => by rw [q, kv0] at kv5; exact absurd kv5 (by decide)))]; exact ex1926
  have z1945 : q_ir (q_r f1929 v0 0) n0 := by rw [ef1929, q_setr (Or.inr (by decide))]; exact z1916
  have z1946 : q_ir (q_r f1929 v0 1) l0 := by rw [ef1929, q_setr (Or.inr (by decide))]; exact z1917
  have z1947 : q_ir (q_r f1929 v0 2) m0 := by rw [ef1929, q_setr (Or.inr (by decide))]; exact z1918
  have z1948 : q_ir (q_r f1929 v5 0) n5 := by rw [ef1929, q_setr (Or.inr (by decide))]; exact z1919
  have z1949 : q_ir (q_r f1929 v5 1) l5 := by rw [ef1929, q_setr (Or.inr (by decide))]; exact z1920
  have z1950 : q_ir (q_r f1929 v5 2) m5 := by rw [ef1929, q_setr (Or.inr (by decide))]; exact z1921
  have g1951 : tw_vw K L 10 5 3 4 f1929 v0 n0 l0 m0 d0 (tw_u (tw_u (tw_u (tw_u (tw_u (tw_u (tw_u s0 0 3 x1794) 0 4 x1812) 0 5 x1831) 0 6 x1852) 0 7 x1875) 0 8 x1900) 0 9 x1927) := tw_vw_s g1922 (tw_v0 hw0) (by omega) (by omega) ef1929 z1930 (fun i9 => by rw [ef1929, q_setr (Or.inl (fun q => by rw [q, kv0] at kn0; exact absurd kn0 (by decide)))]) (fun i9 => by rw [ef1929, q_setr (Or.inl (fun q => by rw [q, kv0] at kl0; exact absurd kl0 (by decide)))]) (fun i9 => by rw [ef1929, q_setr (Or.inl (fun q => by rw [q, kv0] at km0; exact absurd km0 (by decide)))])
  have g1952 : tw_vw K L 51 57 63 69 f1929 v5 n5 l5 m5 d5 s5 := tw_vw_tr g1923 (fun a9 h9 k9 c9 => by rw [ef1929, q_setz (Or.inl (fun q => by rw [q, kv0] at k9; exact absurd k9 (by decide)))]) (fun a9 h9 k9 c9 => by rw [ef1929, q_setz (Or.inl (fun q => by rw [q, kv0] at k9; exact absurd k9 (by decide)))]) (fun a9 h9 k9 c9 => by rw [ef1929, q_setz (Or.inl (fun q => by rw [q, kv0] at k9; exact absurd k9 (by decide)))]) (fun a9 h9 k9 c9 => by rw [ef1929, q_setz (Or.inl (fun q => by rw [q, kv0] at k9; exact absurd k9 (by decide)))]) (fun i9 => by rw [ef1929, q_setr (Or.inl (fun q => by rw [q, kv0] at kn5; exact absurd kn5 (by decide)))]) (fun i9 => by rw [ef1929, q_setr (Or.inl (fun q => by rw [q, kv0] at kl5; exact absurd kl5 (by decide)))]) (fun i9 => by rw [ef1929, q_setr (Or.inl (fun q => by rw [q, kv0] at km5; exact absurd km5 (by decide)))])
  have g1953 : tw_nw K L 5 f1929 := tw_nw_tr g1924 (fun a9 h9 k9 => by rw [ef1929, q_setj (Or.inl (fun q => by rw [q, kv0] at k9; exact absurd k9 (by decide)))])
  have g1954 : tw_nw K L 57 f1929 := tw_nw_tr g1925 (fun a9 h9 k9 => by rw [ef1929, q_setj (Or.inl (fun q => by rw [q, kv0] at k9; exact absurd k9 (by decide)))])
  refine q_ald_n cx dX10_copyFrom_56 rfl (lv_at hl 0 rfl) ?_
  refine q_ald_n cx dX10_copyFrom_57 rfl (lv_at hl 1 rfl) ?_
  obtain ⟨x1955, ex1955⟩ : ∃ zz, q_is (q_z f1929 v5 10) zz := ⟨_, q_isr _⟩
  obtain ⟨lx1955, ux1955⟩ := q_isb ex1955 (q_fib hB.2.1 hv5 kv5 (by decide) rfl)
  obtain ⟨x1956, ex1956, nx1956⟩ : ∃ zz, q_is (q_z f1929 v5 10) zz ∧ zz = x1955 := ⟨_, ex1955, rfl⟩
  have sx1956 : q_is x1956 (s5 0 10) := tw_g g1952 (tw_v0 hw5) (by omega) (by omega) ex1956
  refine q_gX10_57_51 cx hB hv5 kv5 ex1956 dX10_copyFrom_58 (fun lb1957 ub1957 => ?_)
  refine q_pX10_57 cx hB hv0 kv0 ⟨by omega, by omega⟩ (by omega) (by omega) rfl dX10_copyFrom_61 (fun H locs f1958 ef1958 z1959 hB => ?_)
  have z1960 : q_is (q_z f1958 v5 3) nn := by rw [ef1958, q_setz (Or.inr (by decide))]; exact z1931
  have z1961 : q_is (q_z f1958 v5 4) ln := by rw [ef1958, q_setz (Or.inr (by decide))]; exact z1932
  have z1962 : q_is (q_z f1958 v5 5) mn := by rw [ef1958, q_setz (Or.inr (by decide))]; exact z1933
  have z1963 : q_is (q_z f1958 v5 11) tm := by rw [ef1958, q_setz (Or.inr (by decide))]; exact z1934
  have z1964 : q_is (q_z f1958 v0 3) x1794 := by rw [ef1958, q_setz (Or.inr (by decide))]; exact z1935
  have z1965 : q_is (q_z f1958 v0 4) x1812 := by rw [ef1958, q_setz (Or.inr (by decide))]; exact z1936
  have z1966 : q_is (q_z f1958 v0 5) x1831 := by rw [ef1958, q_setz (Or.inr (by decide))]; exact z1937
  have z1967 : q_is (q_z f1958 v5 6) x1851 := by rw [ef1958, q_setz (Or.inr (by decide))]; exact z1938
  have z1968 : q_is (q_z f1958 v0 6) x1852 := by rw [ef1958, q_setz (Or.inr (by decide))]; exact z1939
  have z1969 : q_is (q_z f1958 v5 7) x1874 := by rw [ef1958, q_setz (Or.inr (by decide))]; exact z1940
  have z1970 : q_is (q_z f1958 v0 7) x1875 := by rw [ef1958, q_setz (Or.inr (by decide))]; exact z1941
  have z1971 : q_is (q_z f1958 v5 8) x1899 := by rw [ef1958, q_setz (Or.inr (by decide))]; exact z1942
  have z1972 : q_is (q_z f1958 v0 8) x1900 := by rw [ef1958, q_setz (Or.inr (by decide))]; exact z1943
  have z1973 : q_is (q_z f1958 v5 9) x1926 := by rw [ef1958, q_setz (Or.inr (by decide))]; exact z1944
  have z1974 : q_is (q_z f1958 v0 9) x1927 := by rw [ef1958, q_setz (Or.inr (by decide))]; exact z1930
  have z1975 : q_is (q_z f1958 v5 10) x1955 := by rw [ef1958, q_setz (Or.inl (fun q => by rw [q, kv0] at kv5; exact absurd kv5 (by decide)))]; exact ex1955
  have z1976 : q_ir (q_r f1958 v0 0) n0 := by rw [ef1958, q_setr (Or.inr (by decide))]; exact z1945
  have z1977 : q_ir (q_r f1958 v0 1) l0 := by rw [ef1958, q_setr (Or.inr (by decide))]; exact z1946
  have z1978 : q_ir (q_r f1958 v0 2) m0 := by rw [ef1958, q_setr (Or.inr (by decide))]; exact z1947
  have z1979 : q_ir (q_r f1958 v5 0) n5 := by rw [ef1958, q_setr (Or.inr (by decide))]; exact z1948
  have z1980 : q_ir (q_r f1958 v5 1) l5 := by rw [ef1958, q_setr (Or.inr (by decide))]; exact z1949
  have z1981 : q_ir (q_r f1958 v5 2) m5 := by rw [ef1958, q_setr (Or.inr (by decide))]; exact z1950
  have g1982 : tw_vw K L 10 5 3 4 f1958 v0 n0 l0 m0 d0 (tw_u (tw_u (tw_u (tw_u (tw_u (tw_u (tw_u (tw_u s0 0 3 x1794) 0 4 x1812) 0 5 x1831) 0 6 x1852) 0 7 x1875) 0 8 x1900) 0 9 x1927) 0 10 x1956) := tw_vw_s g1951 (tw_v0 hw0) (by omega) (by omega) ef1958 z1959 (fun i9 => by rw [ef1958, q_setr (Or.inl (fun q => by rw [q, kv0] at kn0; exact absurd kn0 (by decide)))]) (fun i9 => by rw [ef1958, q_setr (Or.inl (fun q => by rw [q, kv0] at kl0; exact absurd kl0 (by decide)))]) (fun i9 => by rw [ef1958, q_setr (Or.inl (fun q => by rw [q, kv0] at km0; exact absurd km0 (by decide)))])
  have g1983 : tw_vw K L 51 57 63 69 f1958 v5 n5 l5 m5 d5 s5 := tw_vw_tr g1952 (fun a9 h9 k9 c9 => by rw [ef1958, q_setz (Or.inl (fun q => by rw [q, kv0] at k9; exact absurd k9 (by decide)))]) (fun a9 h9 k9 c9 => by rw [ef1958, q_setz (Or.inl (fun q => by rw [q, kv0] at k9; exact absurd k9 (by decide)))]) (fun a9 h9 k9 c9 => by rw [ef1958, q_setz (Or.inl (fun q => by rw [q, kv0] at k9; exact absurd k9 (by decide)))]) (fun a9 h9 k9 c9 => by rw [ef1958, q_setz (Or.inl (fun q => by rw [q, kv0] at k9; exact absurd k9 (by decide)))]) (fun i9 => by rw [ef1958, q_setr (Or.inl (fun q => by rw [q, kv0] at kn5; exact absurd kn5 (by decide)))]) (fun i9 => by rw [ef1958, q_setr (Or.inl (fun q => by rw [q, kv0] at kl5; exact absurd kl5 (by decide)))]) (fun i9 => by rw [ef1958, q_setr (Or.inl (fun q => by rw [q, kv0] at km5; exact absurd km5 (by decide)))])
  have g1984 : tw_nw K L 5 f1958 := tw_nw_tr g1953 (fun a9 h9 k9 => by rw [ef1958, q_setj (Or.inl (fun q => by rw [q, kv0] at k9; exact absurd k9 (by decide)))])
  have g1985 : tw_nw K L 57 f1958 := tw_nw_tr g1954 (fun a9 h9 k9 => by rw [ef1958, q_setj (Or.inl (fun q => by rw [q, kv0] at k9; exact absurd k9 (by decide)))])
  refine q_ald_n cx dX10_copyFrom_64 rfl (lv_at hl 0 rfl) ?_
  refine q_ald_n cx dX10_copyFrom_65 rfl (lv_at hl 1 rfl) ?_
  obtain ⟨x1986, ex1986, nx1986⟩ : ∃ zz, q_is (q_z f1958 v5 11) zz ∧ zz = tm := ⟨_, z1963, rfl⟩
  have sx1986 : q_is x1986 (s5 0 11) := tw_g g1983 (tw_v0 hw5) (by omega) (by omega) ex1986
  refine q_gX10_60_51 cx hB hv5 kv5 ex1986 dX10_copyFrom_66 (fun lb1987 ub1987 => ?_)
  refine q_pX10_60 cx hB hv0 kv0 ⟨by omega, by omega⟩ (by omega) (by omega) rfl dX10_copyFrom_69 (fun H locs f1988 ef1988 z1989 hB => ?_)
  have z1990 : q_is (q_z f1988 v5 3) nn := by rw [ef1988, q_setz (Or.inr (by decide))]; exact z1960
  have z1991 : q_is (q_z f1988 v5 4) ln := by rw [ef1988, q_setz (Or.inr (by decide))]; exact z1961
  have z1992 : q_is (q_z f1988 v5 5) mn := by rw [ef1988, q_setz (Or.inr (by decide))]; exact z1962
  have z1993 : q_is (q_z f1988 v5 11) tm := by rw [ef1988, q_setz (Or.inl (fun q => by rw [q, kv0] at kv5; exact absurd kv5 (by decide)))]; exact z1963
  have z1994 : q_is (q_z f1988 v0 3) x1794 := by rw [ef1988, q_setz (Or.inr (by decide))]; exact z1964
  have z1995 : q_is (q_z f1988 v0 4) x1812 := by rw [ef1988, q_setz (Or.inr (by decide))]; exact z1965
  have z1996 : q_is (q_z f1988 v0 5) x1831 := by rw [ef1988, q_setz (Or.inr (by decide))]; exact z1966
  have z1997 : q_is (q_z f1988 v5 6) x1851 := by rw [ef1988, q_setz (Or.inr (by decide))]; exact z1967
  have z1998 : q_is (q_z f1988 v0 6) x1852 := by rw [ef1988, q_setz (Or.inr (by decide))]; exact z1968
  have z1999 : q_is (q_z f1988 v5 7) x1874 := by rw [ef1988, q_setz (Or.inr (by decide))]; exact z1969
  have z2000 : q_is (q_z f1988 v0 7) x1875 := by rw [ef1988, q_setz (Or.inr (by decide))]; exact z1970
  have z2001 : q_is (q_z f1988 v5 8) x1899 := by rw [ef1988, q_setz (Or.inr (by decide))]; exact z1971
  have z2002 : q_is (q_z f1988 v0 8) x1900 := by rw [ef1988, q_setz (Or.inr (by decide))]; exact z1972
  have z2003 : q_is (q_z f1988 v5 9) x1926 := by rw [ef1988, q_setz (Or.inr (by decide))]; exact z1973
  have z2004 : q_is (q_z f1988 v0 9) x1927 := by rw [ef1988, q_setz (Or.inr (by decide))]; exact z1974
  have z2005 : q_is (q_z f1988 v5 10) x1955 := by rw [ef1988, q_setz (Or.inr (by decide))]; exact z1975
  have z2006 : q_is (q_z f1988 v0 10) x1956 := by rw [ef1988, q_setz (Or.inr (by decide))]; exact z1959
  have z2007 : q_ir (q_r f1988 v0 0) n0 := by rw [ef1988, q_setr (Or.inr (by decide))]; exact z1976
  have z2008 : q_ir (q_r f1988 v0 1) l0 := by rw [ef1988, q_setr (Or.inr (by decide))]; exact z1977
  have z2009 : q_ir (q_r f1988 v0 2) m0 := by rw [ef1988, q_setr (Or.inr (by decide))]; exact z1978
  have z2010 : q_ir (q_r f1988 v5 0) n5 := by rw [ef1988, q_setr (Or.inr (by decide))]; exact z1979
  have z2011 : q_ir (q_r f1988 v5 1) l5 := by rw [ef1988, q_setr (Or.inr (by decide))]; exact z1980
  have z2012 : q_ir (q_r f1988 v5 2) m5 := by rw [ef1988, q_setr (Or.inr (by decide))]; exact z1981
  have g2013 : tw_vw K L 10 5 3 4 f1988 v0 n0 l0 m0 d0 (tw_u (tw_u (tw_u (tw_u (tw_u (tw_u (tw_u (tw_u (tw_u s0 0 3 x1794) 0 4 x1812) 0 5 x1831) 0 6 x1852) 0 7 x1875) 0 8 x1900) 0 9 x1927) 0 10 x1956) 0 11 x1986) := tw_vw_s g1982 (tw_v0 hw0) (by omega) (by omega) ef1988 z1989 (fun i9 => by rw [ef1988, q_setr (Or.inl (fun q => by rw [q, kv0] at kn0; exact absurd kn0 (by decide)))]) (fun i9 => by rw [ef1988, q_setr (Or.inl (fun q => by rw [q, kv0] at kl0; exact absurd kl0 (by decide)))]) (fun i9 => by rw [ef1988, q_setr (Or.inl (fun q => by rw [q, kv0] at km0; exact absurd km0 (by decide)))])
  have g2014 : tw_vw K L 51 57 63 69 f1988 v5 n5 l5 m5 d5 s5 := tw_vw_tr g1983 (fun a9 h9 k9 c9 => by rw [ef1988, q_setz (Or.inl (fun q => by rw [q, kv0] at k9; exact absurd k9 (by decide)))]) (fun a9 h9 k9 c9 => by rw [ef1988, q_setz (Or.inl (fun q => by rw [q, kv0] at k9; exact absurd k9 (by decide)))]) (fun a9 h9 k9 c9 => by rw [ef1988, q_setz (Or.inl (fun q => by rw [q, kv0] at k9; exact absurd k9 (by decide)))]) (fun a9 h9 k9 c9 => by rw [ef1988, q_setz (Or.inl (fun q => by rw [q, kv0] at k9; exact absurd k9 (by decide)))]) (fun i9 => by rw [ef1988, q_setr (Or.inl (fun q => by rw [q, kv0] at kn5; exact absurd kn5 (by decide)))]) (fun i9 => by rw [ef1988, q_setr (Or.inl (fun q => by rw [q, kv0] at kl5; exact absurd kl5 (by decide)))]) (fun i9 => by rw [ef1988, q_setr (Or.inl (fun q => by rw [q, kv0] at km5; exact absurd km5 (by decide)))])
  have g2015 : tw_nw K L 5 f1988 := tw_nw_tr g1984 (fun a9 h9 k9 => by rw [ef1988, q_setj (Or.inl (fun q => by rw [q, kv0] at k9; exact absurd k9 (by decide)))])
  have g2016 : tw_nw K L 57 f1988 := tw_nw_tr g1985 (fun a9 h9 k9 => by rw [ef1988, q_setj (Or.inl (fun q => by rw [q, kv0] at k9; exact absurd k9 (by decide)))])
  refine q_ald_n cx dX10_copyFrom_72 rfl (lv_at hl 0 rfl) ?_
  refine q_ald_n cx dX10_copyFrom_73 rfl (lv_at hl 1 rfl) ?_
  obtain ⟨x2017, ex2017⟩ : ∃ zz, q_is (q_z f1988 v5 12) zz := ⟨_, q_isr _⟩
  obtain ⟨lx2017, ux2017⟩ := q_isb ex2017 (q_fib hB.2.1 hv5 kv5 (by decide) rfl)
  obtain ⟨x2018, ex2018, nx2018⟩ : ∃ zz, q_is (q_z f1988 v5 12) zz ∧ zz = x2017 := ⟨_, ex2017, rfl⟩
  have sx2018 : q_is x2018 (s5 0 12) := tw_g g2014 (tw_v0 hw5) (by omega) (by omega) ex2018
  refine q_gX10_63_51 cx hB hv5 kv5 ex2018 dX10_copyFrom_74 (fun lb2019 ub2019 => ?_)
  refine q_pX10_63 cx hB hv0 kv0 ⟨by omega, by omega⟩ (by omega) (by omega) rfl dX10_copyFrom_77 (fun H locs f2020 ef2020 z2021 hB => ?_)
  have z2022 : q_is (q_z f2020 v5 3) nn := by rw [ef2020, q_setz (Or.inr (by decide))]; exact z1990
  have z2023 : q_is (q_z f2020 v5 4) ln := by rw [ef2020, q_setz (Or.inr (by decide))]; exact z1991
  have z2024 : q_is (q_z f2020 v5 5) mn := by rw [ef2020, q_setz (Or.inr (by decide))]; exact z1992
  have z2025 : q_is (q_z f2020 v5 11) tm := by rw [ef2020, q_setz (Or.inr (by decide))]; exact z1993
  have z2026 : q_is (q_z f2020 v0 3) x1794 := by rw [ef2020, q_setz (Or.inr (by decide))]; exact z1994
  have z2027 : q_is (q_z f2020 v0 4) x1812 := by rw [ef2020, q_setz (Or.inr (by decide))]; exact z1995
  have z2028 : q_is (q_z f2020 v0 5) x1831 := by rw [ef2020, q_setz (Or.inr (by decide))]; exact z1996
  have z2029 : q_is (q_z f2020 v5 6) x1851 := by rw [ef2020, q_setz (Or.inr (by decide))]; exact z1997
  have z2030 : q_is (q_z f2020 v0 6) x1852 := by rw [ef2020, q_setz (Or.inr (by decide))]; exact z1998
  have z2031 : q_is (q_z f2020 v5 7) x1874 := by rw [ef2020, q_setz (Or.inr (by decide))]; exact z1999
  have z2032 : q_is (q_z f2020 v0 7) x1875 := by rw [ef2020, q_setz (Or.inr (by decide))]; exact z2000
  have z2033 : q_is (q_z f2020 v5 8) x1899 := by rw [ef2020, q_setz (Or.inr (by decide))]; exact z2001
  have z2034 : q_is (q_z f2020 v0 8) x1900 := by rw [ef2020, q_setz (Or.inr (by decide))]; exact z2002
  have z2035 : q_is (q_z f2020 v5 9) x1926 := by rw [ef2020, q_setz (Or.inr (by decide))]; exact z2003
  have z2036 : q_is (q_z f2020 v0 9) x1927 := by rw [ef2020, q_setz (Or.inr (by decide))]; exact z2004
  have z2037 : q_is (q_z f2020 v5 10) x1955 := by rw [ef2020, q_setz (Or.inr (by decide))]; exact z2005
  have z2038 : q_is (q_z f2020 v0 10) x1956 := by rw [ef2020, q_setz (Or.inr (by decide))]; exact z2006
  have z2039 : q_is (q_z f2020 v0 11) x1986 := by rw [ef2020, q_setz (Or.inr (by decide))]; exact z1989
  have z2040 : q_is (q_z f2020 v5 12) x2017 := by rw [ef2020, q_setz (Or.inl (fun q => by rw [q, kv0] at kv5; exact absurd kv5 (by decide)))]; exact ex2017
  have z2041 : q_ir (q_r f2020 v0 0) n0 := by rw [ef2020, q_setr (Or.inr (by decide))]; exact z2007
  have z2042 : q_ir (q_r f2020 v0 1) l0 := by rw [ef2020, q_setr (Or.inr (by decide))]; exact z2008
  have z2043 : q_ir (q_r f2020 v0 2) m0 := by rw [ef2020, q_setr (Or.inr (by decide))]; exact z2009
  have z2044 : q_ir (q_r f2020 v5 0) n5 := by rw [ef2020, q_setr (Or.inr (by decide))]; exact z2010
  have z2045 : q_ir (q_r f2020 v5 1) l5 := by rw [ef2020, q_setr (Or.inr (by decide))]; exact z2011
  have z2046 : q_ir (q_r f2020 v5 2) m5 := by rw [ef2020, q_setr (Or.inr (by decide))]; exact z2012
  have g2047 : tw_vw K L 10 5 3 4 f2020 v0 n0 l0 m0 d0 (tw_u (tw_u (tw_u (tw_u (tw_u (tw_u (tw_u (tw_u (tw_u (tw_u s0 0 3 x1794) 0 4 x1812) 0 5 x1831) 0 6 x1852) 0 7 x1875) 0 8 x1900) 0 9 x1927) 0 10 x1956) 0 11 x1986) 0 12 x2018) := tw_vw_s g2013 (tw_v0 hw0) (by omega) (by omega) ef2020 z2021 (fun i9 => by rw [ef2020, q_setr (Or.inl (fun q => by rw [q, kv0] at kn0; exact absurd kn0 (by decide)))]) (fun i9 => by rw [ef2020, q_setr (Or.inl (fun q => by rw [q, kv0] at kl0; exact absurd kl0 (by decide)))]) (fun i9 => by rw [ef2020, q_setr (Or.inl (fun q => by rw [q, kv0] at km0; exact absurd km0 (by decide)))])
  have g2048 : tw_vw K L 51 57 63 69 f2020 v5 n5 l5 m5 d5 s5 := tw_vw_tr g2014 (fun a9 h9 k9 c9 => by rw [ef2020, q_setz (Or.inl (fun q => by rw [q, kv0] at k9; exact absurd k9 (by decide)))]) (fun a9 h9 k9 c9 => by rw [ef2020, q_setz (Or.inl (fun q => by rw [q, kv0] at k9; exact absurd k9 (by decide)))]) (fun a9 h9 k9 c9 => by rw [ef2020, q_setz (Or.inl (fun q => by rw [q, kv0] at k9; exact absurd k9 (by decide)))]) (fun a9 h9 k9 c9 => by rw [ef2020, q_setz (Or.inl (fun q => by rw [q, kv0] at k9; exact absurd k9 (by decide)))]) (fun i9 => by rw [ef2020, q_setr (Or.inl (fun q => by rw [q, kv0] at kn5; exact absurd kn5 (by decide)))]) (fun i9 => by rw [ef2020, q_setr (Or.inl (fun q => by rw [q, kv0] at kl5; exact absurd kl5 (by decide)))]) (fun i9 => by rw [ef2020, q_setr (Or.inl (fun q => by rw [q, kv0] at km5; exact absurd km5 (by decide)))])
  have g2049 : tw_nw K L 5 f2020 := tw_nw_tr g2015 (fun a9 h9 k9 => by rw [ef2020, q_setj (Or.inl (fun q => by rw [q, kv0] at k9; exact absurd k9 (by decide)))])
  have g2050 : tw_nw K L 57 f2020 := tw_nw_tr g2016 (fun a9 h9 k9 => by rw [ef2020, q_setj (Or.inl (fun q => by rw [q, kv0] at k9; exact absurd k9 (by decide)))])
  refine q_iconst cx dX10_copyFrom_80 ?_
  refine lv_istore_n (lv' := [(2, .int (q_i 0)), (0, .ref v0), (1, .ref v5)]) cx.1 cx.2.1 dX10_copyFrom_81 rfl hl (by decide) rfl (fun ls hl => ?_)
  exact J82 ((Int.toNat (2147483647 - 0)) + 1) f2020 0 (by decide) (by decide) x1794 (by omega) (by omega) x1812 (by omega) (by omega) x1831 (by omega) (by omega) x1986 (by omega) (by omega) z2022 z2023 z2024 z2025 z2026 z2027 z2028 z2039 z2041 z2042 z2043 z2044 z2045 z2046 g2048 g2049 g2050 (by omega) (by omega) (by omega) (by omega) (by omega) (tw_cg g2047 (by have t0_ : x1794 = s5 0 3 := sx1794; have t1_ : x1812 = s5 0 4 := sx1812; have t2_ : x1831 = s5 0 5 := sx1831; have t3_ : x1852 = s5 0 6 := sx1852; have t4_ : x1875 = s5 0 7 := sx1875; have t5_ : x1900 = s5 0 8 := sx1900; have t6_ : x1927 = s5 0 9 := sx1927; have t7_ : x1956 = s5 0 10 := sx1956; have t8_ : x1986 = s5 0 11 := sx1986; have t9_ : x2018 = s5 0 12 := sx2018; (try simp only [t0_, t1_, t2_, t3_, t4_, t5_, t6_, t7_, t8_, t9_]); rfl)) (Nat.lt_succ_self _) H locs hB ls (lv_sub hl [1, 2, 0] rfl)
