set_option maxHeartbeats 4000000 in
set_option maxRecDepth 100000 in
theorem f_nodeAt0 (l : Launch) (g : q_G) {K : Nat → Nat} {L : List Nat} (hN : L.Nodup) {f : Nat → va_E} (hT : q_Ty g K L f) (v : Nat) (hv : v ∈ L) (kv : K v = 10) (p0 : Int) (lp0 : 0 ≤ p0) (up0 : p0 ≤ 9) (ndv : Nat) (hndv : ndv ∈ L) (kndv : K ndv = 110) (hr0 : q_ir (q_r f v 0) ndv) : q_Ct l g K L yX10_nodeAt cX10_nodeAt 2 (some (.object "WakeVillage$Node")) 0 0 [.ref v, .int (q_i p0)] f [] (q_Pr (fun (z : Nat) (f1 : Nat → va_E) => f = f1 ∧ z ∈ L ∧ K z = 5 ∧ (z = q_r f ndv (Int.toNat p0)))) := by
  refine q_ofb (by decide +kernel) hN hT (Nat.le_of_ble_eq_true rfl) ?_
  intro p e s m below meth c ls cx hr hlk hB hl
  have hl : lv_has ls 2 [(0, .ref v), (1, .int (q_i p0))] := hl
  obtain ⟨H, hH⟩ : ∃ H : Heap, H = s.heap := ⟨_, rfl⟩
  obtain ⟨locs, hlocs⟩ : ∃ z : List Loc, z = [] := ⟨_, rfl⟩
  rw [← hH, ← hlocs] at hB
  rw [← hH, ← hlocs]
  refine q_ald_n cx dX10_nodeAt_0 rfl (lv_at hl 0 rfl) ?_
  refine q_gX10_13 cx hB hv kv hr0 dX10_nodeAt_1 (fun hb7 kb7 => ?_)
  refine q_ild_n cx dX10_nodeAt_4 rfl (lv_at hl 1 rfl) ?_
  refine q_iflt (tgt := 21) cx ⟨by omega, by omega⟩ dX10_nodeAt_5 (by decide) (fun c8 => ?_) (fun c8 => ?_)
  · exact absurd c8 (by omega)
  · refine q_ild_n cx dX10_nodeAt_8 rfl (lv_at hl 1 rfl) ?_
    refine q_ald_n cx dX10_nodeAt_9 rfl (lv_at hl 0 rfl) ?_
    refine q_gX10_13 cx hB hv kv hr0 dX10_nodeAt_10 (fun hb9 kb9 => ?_)
    refine q_alen (n := 10) cx hB hndv kndv (by decide) rfl 7 rfl rfl dX10_nodeAt_13 ?_
    refine q_icge (tgt := 21) cx ⟨by omega, by omega⟩ ⟨by decide, by decide⟩ dX10_nodeAt_14 (by decide) (fun c10 => ?_) (fun c10 => ?_)
    · exact absurd c10 (by omega)
    · refine q_ild_n cx dX10_nodeAt_17 rfl (lv_at hl 1 rfl) ?_
      refine lv_goto (tgt := 22) cx.1 cx.2.1 dX10_nodeAt_18 (by decide) ?_
      obtain ⟨p11, ep11⟩ : ∃ zz, q_ir (q_r f ndv (Int.toNat p0)) zz := ⟨_, q_irr _⟩
      refine q_aald (k2 := 5) (n := 10) cx hB hndv kndv (by decide) rfl 7 rfl (by decide) rfl (by omega) (by omega) (by decide) rfl ep11 dX10_nodeAt_22 (fun hb12 kb12 => ?_)
      refine q_aret cx hr (Or.inl ⟨_, rfl⟩) hlk hB dX10_nodeAt_23 ?_
      exact ⟨rfl, hb12, kb12, (Eq.symm ep11)⟩
set_option maxHeartbeats 4000000 in
set_option maxRecDepth 100000 in
theorem f_nodeAt1 (l : Launch) (g : q_G) {K : Nat → Nat} {L : List Nat} (hN : L.Nodup) {f : Nat → va_E} (hT : q_Ty g K L f) (v : Nat) (hv : v ∈ L) (kv : K v = 13) (p0 : Int) (lp0 : 0 ≤ p0) (up0 : p0 ≤ 9) (ndv : Nat) (hndv : ndv ∈ L) (kndv : K ndv = 111) (hr0 : q_ir (q_r f v 0) ndv) : q_Ct l g K L yX10_nodeAt cX10_nodeAt 2 (some (.object "WakeVillage$Node")) 0 0 [.ref v, .int (q_i p0)] f [] (q_Pr (fun (z : Nat) (f1 : Nat → va_E) => f = f1 ∧ z ∈ L ∧ K z = 17 ∧ (z = q_r f ndv (Int.toNat p0)))) := by
  refine q_ofb (by decide +kernel) hN hT (Nat.le_of_ble_eq_true rfl) ?_
  intro p e s m below meth c ls cx hr hlk hB hl
  have hl : lv_has ls 2 [(0, .ref v), (1, .int (q_i p0))] := hl
  obtain ⟨H, hH⟩ : ∃ H : Heap, H = s.heap := ⟨_, rfl⟩
  obtain ⟨locs, hlocs⟩ : ∃ z : List Loc, z = [] := ⟨_, rfl⟩
  rw [← hH, ← hlocs] at hB
  rw [← hH, ← hlocs]
  refine q_ald_n cx dX10_nodeAt_0 rfl (lv_at hl 0 rfl) ?_
  refine q_gX10_13_13 cx hB hv kv hr0 dX10_nodeAt_1 (fun hb7 kb7 => ?_)
  refine q_ild_n cx dX10_nodeAt_4 rfl (lv_at hl 1 rfl) ?_
  refine q_iflt (tgt := 21) cx ⟨by omega, by omega⟩ dX10_nodeAt_5 (by decide) (fun c8 => ?_) (fun c8 => ?_)
  · exact absurd c8 (by omega)
  · refine q_ild_n cx dX10_nodeAt_8 rfl (lv_at hl 1 rfl) ?_
    refine q_ald_n cx dX10_nodeAt_9 rfl (lv_at hl 0 rfl) ?_
    refine q_gX10_13_13 cx hB hv kv hr0 dX10_nodeAt_10 (fun hb9 kb9 => ?_)
    refine q_alen (n := 10) cx hB hndv kndv (by decide) rfl 7 rfl rfl dX10_nodeAt_13 ?_
    refine q_icge (tgt := 21) cx ⟨by omega, by omega⟩ ⟨by decide, by decide⟩ dX10_nodeAt_14 (by decide) (fun c10 => ?_) (fun c10 => ?_)
    · exact absurd c10 (by omega)
    · refine q_ild_n cx dX10_nodeAt_17 rfl (lv_at hl 1 rfl) ?_
      refine lv_goto (tgt := 22) cx.1 cx.2.1 dX10_nodeAt_18 (by decide) ?_
      obtain ⟨p11, ep11⟩ : ∃ zz, q_ir (q_r f ndv (Int.toNat p0)) zz := ⟨_, q_irr _⟩
      refine q_aald (k2 := 17) (n := 10) cx hB hndv kndv (by decide) rfl 7 rfl (by decide) rfl (by omega) (by omega) (by decide) rfl ep11 dX10_nodeAt_22 (fun hb12 kb12 => ?_)
      refine q_aret cx hr (Or.inl ⟨_, rfl⟩) hlk hB dX10_nodeAt_23 ?_
      exact ⟨rfl, hb12, kb12, (Eq.symm ep11)⟩
set_option maxHeartbeats 4000000 in
set_option maxRecDepth 100000 in
theorem f_nodeAt2 (l : Launch) (g : q_G) {K : Nat → Nat} {L : List Nat} (hN : L.Nodup) {f : Nat → va_E} (hT : q_Ty g K L f) (v : Nat) (hv : v ∈ L) (kv : K v = 14) (p0 : Int) (lp0 : 0 ≤ p0) (up0 : p0 ≤ 9) (ndv : Nat) (hndv : ndv ∈ L) (kndv : K ndv = 112) (hr0 : q_ir (q_r f v 0) ndv) : q_Ct l g K L yX10_nodeAt cX10_nodeAt 2 (some (.object "WakeVillage$Node")) 0 0 [.ref v, .int (q_i p0)] f [] (q_Pr (fun (z : Nat) (f1 : Nat → va_E) => f = f1 ∧ z ∈ L ∧ K z = 18 ∧ (z = q_r f ndv (Int.toNat p0)))) := by
  refine q_ofb (by decide +kernel) hN hT (Nat.le_of_ble_eq_true rfl) ?_
  intro p e s m below meth c ls cx hr hlk hB hl
  have hl : lv_has ls 2 [(0, .ref v), (1, .int (q_i p0))] := hl
  obtain ⟨H, hH⟩ : ∃ H : Heap, H = s.heap := ⟨_, rfl⟩
  obtain ⟨locs, hlocs⟩ : ∃ z : List Loc, z = [] := ⟨_, rfl⟩
  rw [← hH, ← hlocs] at hB
  rw [← hH, ← hlocs]
  refine q_ald_n cx dX10_nodeAt_0 rfl (lv_at hl 0 rfl) ?_
  refine q_gX10_13_14 cx hB hv kv hr0 dX10_nodeAt_1 (fun hb7 kb7 => ?_)
  refine q_ild_n cx dX10_nodeAt_4 rfl (lv_at hl 1 rfl) ?_
  refine q_iflt (tgt := 21) cx ⟨by omega, by omega⟩ dX10_nodeAt_5 (by decide) (fun c8 => ?_) (fun c8 => ?_)
  · exact absurd c8 (by omega)
  · refine q_ild_n cx dX10_nodeAt_8 rfl (lv_at hl 1 rfl) ?_
    refine q_ald_n cx dX10_nodeAt_9 rfl (lv_at hl 0 rfl) ?_
    refine q_gX10_13_14 cx hB hv kv hr0 dX10_nodeAt_10 (fun hb9 kb9 => ?_)
    refine q_alen (n := 10) cx hB hndv kndv (by decide) rfl 7 rfl rfl dX10_nodeAt_13 ?_
    refine q_icge (tgt := 21) cx ⟨by omega, by omega⟩ ⟨by decide, by decide⟩ dX10_nodeAt_14 (by decide) (fun c10 => ?_) (fun c10 => ?_)
    · exact absurd c10 (by omega)
    · refine q_ild_n cx dX10_nodeAt_17 rfl (lv_at hl 1 rfl) ?_
      refine lv_goto (tgt := 22) cx.1 cx.2.1 dX10_nodeAt_18 (by decide) ?_
      obtain ⟨p11, ep11⟩ : ∃ zz, q_ir (q_r f ndv (Int.toNat p0)) zz := ⟨_, q_irr _⟩
      refine q_aald (k2 := 18) (n := 10) cx hB hndv kndv (by decide) rfl 7 rfl (by decide) rfl (by omega) (by omega) (by decide) rfl ep11 dX10_nodeAt_22 (fun hb12 kb12 => ?_)
      refine q_aret cx hr (Or.inl ⟨_, rfl⟩) hlk hB dX10_nodeAt_23 ?_
      exact ⟨rfl, hb12, kb12, (Eq.symm ep11)⟩
set_option maxHeartbeats 4000000 in
set_option maxRecDepth 100000 in
theorem f_nodeAt4 (l : Launch) (g : q_G) {K : Nat → Nat} {L : List Nat} (hN : L.Nodup) {f : Nat → va_E} (hT : q_Ty g K L f) (v : Nat) (hv : v ∈ L) (kv : K v = 16) (p0 : Int) (lp0 : 0 ≤ p0) (up0 : p0 ≤ 9) (ndv : Nat) (hndv : ndv ∈ L) (kndv : K ndv = 114) (hr0 : q_ir (q_r f v 0) ndv) : q_Ct l g K L yX10_nodeAt cX10_nodeAt 2 (some (.object "WakeVillage$Node")) 0 0 [.ref v, .int (q_i p0)] f [] (q_Pr (fun (z : Nat) (f1 : Nat → va_E) => f = f1 ∧ z ∈ L ∧ K z = 20 ∧ (z = q_r f ndv (Int.toNat p0)))) := by
  refine q_ofb (by decide +kernel) hN hT (Nat.le_of_ble_eq_true rfl) ?_
  intro p e s m below meth c ls cx hr hlk hB hl
  have hl : lv_has ls 2 [(0, .ref v), (1, .int (q_i p0))] := hl
  obtain ⟨H, hH⟩ : ∃ H : Heap, H = s.heap := ⟨_, rfl⟩
  obtain ⟨locs, hlocs⟩ : ∃ z : List Loc, z = [] := ⟨_, rfl⟩
  rw [← hH, ← hlocs] at hB
  rw [← hH, ← hlocs]
  refine q_ald_n cx dX10_nodeAt_0 rfl (lv_at hl 0 rfl) ?_
  refine q_gX10_13_16 cx hB hv kv hr0 dX10_nodeAt_1 (fun hb7 kb7 => ?_)
  refine q_ild_n cx dX10_nodeAt_4 rfl (lv_at hl 1 rfl) ?_
  refine q_iflt (tgt := 21) cx ⟨by omega, by omega⟩ dX10_nodeAt_5 (by decide) (fun c8 => ?_) (fun c8 => ?_)
  · exact absurd c8 (by omega)
  · refine q_ild_n cx dX10_nodeAt_8 rfl (lv_at hl 1 rfl) ?_
    refine q_ald_n cx dX10_nodeAt_9 rfl (lv_at hl 0 rfl) ?_
    refine q_gX10_13_16 cx hB hv kv hr0 dX10_nodeAt_10 (fun hb9 kb9 => ?_)
    refine q_alen (n := 10) cx hB hndv kndv (by decide) rfl 7 rfl rfl dX10_nodeAt_13 ?_
    refine q_icge (tgt := 21) cx ⟨by omega, by omega⟩ ⟨by decide, by decide⟩ dX10_nodeAt_14 (by decide) (fun c10 => ?_) (fun c10 => ?_)
    · exact absurd c10 (by omega)
    · refine q_ild_n cx dX10_nodeAt_17 rfl (lv_at hl 1 rfl) ?_
      refine lv_goto (tgt := 22) cx.1 cx.2.1 dX10_nodeAt_18 (by decide) ?_
      obtain ⟨p11, ep11⟩ : ∃ zz, q_ir (q_r f ndv (Int.toNat p0)) zz := ⟨_, q_irr _⟩
      refine q_aald (k2 := 20) (n := 10) cx hB hndv kndv (by decide) rfl 7 rfl (by decide) rfl (by omega) (by omega) (by decide) rfl ep11 dX10_nodeAt_22 (fun hb12 kb12 => ?_)
      refine q_aret cx hr (Or.inl ⟨_, rfl⟩) hlk hB dX10_nodeAt_23 ?_
      exact ⟨rfl, hb12, kb12, (Eq.symm ep11)⟩
set_option maxHeartbeats 4000000 in
set_option maxRecDepth 100000 in
theorem f_ncopy01 (l : Launch) (g : q_G) {K : Nat → Nat} {L : List Nat} (hN : L.Nodup) {f : Nat → va_E} (hT : q_Ty g K L f) (v : Nat) (hv : v ∈ L) (kv : K v = 5) (p0 : Nat) (hp0 : p0 ∈ L) (kp0 : K p0 = 17) : q_Ct l g K L yX5_copyFrom cX5_copyFrom 2 none 0 0 [.ref v, .ref p0] f [(5, 0, 8)] (q_Pv (fun (f1 : Nat → va_E) => (q_j f1 v 0 = q_j f p0 0) ∧ (∀ a9 : Nat, a9 ≠ v → q_j f1 a9 0 = q_j f a9 0))) := by
  refine q_ofb (by decide +kernel) hN hT (Nat.le_of_ble_eq_true rfl) ?_
  intro p e s m below meth c ls cx hr hlk hB hl
  have hl : lv_has ls 2 [(0, .ref v), (1, .ref p0)] := hl
  obtain ⟨H, hH⟩ : ∃ H : Heap, H = s.heap := ⟨_, rfl⟩
  obtain ⟨locs, hlocs⟩ : ∃ z : List Loc, z = [] := ⟨_, rfl⟩
  rw [← hH, ← hlocs] at hB
  rw [← hH, ← hlocs]
  have g109 : ∀ a9 : Nat, a9 ≠ v → q_j f a9 0 = q_j f a9 0 := fun _ _ => rfl
  refine q_ald_n cx dX5_copyFrom_0 rfl (lv_at hl 0 rfl) ?_
  refine q_ald_n cx dX5_copyFrom_1 rfl (lv_at hl 1 rfl) ?_
  obtain ⟨j110, ej110⟩ : ∃ zz, q_j f p0 0 = zz := ⟨_, rfl⟩
  refine q_gX5_7_17 cx hB hp0 kp0 ej110 dX5_copyFrom_2 ?_
  refine q_pX5_7 cx hB hv kv rfl dX5_copyFrom_5 (fun H locs f111 ef111 z112 hB => ?_)
  have g113 : ∀ a9 : Nat, a9 ≠ v → q_j f111 a9 0 = q_j f a9 0 := tk_on_tr g109 (fun a9 h9 => by rw [ef111, q_setj (Or.inl h9)])
  refine q_ald_n cx dX5_copyFrom_8 rfl (lv_at hl 0 rfl) ?_
  refine q_ald_n cx dX5_copyFrom_9 rfl (lv_at hl 1 rfl) ?_
  obtain ⟨j114, ej114⟩ : ∃ zz, q_j f111 p0 1 = zz := ⟨_, rfl⟩
  refine q_gX5_13_17 cx hB hp0 kp0 ej114 dX5_copyFrom_10 ?_
  refine q_pX5_13 cx hB hv kv rfl dX5_copyFrom_13 (fun H locs f115 ef115 z116 hB => ?_)
  have z117 : q_j f115 v 0 = j110 := by rw [ef115, q_setj (Or.inr (by decide))]; exact z112
  have g118 : ∀ a9 : Nat, a9 ≠ v → q_j f115 a9 0 = q_j f a9 0 := tk_on_tr g113 (fun a9 h9 => by rw [ef115, q_setj (Or.inl h9)])
  refine q_ald_n cx dX5_copyFrom_16 rfl (lv_at hl 0 rfl) ?_
  refine q_ald_n cx dX5_copyFrom_17 rfl (lv_at hl 1 rfl) ?_
  obtain ⟨x119, ex119⟩ : ∃ zz, q_is (q_z f115 p0 2) zz := ⟨_, q_isr _⟩
  refine q_gX5_16_17 cx hB hp0 kp0 ex119 dX5_copyFrom_18 (fun lb120 ub120 => ?_)
  refine q_pX5_16 cx hB hv kv ⟨by omega, by omega⟩ (by omega) (by omega) rfl dX5_copyFrom_21 (fun H locs f121 ef121 z122 hB => ?_)
  have z123 : q_is (q_z f121 p0 2) x119 := by rw [ef121, q_setz (Or.inl (fun q => by rw [q, kv] at kp0; exact absurd kp0 (by decide)))]; exact ex119
  have z124 : q_j f121 v 0 = j110 := by rw [ef121, q_setj (Or.inr (by decide))]; exact z117
  have z125 : q_j f121 v 1 = j114 := by rw [ef121, q_setj (Or.inr (by decide))]; exact z116
  have g126 : ∀ a9 : Nat, a9 ≠ v → q_j f121 a9 0 = q_j f a9 0 := tk_on_tr g118 (fun a9 h9 => by rw [ef121, q_setj (Or.inl h9)])
  refine q_ald_n cx dX5_copyFrom_24 rfl (lv_at hl 0 rfl) ?_
  refine q_ald_n cx dX5_copyFrom_25 rfl (lv_at hl 1 rfl) ?_
  obtain ⟨x127, ex127⟩ : ∃ zz, q_is (q_z f121 p0 3) zz := ⟨_, q_isr _⟩
  refine q_gX5_20_17 cx hB hp0 kp0 ex127 dX5_copyFrom_26 (fun lb128 ub128 => ?_)
  refine q_pX5_20 cx hB hv kv ⟨by omega, by omega⟩ (by omega) (by omega) rfl dX5_copyFrom_29 (fun H locs f129 ef129 z130 hB => ?_)
  have z131 : q_is (q_z f129 p0 2) x119 := by rw [ef129, q_setz (Or.inr (by decide))]; exact z123
  have z132 : q_is (q_z f129 v 2) x119 := by rw [ef129, q_setz (Or.inr (by decide))]; exact z122
  have z133 : q_is (q_z f129 p0 3) x127 := by rw [ef129, q_setz (Or.inl (fun q => by rw [q, kv] at kp0; exact absurd kp0 (by decide)))]; exact ex127
  have z134 : q_j f129 v 0 = j110 := by rw [ef129, q_setj (Or.inr (by decide))]; exact z124
  have z135 : q_j f129 v 1 = j114 := by rw [ef129, q_setj (Or.inr (by decide))]; exact z125
  have g136 : ∀ a9 : Nat, a9 ≠ v → q_j f129 a9 0 = q_j f a9 0 := tk_on_tr g126 (fun a9 h9 => by rw [ef129, q_setj (Or.inl h9)])
  refine q_ald_n cx dX5_copyFrom_32 rfl (lv_at hl 0 rfl) ?_
  refine q_ald_n cx dX5_copyFrom_33 rfl (lv_at hl 1 rfl) ?_
  obtain ⟨x137, ex137⟩ : ∃ zz, q_is (q_z f129 p0 4) zz := ⟨_, q_isr _⟩
  refine q_gX5_23_17 cx hB hp0 kp0 ex137 dX5_copyFrom_34 (fun lb138 ub138 => ?_)
  refine q_pX5_23 cx hB hv kv ⟨by omega, by omega⟩ (by omega) (by omega) rfl dX5_copyFrom_37 (fun H locs f139 ef139 z140 hB => ?_)
  have z141 : q_is (q_z f139 p0 2) x119 := by rw [ef139, q_setz (Or.inr (by decide))]; exact z131
  have z142 : q_is (q_z f139 v 2) x119 := by rw [ef139, q_setz (Or.inr (by decide))]; exact z132
  have z143 : q_is (q_z f139 p0 3) x127 := by rw [ef139, q_setz (Or.inr (by decide))]; exact z133
  have z144 : q_is (q_z f139 v 3) x127 := by rw [ef139, q_setz (Or.inr (by decide))]; exact z130
  have z145 : q_is (q_z f139 p0 4) x137 := by rw [ef139, q_setz (Or.inl (fun q => by rw [q, kv] at kp0; exact absurd kp0 (by decide)))]; exact ex137
  have z146 : q_j f139 v 0 = j110 := by rw [ef139, q_setj (Or.inr (by decide))]; exact z134
  have z147 : q_j f139 v 1 = j114 := by rw [ef139, q_setj (Or.inr (by decide))]; exact z135
  have g148 : ∀ a9 : Nat, a9 ≠ v → q_j f139 a9 0 = q_j f a9 0 := tk_on_tr g136 (fun a9 h9 => by rw [ef139, q_setj (Or.inl h9)])
  refine q_ald_n cx dX5_copyFrom_40 rfl (lv_at hl 0 rfl) ?_
  refine q_ald_n cx dX5_copyFrom_41 rfl (lv_at hl 1 rfl) ?_
  obtain ⟨x149, ex149⟩ : ∃ zz, q_is (q_z f139 p0 5) zz := ⟨_, q_isr _⟩
  refine q_gX5_26_17 cx hB hp0 kp0 ex149 dX5_copyFrom_42 (fun lb150 ub150 => ?_)
  refine q_pX5_26 cx hB hv kv ⟨by omega, by omega⟩ (by omega) (by omega) rfl dX5_copyFrom_45 (fun H locs f151 ef151 z152 hB => ?_)
  have z153 : q_is (q_z f151 p0 2) x119 := by rw [ef151, q_setz (Or.inr (by decide))]; exact z141
  have z154 : q_is (q_z f151 v 2) x119 := by rw [ef151, q_setz (Or.inr (by decide))]; exact z142
  have z155 : q_is (q_z f151 p0 3) x127 := by rw [ef151, q_setz (Or.inr (by decide))]; exact z143
  have z156 : q_is (q_z f151 v 3) x127 := by rw [ef151, q_setz (Or.inr (by decide))]; exact z144
  have z157 : q_is (q_z f151 p0 4) x137 := by rw [ef151, q_setz (Or.inr (by decide))]; exact z145
  have z158 : q_is (q_z f151 v 4) x137 := by rw [ef151, q_setz (Or.inr (by decide))]; exact z140
  have z159 : q_is (q_z f151 p0 5) x149 := by rw [ef151, q_setz (Or.inl (fun q => by rw [q, kv] at kp0; exact absurd kp0 (by decide)))]; exact ex149
  have z160 : q_j f151 v 0 = j110 := by rw [ef151, q_setj (Or.inr (by decide))]; exact z146
  have z161 : q_j f151 v 1 = j114 := by rw [ef151, q_setj (Or.inr (by decide))]; exact z147
  have g162 : ∀ a9 : Nat, a9 ≠ v → q_j f151 a9 0 = q_j f a9 0 := tk_on_tr g148 (fun a9 h9 => by rw [ef151, q_setj (Or.inl h9)])
  refine q_ald_n cx dX5_copyFrom_48 rfl (lv_at hl 0 rfl) ?_
  refine q_ald_n cx dX5_copyFrom_49 rfl (lv_at hl 1 rfl) ?_
  obtain ⟨x163, ex163⟩ : ∃ zz, q_is (q_z f151 p0 6) zz := ⟨_, q_isr _⟩
  refine q_gX5_29_17 cx hB hp0 kp0 ex163 dX5_copyFrom_50 (fun lb164 ub164 => ?_)
  refine q_pX5_29 cx hB hv kv ⟨by omega, by omega⟩ (by omega) (by omega) rfl dX5_copyFrom_53 (fun H locs f165 ef165 z166 hB => ?_)
  have z167 : q_is (q_z f165 p0 2) x119 := by rw [ef165, q_setz (Or.inr (by decide))]; exact z153
  have z168 : q_is (q_z f165 v 2) x119 := by rw [ef165, q_setz (Or.inr (by decide))]; exact z154
  have z169 : q_is (q_z f165 p0 3) x127 := by rw [ef165, q_setz (Or.inr (by decide))]; exact z155
  have z170 : q_is (q_z f165 v 3) x127 := by rw [ef165, q_setz (Or.inr (by decide))]; exact z156
  have z171 : q_is (q_z f165 p0 4) x137 := by rw [ef165, q_setz (Or.inr (by decide))]; exact z157
  have z172 : q_is (q_z f165 v 4) x137 := by rw [ef165, q_setz (Or.inr (by decide))]; exact z158
  have z173 : q_is (q_z f165 p0 5) x149 := by rw [ef165, q_setz (Or.inr (by decide))]; exact z159
  have z174 : q_is (q_z f165 v 5) x149 := by rw [ef165, q_setz (Or.inr (by decide))]; exact z152
  have z175 : q_is (q_z f165 p0 6) x163 := by rw [ef165, q_setz (Or.inl (fun q => by rw [q, kv] at kp0; exact absurd kp0 (by decide)))]; exact ex163
  have z176 : q_j f165 v 0 = j110 := by rw [ef165, q_setj (Or.inr (by decide))]; exact z160
  have z177 : q_j f165 v 1 = j114 := by rw [ef165, q_setj (Or.inr (by decide))]; exact z161
  have g178 : ∀ a9 : Nat, a9 ≠ v → q_j f165 a9 0 = q_j f a9 0 := tk_on_tr g162 (fun a9 h9 => by rw [ef165, q_setj (Or.inl h9)])
  refine q_ald_n cx dX5_copyFrom_56 rfl (lv_at hl 0 rfl) ?_
  refine q_ald_n cx dX5_copyFrom_57 rfl (lv_at hl 1 rfl) ?_
  obtain ⟨x179, ex179⟩ : ∃ zz, q_is (q_z f165 p0 7) zz := ⟨_, q_isr _⟩
  refine q_gX5_32_17 cx hB hp0 kp0 ex179 dX5_copyFrom_58 (fun lb180 ub180 => ?_)
  refine q_pX5_32 cx hB hv kv ⟨by omega, by omega⟩ (by omega) (by omega) rfl dX5_copyFrom_61 (fun H locs f181 ef181 z182 hB => ?_)
  have z183 : q_is (q_z f181 p0 2) x119 := by rw [ef181, q_setz (Or.inr (by decide))]; exact z167
  have z184 : q_is (q_z f181 v 2) x119 := by rw [ef181, q_setz (Or.inr (by decide))]; exact z168
  have z185 : q_is (q_z f181 p0 3) x127 := by rw [ef181, q_setz (Or.inr (by decide))]; exact z169
  have z186 : q_is (q_z f181 v 3) x127 := by rw [ef181, q_setz (Or.inr (by decide))]; exact z170
  have z187 : q_is (q_z f181 p0 4) x137 := by rw [ef181, q_setz (Or.inr (by decide))]; exact z171
  have z188 : q_is (q_z f181 v 4) x137 := by rw [ef181, q_setz (Or.inr (by decide))]; exact z172
  have z189 : q_is (q_z f181 p0 5) x149 := by rw [ef181, q_setz (Or.inr (by decide))]; exact z173
  have z190 : q_is (q_z f181 v 5) x149 := by rw [ef181, q_setz (Or.inr (by decide))]; exact z174
  have z191 : q_is (q_z f181 p0 6) x163 := by rw [ef181, q_setz (Or.inr (by decide))]; exact z175
  have z192 : q_is (q_z f181 v 6) x163 := by rw [ef181, q_setz (Or.inr (by decide))]; exact z166
  have z193 : q_is (q_z f181 p0 7) x179 := by rw [ef181, q_setz (Or.inl (fun q => by rw [q, kv] at kp0; exact absurd kp0 (by decide)))]; exact ex179
  have z194 : q_j f181 v 0 = j110 := by rw [ef181, q_setj (Or.inr (by decide))]; exact z176
  have z195 : q_j f181 v 1 = j114 := by rw [ef181, q_setj (Or.inr (by decide))]; exact z177
  have g196 : ∀ a9 : Nat, a9 ≠ v → q_j f181 a9 0 = q_j f a9 0 := tk_on_tr g178 (fun a9 h9 => by rw [ef181, q_setj (Or.inl h9)])
  refine q_ald_n cx dX5_copyFrom_64 rfl (lv_at hl 0 rfl) ?_
  refine q_ald_n cx dX5_copyFrom_65 rfl (lv_at hl 1 rfl) ?_
  obtain ⟨x197, ex197⟩ : ∃ zz, q_is (q_z f181 p0 8) zz := ⟨_, q_isr _⟩
  refine q_gX5_35_17 cx hB hp0 kp0 ex197 dX5_copyFrom_66 (fun lb198 ub198 => ?_)
  refine q_pX5_35 cx hB hv kv ⟨by omega, by omega⟩ (by omega) (by omega) rfl dX5_copyFrom_69 (fun H locs f199 ef199 z200 hB => ?_)
  have z201 : q_is (q_z f199 p0 2) x119 := by rw [ef199, q_setz (Or.inr (by decide))]; exact z183
  have z202 : q_is (q_z f199 v 2) x119 := by rw [ef199, q_setz (Or.inr (by decide))]; exact z184
  have z203 : q_is (q_z f199 p0 3) x127 := by rw [ef199, q_setz (Or.inr (by decide))]; exact z185
  have z204 : q_is (q_z f199 v 3) x127 := by rw [ef199, q_setz (Or.inr (by decide))]; exact z186
  have z205 : q_is (q_z f199 p0 4) x137 := by rw [ef199, q_setz (Or.inr (by decide))]; exact z187
  have z206 : q_is (q_z f199 v 4) x137 := by rw [ef199, q_setz (Or.inr (by decide))]; exact z188
  have z207 : q_is (q_z f199 p0 5) x149 := by rw [ef199, q_setz (Or.inr (by decide))]; exact z189
  have z208 : q_is (q_z f199 v 5) x149 := by rw [ef199, q_setz (Or.inr (by decide))]; exact z190
  have z209 : q_is (q_z f199 p0 6) x163 := by rw [ef199, q_setz (Or.inr (by decide))]; exact z191
  have z210 : q_is (q_z f199 v 6) x163 := by rw [ef199, q_setz (Or.inr (by decide))]; exact z192
  have z211 : q_is (q_z f199 p0 7) x179 := by rw [ef199, q_setz (Or.inr (by decide))]; exact z193
  have z212 : q_is (q_z f199 v 7) x179 := by rw [ef199, q_setz (Or.inr (by decide))]; exact z182
  have z213 : q_is (q_z f199 p0 8) x197 := by rw [ef199, q_setz (Or.inl (fun q => by rw [q, kv] at kp0; exact absurd kp0 (by decide)))]; exact ex197
  have z214 : q_j f199 v 0 = j110 := by rw [ef199, q_setj (Or.inr (by decide))]; exact z194
  have z215 : q_j f199 v 1 = j114 := by rw [ef199, q_setj (Or.inr (by decide))]; exact z195
  have g216 : ∀ a9 : Nat, a9 ≠ v → q_j f199 a9 0 = q_j f a9 0 := tk_on_tr g196 (fun a9 h9 => by rw [ef199, q_setj (Or.inl h9)])
  refine q_vret cx hr hlk hB dX5_copyFrom_72 ?_
  exact ⟨(Eq.trans z214 ej110.symm), g216⟩
set_option maxHeartbeats 4000000 in
set_option maxRecDepth 100000 in
theorem f_ncopy02 (l : Launch) (g : q_G) {K : Nat → Nat} {L : List Nat} (hN : L.Nodup) {f : Nat → va_E} (hT : q_Ty g K L f) (v : Nat) (hv : v ∈ L) (kv : K v = 5) (p0 : Nat) (hp0 : p0 ∈ L) (kp0 : K p0 = 18) : q_Ct l g K L yX5_copyFrom cX5_copyFrom 2 none 0 0 [.ref v, .ref p0] f [(5, 0, 8)] (q_Pv (fun (f1 : Nat → va_E) => (q_j f1 v 0 = q_j f p0 0) ∧ (∀ a9 : Nat, a9 ≠ v → q_j f1 a9 0 = q_j f a9 0))) := by
  refine q_ofb (by decide +kernel) hN hT (Nat.le_of_ble_eq_true rfl) ?_
  intro p e s m below meth c ls cx hr hlk hB hl
  have hl : lv_has ls 2 [(0, .ref v), (1, .ref p0)] := hl
  obtain ⟨H, hH⟩ : ∃ H : Heap, H = s.heap := ⟨_, rfl⟩
  obtain ⟨locs, hlocs⟩ : ∃ z : List Loc, z = [] := ⟨_, rfl⟩
  rw [← hH, ← hlocs] at hB
  rw [← hH, ← hlocs]
  have g109 : ∀ a9 : Nat, a9 ≠ v → q_j f a9 0 = q_j f a9 0 := fun _ _ => rfl
  refine q_ald_n cx dX5_copyFrom_0 rfl (lv_at hl 0 rfl) ?_
  refine q_ald_n cx dX5_copyFrom_1 rfl (lv_at hl 1 rfl) ?_
  obtain ⟨j110, ej110⟩ : ∃ zz, q_j f p0 0 = zz := ⟨_, rfl⟩
  refine q_gX5_7_18 cx hB hp0 kp0 ej110 dX5_copyFrom_2 ?_
  refine q_pX5_7 cx hB hv kv rfl dX5_copyFrom_5 (fun H locs f111 ef111 z112 hB => ?_)
  have g113 : ∀ a9 : Nat, a9 ≠ v → q_j f111 a9 0 = q_j f a9 0 := tk_on_tr g109 (fun a9 h9 => by rw [ef111, q_setj (Or.inl h9)])
  refine q_ald_n cx dX5_copyFrom_8 rfl (lv_at hl 0 rfl) ?_
  refine q_ald_n cx dX5_copyFrom_9 rfl (lv_at hl 1 rfl) ?_
  obtain ⟨j114, ej114⟩ : ∃ zz, q_j f111 p0 1 = zz := ⟨_, rfl⟩
  refine q_gX5_13_18 cx hB hp0 kp0 ej114 dX5_copyFrom_10 ?_
  refine q_pX5_13 cx hB hv kv rfl dX5_copyFrom_13 (fun H locs f115 ef115 z116 hB => ?_)
  have z117 : q_j f115 v 0 = j110 := by rw [ef115, q_setj (Or.inr (by decide))]; exact z112
  have g118 : ∀ a9 : Nat, a9 ≠ v → q_j f115 a9 0 = q_j f a9 0 := tk_on_tr g113 (fun a9 h9 => by rw [ef115, q_setj (Or.inl h9)])
  refine q_ald_n cx dX5_copyFrom_16 rfl (lv_at hl 0 rfl) ?_
  refine q_ald_n cx dX5_copyFrom_17 rfl (lv_at hl 1 rfl) ?_
  obtain ⟨x119, ex119⟩ : ∃ zz, q_is (q_z f115 p0 2) zz := ⟨_, q_isr _⟩
  refine q_gX5_16_18 cx hB hp0 kp0 ex119 dX5_copyFrom_18 (fun lb120 ub120 => ?_)
  refine q_pX5_16 cx hB hv kv ⟨by omega, by omega⟩ (by omega) (by omega) rfl dX5_copyFrom_21 (fun H locs f121 ef121 z122 hB => ?_)
  have z123 : q_is (q_z f121 p0 2) x119 := by rw [ef121, q_setz (Or.inl (fun q => by rw [q, kv] at kp0; exact absurd kp0 (by decide)))]; exact ex119
  have z124 : q_j f121 v 0 = j110 := by rw [ef121, q_setj (Or.inr (by decide))]; exact z117
  have z125 : q_j f121 v 1 = j114 := by rw [ef121, q_setj (Or.inr (by decide))]; exact z116
  have g126 : ∀ a9 : Nat, a9 ≠ v → q_j f121 a9 0 = q_j f a9 0 := tk_on_tr g118 (fun a9 h9 => by rw [ef121, q_setj (Or.inl h9)])
  refine q_ald_n cx dX5_copyFrom_24 rfl (lv_at hl 0 rfl) ?_
  refine q_ald_n cx dX5_copyFrom_25 rfl (lv_at hl 1 rfl) ?_
  obtain ⟨x127, ex127⟩ : ∃ zz, q_is (q_z f121 p0 3) zz := ⟨_, q_isr _⟩
  refine q_gX5_20_18 cx hB hp0 kp0 ex127 dX5_copyFrom_26 (fun lb128 ub128 => ?_)
  refine q_pX5_20 cx hB hv kv ⟨by omega, by omega⟩ (by omega) (by omega) rfl dX5_copyFrom_29 (fun H locs f129 ef129 z130 hB => ?_)
  have z131 : q_is (q_z f129 p0 2) x119 := by rw [ef129, q_setz (Or.inr (by decide))]; exact z123
  have z132 : q_is (q_z f129 v 2) x119 := by rw [ef129, q_setz (Or.inr (by decide))]; exact z122
  have z133 : q_is (q_z f129 p0 3) x127 := by rw [ef129, q_setz (Or.inl (fun q => by rw [q, kv] at kp0; exact absurd kp0 (by decide)))]; exact ex127
  have z134 : q_j f129 v 0 = j110 := by rw [ef129, q_setj (Or.inr (by decide))]; exact z124
  have z135 : q_j f129 v 1 = j114 := by rw [ef129, q_setj (Or.inr (by decide))]; exact z125
  have g136 : ∀ a9 : Nat, a9 ≠ v → q_j f129 a9 0 = q_j f a9 0 := tk_on_tr g126 (fun a9 h9 => by rw [ef129, q_setj (Or.inl h9)])
  refine q_ald_n cx dX5_copyFrom_32 rfl (lv_at hl 0 rfl) ?_
  refine q_ald_n cx dX5_copyFrom_33 rfl (lv_at hl 1 rfl) ?_
  obtain ⟨x137, ex137⟩ : ∃ zz, q_is (q_z f129 p0 4) zz := ⟨_, q_isr _⟩
  refine q_gX5_23_18 cx hB hp0 kp0 ex137 dX5_copyFrom_34 (fun lb138 ub138 => ?_)
  refine q_pX5_23 cx hB hv kv ⟨by omega, by omega⟩ (by omega) (by omega) rfl dX5_copyFrom_37 (fun H locs f139 ef139 z140 hB => ?_)
  have z141 : q_is (q_z f139 p0 2) x119 := by rw [ef139, q_setz (Or.inr (by decide))]; exact z131
  have z142 : q_is (q_z f139 v 2) x119 := by rw [ef139, q_setz (Or.inr (by decide))]; exact z132
  have z143 : q_is (q_z f139 p0 3) x127 := by rw [ef139, q_setz (Or.inr (by decide))]; exact z133
  have z144 : q_is (q_z f139 v 3) x127 := by rw [ef139, q_setz (Or.inr (by decide))]; exact z130
  have z145 : q_is (q_z f139 p0 4) x137 := by rw [ef139, q_setz (Or.inl (fun q => by rw [q, kv] at kp0; exact absurd kp0 (by decide)))]; exact ex137
  have z146 : q_j f139 v 0 = j110 := by rw [ef139, q_setj (Or.inr (by decide))]; exact z134
  have z147 : q_j f139 v 1 = j114 := by rw [ef139, q_setj (Or.inr (by decide))]; exact z135
  have g148 : ∀ a9 : Nat, a9 ≠ v → q_j f139 a9 0 = q_j f a9 0 := tk_on_tr g136 (fun a9 h9 => by rw [ef139, q_setj (Or.inl h9)])
  refine q_ald_n cx dX5_copyFrom_40 rfl (lv_at hl 0 rfl) ?_
  refine q_ald_n cx dX5_copyFrom_41 rfl (lv_at hl 1 rfl) ?_
  obtain ⟨x149, ex149⟩ : ∃ zz, q_is (q_z f139 p0 5) zz := ⟨_, q_isr _⟩
  refine q_gX5_26_18 cx hB hp0 kp0 ex149 dX5_copyFrom_42 (fun lb150 ub150 => ?_)
  refine q_pX5_26 cx hB hv kv ⟨by omega, by omega⟩ (by omega) (by omega) rfl dX5_copyFrom_45 (fun H locs f151 ef151 z152 hB => ?_)
  have z153 : q_is (q_z f151 p0 2) x119 := by rw [ef151, q_setz (Or.inr (by decide))]; exact z141
  have z154 : q_is (q_z f151 v 2) x119 := by rw [ef151, q_setz (Or.inr (by decide))]; exact z142
  have z155 : q_is (q_z f151 p0 3) x127 := by rw [ef151, q_setz (Or.inr (by decide))]; exact z143
  have z156 : q_is (q_z f151 v 3) x127 := by rw [ef151, q_setz (Or.inr (by decide))]; exact z144
  have z157 : q_is (q_z f151 p0 4) x137 := by rw [ef151, q_setz (Or.inr (by decide))]; exact z145
  have z158 : q_is (q_z f151 v 4) x137 := by rw [ef151, q_setz (Or.inr (by decide))]; exact z140
  have z159 : q_is (q_z f151 p0 5) x149 := by rw [ef151, q_setz (Or.inl (fun q => by rw [q, kv] at kp0; exact absurd kp0 (by decide)))]; exact ex149
  have z160 : q_j f151 v 0 = j110 := by rw [ef151, q_setj (Or.inr (by decide))]; exact z146
  have z161 : q_j f151 v 1 = j114 := by rw [ef151, q_setj (Or.inr (by decide))]; exact z147
  have g162 : ∀ a9 : Nat, a9 ≠ v → q_j f151 a9 0 = q_j f a9 0 := tk_on_tr g148 (fun a9 h9 => by rw [ef151, q_setj (Or.inl h9)])
  refine q_ald_n cx dX5_copyFrom_48 rfl (lv_at hl 0 rfl) ?_
  refine q_ald_n cx dX5_copyFrom_49 rfl (lv_at hl 1 rfl) ?_
  obtain ⟨x163, ex163⟩ : ∃ zz, q_is (q_z f151 p0 6) zz := ⟨_, q_isr _⟩
  refine q_gX5_29_18 cx hB hp0 kp0 ex163 dX5_copyFrom_50 (fun lb164 ub164 => ?_)
  refine q_pX5_29 cx hB hv kv ⟨by omega, by omega⟩ (by omega) (by omega) rfl dX5_copyFrom_53 (fun H locs f165 ef165 z166 hB => ?_)
  have z167 : q_is (q_z f165 p0 2) x119 := by rw [ef165, q_setz (Or.inr (by decide))]; exact z153
  have z168 : q_is (q_z f165 v 2) x119 := by rw [ef165, q_setz (Or.inr (by decide))]; exact z154
  have z169 : q_is (q_z f165 p0 3) x127 := by rw [ef165, q_setz (Or.inr (by decide))]; exact z155
  have z170 : q_is (q_z f165 v 3) x127 := by rw [ef165, q_setz (Or.inr (by decide))]; exact z156
  have z171 : q_is (q_z f165 p0 4) x137 := by rw [ef165, q_setz (Or.inr (by decide))]; exact z157
  have z172 : q_is (q_z f165 v 4) x137 := by rw [ef165, q_setz (Or.inr (by decide))]; exact z158
  have z173 : q_is (q_z f165 p0 5) x149 := by rw [ef165, q_setz (Or.inr (by decide))]; exact z159
  have z174 : q_is (q_z f165 v 5) x149 := by rw [ef165, q_setz (Or.inr (by decide))]; exact z152
  have z175 : q_is (q_z f165 p0 6) x163 := by rw [ef165, q_setz (Or.inl (fun q => by rw [q, kv] at kp0; exact absurd kp0 (by decide)))]; exact ex163
  have z176 : q_j f165 v 0 = j110 := by rw [ef165, q_setj (Or.inr (by decide))]; exact z160
  have z177 : q_j f165 v 1 = j114 := by rw [ef165, q_setj (Or.inr (by decide))]; exact z161
  have g178 : ∀ a9 : Nat, a9 ≠ v → q_j f165 a9 0 = q_j f a9 0 := tk_on_tr g162 (fun a9 h9 => by rw [ef165, q_setj (Or.inl h9)])
  refine q_ald_n cx dX5_copyFrom_56 rfl (lv_at hl 0 rfl) ?_
  refine q_ald_n cx dX5_copyFrom_57 rfl (lv_at hl 1 rfl) ?_
  obtain ⟨x179, ex179⟩ : ∃ zz, q_is (q_z f165 p0 7) zz := ⟨_, q_isr _⟩
  refine q_gX5_32_18 cx hB hp0 kp0 ex179 dX5_copyFrom_58 (fun lb180 ub180 => ?_)
  refine q_pX5_32 cx hB hv kv ⟨by omega, by omega⟩ (by omega) (by omega) rfl dX5_copyFrom_61 (fun H locs f181 ef181 z182 hB => ?_)
  have z183 : q_is (q_z f181 p0 2) x119 := by rw [ef181, q_setz (Or.inr (by decide))]; exact z167
  have z184 : q_is (q_z f181 v 2) x119 := by rw [ef181, q_setz (Or.inr (by decide))]; exact z168
  have z185 : q_is (q_z f181 p0 3) x127 := by rw [ef181, q_setz (Or.inr (by decide))]; exact z169
  have z186 : q_is (q_z f181 v 3) x127 := by rw [ef181, q_setz (Or.inr (by decide))]; exact z170
  have z187 : q_is (q_z f181 p0 4) x137 := by rw [ef181, q_setz (Or.inr (by decide))]; exact z171
  have z188 : q_is (q_z f181 v 4) x137 := by rw [ef181, q_setz (Or.inr (by decide))]; exact z172
  have z189 : q_is (q_z f181 p0 5) x149 := by rw [ef181, q_setz (Or.inr (by decide))]; exact z173
  have z190 : q_is (q_z f181 v 5) x149 := by rw [ef181, q_setz (Or.inr (by decide))]; exact z174
  have z191 : q_is (q_z f181 p0 6) x163 := by rw [ef181, q_setz (Or.inr (by decide))]; exact z175
  have z192 : q_is (q_z f181 v 6) x163 := by rw [ef181, q_setz (Or.inr (by decide))]; exact z166
  have z193 : q_is (q_z f181 p0 7) x179 := by rw [ef181, q_setz (Or.inl (fun q => by rw [q, kv] at kp0; exact absurd kp0 (by decide)))]; exact ex179
  have z194 : q_j f181 v 0 = j110 := by rw [ef181, q_setj (Or.inr (by decide))]; exact z176
  have z195 : q_j f181 v 1 = j114 := by rw [ef181, q_setj (Or.inr (by decide))]; exact z177
  have g196 : ∀ a9 : Nat, a9 ≠ v → q_j f181 a9 0 = q_j f a9 0 := tk_on_tr g178 (fun a9 h9 => by rw [ef181, q_setj (Or.inl h9)])
  refine q_ald_n cx dX5_copyFrom_64 rfl (lv_at hl 0 rfl) ?_
  refine q_ald_n cx dX5_copyFrom_65 rfl (lv_at hl 1 rfl) ?_
  obtain ⟨x197, ex197⟩ : ∃ zz, q_is (q_z f181 p0 8) zz := ⟨_, q_isr _⟩
  refine q_gX5_35_18 cx hB hp0 kp0 ex197 dX5_copyFrom_66 (fun lb198 ub198 => ?_)
  refine q_pX5_35 cx hB hv kv ⟨by omega, by omega⟩ (by omega) (by omega) rfl dX5_copyFrom_69 (fun H locs f199 ef199 z200 hB => ?_)
  have z201 : q_is (q_z f199 p0 2) x119 := by rw [ef199, q_setz (Or.inr (by decide))]; exact z183
  have z202 : q_is (q_z f199 v 2) x119 := by rw [ef199, q_setz (Or.inr (by decide))]; exact z184
  have z203 : q_is (q_z f199 p0 3) x127 := by rw [ef199, q_setz (Or.inr (by decide))]; exact z185
  have z204 : q_is (q_z f199 v 3) x127 := by rw [ef199, q_setz (Or.inr (by decide))]; exact z186
  have z205 : q_is (q_z f199 p0 4) x137 := by rw [ef199, q_setz (Or.inr (by decide))]; exact z187
  have z206 : q_is (q_z f199 v 4) x137 := by rw [ef199, q_setz (Or.inr (by decide))]; exact z188
  have z207 : q_is (q_z f199 p0 5) x149 := by rw [ef199, q_setz (Or.inr (by decide))]; exact z189
  have z208 : q_is (q_z f199 v 5) x149 := by rw [ef199, q_setz (Or.inr (by decide))]; exact z190
  have z209 : q_is (q_z f199 p0 6) x163 := by rw [ef199, q_setz (Or.inr (by decide))]; exact z191
  have z210 : q_is (q_z f199 v 6) x163 := by rw [ef199, q_setz (Or.inr (by decide))]; exact z192
  have z211 : q_is (q_z f199 p0 7) x179 := by rw [ef199, q_setz (Or.inr (by decide))]; exact z193
  have z212 : q_is (q_z f199 v 7) x179 := by rw [ef199, q_setz (Or.inr (by decide))]; exact z182
  have z213 : q_is (q_z f199 p0 8) x197 := by rw [ef199, q_setz (Or.inl (fun q => by rw [q, kv] at kp0; exact absurd kp0 (by decide)))]; exact ex197
  have z214 : q_j f199 v 0 = j110 := by rw [ef199, q_setj (Or.inr (by decide))]; exact z194
  have z215 : q_j f199 v 1 = j114 := by rw [ef199, q_setj (Or.inr (by decide))]; exact z195
  have g216 : ∀ a9 : Nat, a9 ≠ v → q_j f199 a9 0 = q_j f a9 0 := tk_on_tr g196 (fun a9 h9 => by rw [ef199, q_setj (Or.inl h9)])
  refine q_vret cx hr hlk hB dX5_copyFrom_72 ?_
  exact ⟨(Eq.trans z214 ej110.symm), g216⟩
set_option maxHeartbeats 4000000 in
set_option maxRecDepth 100000 in
theorem f_ncopy20 (l : Launch) (g : q_G) {K : Nat → Nat} {L : List Nat} (hN : L.Nodup) {f : Nat → va_E} (hT : q_Ty g K L f) (v : Nat) (hv : v ∈ L) (kv : K v = 18) (p0 : Nat) (hp0 : p0 ∈ L) (kp0 : K p0 = 5) : q_Ct l g K L yX5_copyFrom cX5_copyFrom 2 none 0 0 [.ref v, .ref p0] f [(18, 0, 8)] (q_Pv (fun (f1 : Nat → va_E) => (q_j f1 v 0 = q_j f p0 0) ∧ (∀ a9 : Nat, a9 ≠ v → q_j f1 a9 0 = q_j f a9 0))) := by
  refine q_ofb (by decide +kernel) hN hT (Nat.le_of_ble_eq_true rfl) ?_
  intro p e s m below meth c ls cx hr hlk hB hl
  have hl : lv_has ls 2 [(0, .ref v), (1, .ref p0)] := hl
  obtain ⟨H, hH⟩ : ∃ H : Heap, H = s.heap := ⟨_, rfl⟩
  obtain ⟨locs, hlocs⟩ : ∃ z : List Loc, z = [] := ⟨_, rfl⟩
  rw [← hH, ← hlocs] at hB
  rw [← hH, ← hlocs]
  have g109 : ∀ a9 : Nat, a9 ≠ v → q_j f a9 0 = q_j f a9 0 := fun _ _ => rfl
  refine q_ald_n cx dX5_copyFrom_0 rfl (lv_at hl 0 rfl) ?_
  refine q_ald_n cx dX5_copyFrom_1 rfl (lv_at hl 1 rfl) ?_
  obtain ⟨j110, ej110⟩ : ∃ zz, q_j f p0 0 = zz := ⟨_, rfl⟩
  refine q_gX5_7 cx hB hp0 kp0 ej110 dX5_copyFrom_2 ?_
  refine q_pX5_7_18 cx hB hv kv rfl dX5_copyFrom_5 (fun H locs f111 ef111 z112 hB => ?_)
  have g113 : ∀ a9 : Nat, a9 ≠ v → q_j f111 a9 0 = q_j f a9 0 := tk_on_tr g109 (fun a9 h9 => by rw [ef111, q_setj (Or.inl h9)])
  refine q_ald_n cx dX5_copyFrom_8 rfl (lv_at hl 0 rfl) ?_
  refine q_ald_n cx dX5_copyFrom_9 rfl (lv_at hl 1 rfl) ?_
  obtain ⟨j114, ej114⟩ : ∃ zz, q_j f111 p0 1 = zz := ⟨_, rfl⟩
  refine q_gX5_13 cx hB hp0 kp0 ej114 dX5_copyFrom_10 ?_
  refine q_pX5_13_18 cx hB hv kv rfl dX5_copyFrom_13 (fun H locs f115 ef115 z116 hB => ?_)
  have z117 : q_j f115 v 0 = j110 := by rw [ef115, q_setj (Or.inr (by decide))]; exact z112
  have g118 : ∀ a9 : Nat, a9 ≠ v → q_j f115 a9 0 = q_j f a9 0 := tk_on_tr g113 (fun a9 h9 => by rw [ef115, q_setj (Or.inl h9)])
  refine q_ald_n cx dX5_copyFrom_16 rfl (lv_at hl 0 rfl) ?_
  refine q_ald_n cx dX5_copyFrom_17 rfl (lv_at hl 1 rfl) ?_
  obtain ⟨x119, ex119⟩ : ∃ zz, q_is (q_z f115 p0 2) zz := ⟨_, q_isr _⟩
  refine q_gX5_16 cx hB hp0 kp0 ex119 dX5_copyFrom_18 (fun lb120 ub120 => ?_)
  refine q_pX5_16_18 cx hB hv kv ⟨by omega, by omega⟩ (by omega) (by omega) rfl dX5_copyFrom_21 (fun H locs f121 ef121 z122 hB => ?_)
  have z123 : q_is (q_z f121 p0 2) x119 := by rw [ef121, q_setz (Or.inl (fun q => by rw [q, kv] at kp0; exact absurd kp0 (by decide)))]; exact ex119
  have z124 : q_j f121 v 0 = j110 := by rw [ef121, q_setj (Or.inr (by decide))]; exact z117
  have z125 : q_j f121 v 1 = j114 := by rw [ef121, q_setj (Or.inr (by decide))]; exact z116
  have g126 : ∀ a9 : Nat, a9 ≠ v → q_j f121 a9 0 = q_j f a9 0 := tk_on_tr g118 (fun a9 h9 => by rw [ef121, q_setj (Or.inl h9)])
  refine q_ald_n cx dX5_copyFrom_24 rfl (lv_at hl 0 rfl) ?_
  refine q_ald_n cx dX5_copyFrom_25 rfl (lv_at hl 1 rfl) ?_
  obtain ⟨x127, ex127⟩ : ∃ zz, q_is (q_z f121 p0 3) zz := ⟨_, q_isr _⟩
  refine q_gX5_20 cx hB hp0 kp0 ex127 dX5_copyFrom_26 (fun lb128 ub128 => ?_)
  refine q_pX5_20_18 cx hB hv kv ⟨by omega, by omega⟩ (by omega) (by omega) rfl dX5_copyFrom_29 (fun H locs f129 ef129 z130 hB => ?_)
  have z131 : q_is (q_z f129 p0 2) x119 := by rw [ef129, q_setz (Or.inr (by decide))]; exact z123
  have z132 : q_is (q_z f129 v 2) x119 := by rw [ef129, q_setz (Or.inr (by decide))]; exact z122
  have z133 : q_is (q_z f129 p0 3) x127 := by rw [ef129, q_setz (Or.inl (fun q => by rw [q, kv] at kp0; exact absurd kp0 (by decide)))]; exact ex127
  have z134 : q_j f129 v 0 = j110 := by rw [ef129, q_setj (Or.inr (by decide))]; exact z124
  have z135 : q_j f129 v 1 = j114 := by rw [ef129, q_setj (Or.inr (by decide))]; exact z125
  have g136 : ∀ a9 : Nat, a9 ≠ v → q_j f129 a9 0 = q_j f a9 0 := tk_on_tr g126 (fun a9 h9 => by rw [ef129, q_setj (Or.inl h9)])
  refine q_ald_n cx dX5_copyFrom_32 rfl (lv_at hl 0 rfl) ?_
  refine q_ald_n cx dX5_copyFrom_33 rfl (lv_at hl 1 rfl) ?_
  obtain ⟨x137, ex137⟩ : ∃ zz, q_is (q_z f129 p0 4) zz := ⟨_, q_isr _⟩
  refine q_gX5_23 cx hB hp0 kp0 ex137 dX5_copyFrom_34 (fun lb138 ub138 => ?_)
  refine q_pX5_23_18 cx hB hv kv ⟨by omega, by omega⟩ (by omega) (by omega) rfl dX5_copyFrom_37 (fun H locs f139 ef139 z140 hB => ?_)
  have z141 : q_is (q_z f139 p0 2) x119 := by rw [ef139, q_setz (Or.inr (by decide))]; exact z131
  have z142 : q_is (q_z f139 v 2) x119 := by rw [ef139, q_setz (Or.inr (by decide))]; exact z132
  have z143 : q_is (q_z f139 p0 3) x127 := by rw [ef139, q_setz (Or.inr (by decide))]; exact z133
  have z144 : q_is (q_z f139 v 3) x127 := by rw [ef139, q_setz (Or.inr (by decide))]; exact z130
  have z145 : q_is (q_z f139 p0 4) x137 := by rw [ef139, q_setz (Or.inl (fun q => by rw [q, kv] at kp0; exact absurd kp0 (by decide)))]; exact ex137
  have z146 : q_j f139 v 0 = j110 := by rw [ef139, q_setj (Or.inr (by decide))]; exact z134
  have z147 : q_j f139 v 1 = j114 := by rw [ef139, q_setj (Or.inr (by decide))]; exact z135
  have g148 : ∀ a9 : Nat, a9 ≠ v → q_j f139 a9 0 = q_j f a9 0 := tk_on_tr g136 (fun a9 h9 => by rw [ef139, q_setj (Or.inl h9)])
  refine q_ald_n cx dX5_copyFrom_40 rfl (lv_at hl 0 rfl) ?_
  refine q_ald_n cx dX5_copyFrom_41 rfl (lv_at hl 1 rfl) ?_
  obtain ⟨x149, ex149⟩ : ∃ zz, q_is (q_z f139 p0 5) zz := ⟨_, q_isr _⟩
  refine q_gX5_26 cx hB hp0 kp0 ex149 dX5_copyFrom_42 (fun lb150 ub150 => ?_)
  refine q_pX5_26_18 cx hB hv kv ⟨by omega, by omega⟩ (by omega) (by omega) rfl dX5_copyFrom_45 (fun H locs f151 ef151 z152 hB => ?_)
  have z153 : q_is (q_z f151 p0 2) x119 := by rw [ef151, q_setz (Or.inr (by decide))]; exact z141
  have z154 : q_is (q_z f151 v 2) x119 := by rw [ef151, q_setz (Or.inr (by decide))]; exact z142
  have z155 : q_is (q_z f151 p0 3) x127 := by rw [ef151, q_setz (Or.inr (by decide))]; exact z143
  have z156 : q_is (q_z f151 v 3) x127 := by rw [ef151, q_setz (Or.inr (by decide))]; exact z144
  have z157 : q_is (q_z f151 p0 4) x137 := by rw [ef151, q_setz (Or.inr (by decide))]; exact z145
  have z158 : q_is (q_z f151 v 4) x137 := by rw [ef151, q_setz (Or.inr (by decide))]; exact z140
  have z159 : q_is (q_z f151 p0 5) x149 := by rw [ef151, q_setz (Or.inl (fun q => by rw [q, kv] at kp0; exact absurd kp0 (by decide)))]; exact ex149
  have z160 : q_j f151 v 0 = j110 := by rw [ef151, q_setj (Or.inr (by decide))]; exact z146
  have z161 : q_j f151 v 1 = j114 := by rw [ef151, q_setj (Or.inr (by decide))]; exact z147
  have g162 : ∀ a9 : Nat, a9 ≠ v → q_j f151 a9 0 = q_j f a9 0 := tk_on_tr g148 (fun a9 h9 => by rw [ef151, q_setj (Or.inl h9)])
  refine q_ald_n cx dX5_copyFrom_48 rfl (lv_at hl 0 rfl) ?_
  refine q_ald_n cx dX5_copyFrom_49 rfl (lv_at hl 1 rfl) ?_
  obtain ⟨x163, ex163⟩ : ∃ zz, q_is (q_z f151 p0 6) zz := ⟨_, q_isr _⟩
  refine q_gX5_29 cx hB hp0 kp0 ex163 dX5_copyFrom_50 (fun lb164 ub164 => ?_)
  refine q_pX5_29_18 cx hB hv kv ⟨by omega, by omega⟩ (by omega) (by omega) rfl dX5_copyFrom_53 (fun H locs f165 ef165 z166 hB => ?_)
  have z167 : q_is (q_z f165 p0 2) x119 := by rw [ef165, q_setz (Or.inr (by decide))]; exact z153
  have z168 : q_is (q_z f165 v 2) x119 := by rw [ef165, q_setz (Or.inr (by decide))]; exact z154
  have z169 : q_is (q_z f165 p0 3) x127 := by rw [ef165, q_setz (Or.inr (by decide))]; exact z155
  have z170 : q_is (q_z f165 v 3) x127 := by rw [ef165, q_setz (Or.inr (by decide))]; exact z156
  have z171 : q_is (q_z f165 p0 4) x137 := by rw [ef165, q_setz (Or.inr (by decide))]; exact z157
  have z172 : q_is (q_z f165 v 4) x137 := by rw [ef165, q_setz (Or.inr (by decide))]; exact z158
  have z173 : q_is (q_z f165 p0 5) x149 := by rw [ef165, q_setz (Or.inr (by decide))]; exact z159
  have z174 : q_is (q_z f165 v 5) x149 := by rw [ef165, q_setz (Or.inr (by decide))]; exact z152
  have z175 : q_is (q_z f165 p0 6) x163 := by rw [ef165, q_setz (Or.inl (fun q => by rw [q, kv] at kp0; exact absurd kp0 (by decide)))]; exact ex163
  have z176 : q_j f165 v 0 = j110 := by rw [ef165, q_setj (Or.inr (by decide))]; exact z160
  have z177 : q_j f165 v 1 = j114 := by rw [ef165, q_setj (Or.inr (by decide))]; exact z161
  have g178 : ∀ a9 : Nat, a9 ≠ v → q_j f165 a9 0 = q_j f a9 0 := tk_on_tr g162 (fun a9 h9 => by rw [ef165, q_setj (Or.inl h9)])
  refine q_ald_n cx dX5_copyFrom_56 rfl (lv_at hl 0 rfl) ?_
  refine q_ald_n cx dX5_copyFrom_57 rfl (lv_at hl 1 rfl) ?_
  obtain ⟨x179, ex179⟩ : ∃ zz, q_is (q_z f165 p0 7) zz := ⟨_, q_isr _⟩
  refine q_gX5_32 cx hB hp0 kp0 ex179 dX5_copyFrom_58 (fun lb180 ub180 => ?_)
  refine q_pX5_32_18 cx hB hv kv ⟨by omega, by omega⟩ (by omega) (by omega) rfl dX5_copyFrom_61 (fun H locs f181 ef181 z182 hB => ?_)
  have z183 : q_is (q_z f181 p0 2) x119 := by rw [ef181, q_setz (Or.inr (by decide))]; exact z167
  have z184 : q_is (q_z f181 v 2) x119 := by rw [ef181, q_setz (Or.inr (by decide))]; exact z168
  have z185 : q_is (q_z f181 p0 3) x127 := by rw [ef181, q_setz (Or.inr (by decide))]; exact z169
  have z186 : q_is (q_z f181 v 3) x127 := by rw [ef181, q_setz (Or.inr (by decide))]; exact z170
  have z187 : q_is (q_z f181 p0 4) x137 := by rw [ef181, q_setz (Or.inr (by decide))]; exact z171
  have z188 : q_is (q_z f181 v 4) x137 := by rw [ef181, q_setz (Or.inr (by decide))]; exact z172
  have z189 : q_is (q_z f181 p0 5) x149 := by rw [ef181, q_setz (Or.inr (by decide))]; exact z173
  have z190 : q_is (q_z f181 v 5) x149 := by rw [ef181, q_setz (Or.inr (by decide))]; exact z174
  have z191 : q_is (q_z f181 p0 6) x163 := by rw [ef181, q_setz (Or.inr (by decide))]; exact z175
  have z192 : q_is (q_z f181 v 6) x163 := by rw [ef181, q_setz (Or.inr (by decide))]; exact z166
  have z193 : q_is (q_z f181 p0 7) x179 := by rw [ef181, q_setz (Or.inl (fun q => by rw [q, kv] at kp0; exact absurd kp0 (by decide)))]; exact ex179
  have z194 : q_j f181 v 0 = j110 := by rw [ef181, q_setj (Or.inr (by decide))]; exact z176
  have z195 : q_j f181 v 1 = j114 := by rw [ef181, q_setj (Or.inr (by decide))]; exact z177
  have g196 : ∀ a9 : Nat, a9 ≠ v → q_j f181 a9 0 = q_j f a9 0 := tk_on_tr g178 (fun a9 h9 => by rw [ef181, q_setj (Or.inl h9)])
  refine q_ald_n cx dX5_copyFrom_64 rfl (lv_at hl 0 rfl) ?_
  refine q_ald_n cx dX5_copyFrom_65 rfl (lv_at hl 1 rfl) ?_
  obtain ⟨x197, ex197⟩ : ∃ zz, q_is (q_z f181 p0 8) zz := ⟨_, q_isr _⟩
  refine q_gX5_35 cx hB hp0 kp0 ex197 dX5_copyFrom_66 (fun lb198 ub198 => ?_)
  refine q_pX5_35_18 cx hB hv kv ⟨by omega, by omega⟩ (by omega) (by omega) rfl dX5_copyFrom_69 (fun H locs f199 ef199 z200 hB => ?_)
  have z201 : q_is (q_z f199 p0 2) x119 := by rw [ef199, q_setz (Or.inr (by decide))]; exact z183
  have z202 : q_is (q_z f199 v 2) x119 := by rw [ef199, q_setz (Or.inr (by decide))]; exact z184
  have z203 : q_is (q_z f199 p0 3) x127 := by rw [ef199, q_setz (Or.inr (by decide))]; exact z185
  have z204 : q_is (q_z f199 v 3) x127 := by rw [ef199, q_setz (Or.inr (by decide))]; exact z186
  have z205 : q_is (q_z f199 p0 4) x137 := by rw [ef199, q_setz (Or.inr (by decide))]; exact z187
  have z206 : q_is (q_z f199 v 4) x137 := by rw [ef199, q_setz (Or.inr (by decide))]; exact z188
  have z207 : q_is (q_z f199 p0 5) x149 := by rw [ef199, q_setz (Or.inr (by decide))]; exact z189
  have z208 : q_is (q_z f199 v 5) x149 := by rw [ef199, q_setz (Or.inr (by decide))]; exact z190
  have z209 : q_is (q_z f199 p0 6) x163 := by rw [ef199, q_setz (Or.inr (by decide))]; exact z191
  have z210 : q_is (q_z f199 v 6) x163 := by rw [ef199, q_setz (Or.inr (by decide))]; exact z192
  have z211 : q_is (q_z f199 p0 7) x179 := by rw [ef199, q_setz (Or.inr (by decide))]; exact z193
  have z212 : q_is (q_z f199 v 7) x179 := by rw [ef199, q_setz (Or.inr (by decide))]; exact z182
  have z213 : q_is (q_z f199 p0 8) x197 := by rw [ef199, q_setz (Or.inl (fun q => by rw [q, kv] at kp0; exact absurd kp0 (by decide)))]; exact ex197
  have z214 : q_j f199 v 0 = j110 := by rw [ef199, q_setj (Or.inr (by decide))]; exact z194
  have z215 : q_j f199 v 1 = j114 := by rw [ef199, q_setj (Or.inr (by decide))]; exact z195
  have g216 : ∀ a9 : Nat, a9 ≠ v → q_j f199 a9 0 = q_j f a9 0 := tk_on_tr g196 (fun a9 h9 => by rw [ef199, q_setj (Or.inl h9)])
  refine q_vret cx hr hlk hB dX5_copyFrom_72 ?_
  exact ⟨(Eq.trans z214 ej110.symm), g216⟩
set_option maxHeartbeats 4000000 in
set_option maxRecDepth 100000 in
theorem f_ncopy04 (l : Launch) (g : q_G) {K : Nat → Nat} {L : List Nat} (hN : L.Nodup) {f : Nat → va_E} (hT : q_Ty g K L f) (v : Nat) (hv : v ∈ L) (kv : K v = 5) (p0 : Nat) (hp0 : p0 ∈ L) (kp0 : K p0 = 20) : q_Ct l g K L yX5_copyFrom cX5_copyFrom 2 none 0 0 [.ref v, .ref p0] f [(5, 0, 8)] (q_Pv (fun (f1 : Nat → va_E) => (q_j f1 v 0 = q_j f p0 0) ∧ (∀ a9 : Nat, a9 ≠ v → q_j f1 a9 0 = q_j f a9 0))) := by
  refine q_ofb (by decide +kernel) hN hT (Nat.le_of_ble_eq_true rfl) ?_
  intro p e s m below meth c ls cx hr hlk hB hl
  have hl : lv_has ls 2 [(0, .ref v), (1, .ref p0)] := hl
  obtain ⟨H, hH⟩ : ∃ H : Heap, H = s.heap := ⟨_, rfl⟩
  obtain ⟨locs, hlocs⟩ : ∃ z : List Loc, z = [] := ⟨_, rfl⟩
  rw [← hH, ← hlocs] at hB
  rw [← hH, ← hlocs]
  have g109 : ∀ a9 : Nat, a9 ≠ v → q_j f a9 0 = q_j f a9 0 := fun _ _ => rfl
  refine q_ald_n cx dX5_copyFrom_0 rfl (lv_at hl 0 rfl) ?_
  refine q_ald_n cx dX5_copyFrom_1 rfl (lv_at hl 1 rfl) ?_
  obtain ⟨j110, ej110⟩ : ∃ zz, q_j f p0 0 = zz := ⟨_, rfl⟩
  refine q_gX5_7_20 cx hB hp0 kp0 ej110 dX5_copyFrom_2 ?_
  refine q_pX5_7 cx hB hv kv rfl dX5_copyFrom_5 (fun H locs f111 ef111 z112 hB => ?_)
  have g113 : ∀ a9 : Nat, a9 ≠ v → q_j f111 a9 0 = q_j f a9 0 := tk_on_tr g109 (fun a9 h9 => by rw [ef111, q_setj (Or.inl h9)])
  refine q_ald_n cx dX5_copyFrom_8 rfl (lv_at hl 0 rfl) ?_
  refine q_ald_n cx dX5_copyFrom_9 rfl (lv_at hl 1 rfl) ?_
  obtain ⟨j114, ej114⟩ : ∃ zz, q_j f111 p0 1 = zz := ⟨_, rfl⟩
  refine q_gX5_13_20 cx hB hp0 kp0 ej114 dX5_copyFrom_10 ?_
  refine q_pX5_13 cx hB hv kv rfl dX5_copyFrom_13 (fun H locs f115 ef115 z116 hB => ?_)
  have z117 : q_j f115 v 0 = j110 := by rw [ef115, q_setj (Or.inr (by decide))]; exact z112
  have g118 : ∀ a9 : Nat, a9 ≠ v → q_j f115 a9 0 = q_j f a9 0 := tk_on_tr g113 (fun a9 h9 => by rw [ef115, q_setj (Or.inl h9)])
  refine q_ald_n cx dX5_copyFrom_16 rfl (lv_at hl 0 rfl) ?_
  refine q_ald_n cx dX5_copyFrom_17 rfl (lv_at hl 1 rfl) ?_
  obtain ⟨x119, ex119⟩ : ∃ zz, q_is (q_z f115 p0 2) zz := ⟨_, q_isr _⟩
  refine q_gX5_16_20 cx hB hp0 kp0 ex119 dX5_copyFrom_18 (fun lb120 ub120 => ?_)
  refine q_pX5_16 cx hB hv kv ⟨by omega, by omega⟩ (by omega) (by omega) rfl dX5_copyFrom_21 (fun H locs f121 ef121 z122 hB => ?_)
  have z123 : q_is (q_z f121 p0 2) x119 := by rw [ef121, q_setz (Or.inl (fun q => by rw [q, kv] at kp0; exact absurd kp0 (by decide)))]; exact ex119
  have z124 : q_j f121 v 0 = j110 := by rw [ef121, q_setj (Or.inr (by decide))]; exact z117
  have z125 : q_j f121 v 1 = j114 := by rw [ef121, q_setj (Or.inr (by decide))]; exact z116
  have g126 : ∀ a9 : Nat, a9 ≠ v → q_j f121 a9 0 = q_j f a9 0 := tk_on_tr g118 (fun a9 h9 => by rw [ef121, q_setj (Or.inl h9)])
  refine q_ald_n cx dX5_copyFrom_24 rfl (lv_at hl 0 rfl) ?_
  refine q_ald_n cx dX5_copyFrom_25 rfl (lv_at hl 1 rfl) ?_
  obtain ⟨x127, ex127⟩ : ∃ zz, q_is (q_z f121 p0 3) zz := ⟨_, q_isr _⟩
  refine q_gX5_20_20 cx hB hp0 kp0 ex127 dX5_copyFrom_26 (fun lb128 ub128 => ?_)
  refine q_pX5_20 cx hB hv kv ⟨by omega, by omega⟩ (by omega) (by omega) rfl dX5_copyFrom_29 (fun H locs f129 ef129 z130 hB => ?_)
  have z131 : q_is (q_z f129 p0 2) x119 := by rw [ef129, q_setz (Or.inr (by decide))]; exact z123
  have z132 : q_is (q_z f129 v 2) x119 := by rw [ef129, q_setz (Or.inr (by decide))]; exact z122
  have z133 : q_is (q_z f129 p0 3) x127 := by rw [ef129, q_setz (Or.inl (fun q => by rw [q, kv] at kp0; exact absurd kp0 (by decide)))]; exact ex127
  have z134 : q_j f129 v 0 = j110 := by rw [ef129, q_setj (Or.inr (by decide))]; exact z124
  have z135 : q_j f129 v 1 = j114 := by rw [ef129, q_setj (Or.inr (by decide))]; exact z125
  have g136 : ∀ a9 : Nat, a9 ≠ v → q_j f129 a9 0 = q_j f a9 0 := tk_on_tr g126 (fun a9 h9 => by rw [ef129, q_setj (Or.inl h9)])
  refine q_ald_n cx dX5_copyFrom_32 rfl (lv_at hl 0 rfl) ?_
  refine q_ald_n cx dX5_copyFrom_33 rfl (lv_at hl 1 rfl) ?_
  obtain ⟨x137, ex137⟩ : ∃ zz, q_is (q_z f129 p0 4) zz := ⟨_, q_isr _⟩
  refine q_gX5_23_20 cx hB hp0 kp0 ex137 dX5_copyFrom_34 (fun lb138 ub138 => ?_)
  refine q_pX5_23 cx hB hv kv ⟨by omega, by omega⟩ (by omega) (by omega) rfl dX5_copyFrom_37 (fun H locs f139 ef139 z140 hB => ?_)
  have z141 : q_is (q_z f139 p0 2) x119 := by rw [ef139, q_setz (Or.inr (by decide))]; exact z131
  have z142 : q_is (q_z f139 v 2) x119 := by rw [ef139, q_setz (Or.inr (by decide))]; exact z132
  have z143 : q_is (q_z f139 p0 3) x127 := by rw [ef139, q_setz (Or.inr (by decide))]; exact z133
  have z144 : q_is (q_z f139 v 3) x127 := by rw [ef139, q_setz (Or.inr (by decide))]; exact z130
  have z145 : q_is (q_z f139 p0 4) x137 := by rw [ef139, q_setz (Or.inl (fun q => by rw [q, kv] at kp0; exact absurd kp0 (by decide)))]; exact ex137
  have z146 : q_j f139 v 0 = j110 := by rw [ef139, q_setj (Or.inr (by decide))]; exact z134
  have z147 : q_j f139 v 1 = j114 := by rw [ef139, q_setj (Or.inr (by decide))]; exact z135
  have g148 : ∀ a9 : Nat, a9 ≠ v → q_j f139 a9 0 = q_j f a9 0 := tk_on_tr g136 (fun a9 h9 => by rw [ef139, q_setj (Or.inl h9)])
  refine q_ald_n cx dX5_copyFrom_40 rfl (lv_at hl 0 rfl) ?_
  refine q_ald_n cx dX5_copyFrom_41 rfl (lv_at hl 1 rfl) ?_
  obtain ⟨x149, ex149⟩ : ∃ zz, q_is (q_z f139 p0 5) zz := ⟨_, q_isr _⟩
  refine q_gX5_26_20 cx hB hp0 kp0 ex149 dX5_copyFrom_42 (fun lb150 ub150 => ?_)
  refine q_pX5_26 cx hB hv kv ⟨by omega, by omega⟩ (by omega) (by omega) rfl dX5_copyFrom_45 (fun H locs f151 ef151 z152 hB => ?_)
  have z153 : q_is (q_z f151 p0 2) x119 := by rw [ef151, q_setz (Or.inr (by decide))]; exact z141
  have z154 : q_is (q_z f151 v 2) x119 := by rw [ef151, q_setz (Or.inr (by decide))]; exact z142
  have z155 : q_is (q_z f151 p0 3) x127 := by rw [ef151, q_setz (Or.inr (by decide))]; exact z143
  have z156 : q_is (q_z f151 v 3) x127 := by rw [ef151, q_setz (Or.inr (by decide))]; exact z144
  have z157 : q_is (q_z f151 p0 4) x137 := by rw [ef151, q_setz (Or.inr (by decide))]; exact z145
  have z158 : q_is (q_z f151 v 4) x137 := by rw [ef151, q_setz (Or.inr (by decide))]; exact z140
  have z159 : q_is (q_z f151 p0 5) x149 := by rw [ef151, q_setz (Or.inl (fun q => by rw [q, kv] at kp0; exact absurd kp0 (by decide)))]; exact ex149
  have z160 : q_j f151 v 0 = j110 := by rw [ef151, q_setj (Or.inr (by decide))]; exact z146
  have z161 : q_j f151 v 1 = j114 := by rw [ef151, q_setj (Or.inr (by decide))]; exact z147
  have g162 : ∀ a9 : Nat, a9 ≠ v → q_j f151 a9 0 = q_j f a9 0 := tk_on_tr g148 (fun a9 h9 => by rw [ef151, q_setj (Or.inl h9)])
  refine q_ald_n cx dX5_copyFrom_48 rfl (lv_at hl 0 rfl) ?_
  refine q_ald_n cx dX5_copyFrom_49 rfl (lv_at hl 1 rfl) ?_
  obtain ⟨x163, ex163⟩ : ∃ zz, q_is (q_z f151 p0 6) zz := ⟨_, q_isr _⟩
  refine q_gX5_29_20 cx hB hp0 kp0 ex163 dX5_copyFrom_50 (fun lb164 ub164 => ?_)
  refine q_pX5_29 cx hB hv kv ⟨by omega, by omega⟩ (by omega) (by omega) rfl dX5_copyFrom_53 (fun H locs f165 ef165 z166 hB => ?_)
  have z167 : q_is (q_z f165 p0 2) x119 := by rw [ef165, q_setz (Or.inr (by decide))]; exact z153
  have z168 : q_is (q_z f165 v 2) x119 := by rw [ef165, q_setz (Or.inr (by decide))]; exact z154
  have z169 : q_is (q_z f165 p0 3) x127 := by rw [ef165, q_setz (Or.inr (by decide))]; exact z155
  have z170 : q_is (q_z f165 v 3) x127 := by rw [ef165, q_setz (Or.inr (by decide))]; exact z156
  have z171 : q_is (q_z f165 p0 4) x137 := by rw [ef165, q_setz (Or.inr (by decide))]; exact z157
  have z172 : q_is (q_z f165 v 4) x137 := by rw [ef165, q_setz (Or.inr (by decide))]; exact z158
  have z173 : q_is (q_z f165 p0 5) x149 := by rw [ef165, q_setz (Or.inr (by decide))]; exact z159
  have z174 : q_is (q_z f165 v 5) x149 := by rw [ef165, q_setz (Or.inr (by decide))]; exact z152
  have z175 : q_is (q_z f165 p0 6) x163 := by rw [ef165, q_setz (Or.inl (fun q => by rw [q, kv] at kp0; exact absurd kp0 (by decide)))]; exact ex163
  have z176 : q_j f165 v 0 = j110 := by rw [ef165, q_setj (Or.inr (by decide))]; exact z160
  have z177 : q_j f165 v 1 = j114 := by rw [ef165, q_setj (Or.inr (by decide))]; exact z161
  have g178 : ∀ a9 : Nat, a9 ≠ v → q_j f165 a9 0 = q_j f a9 0 := tk_on_tr g162 (fun a9 h9 => by rw [ef165, q_setj (Or.inl h9)])
  refine q_ald_n cx dX5_copyFrom_56 rfl (lv_at hl 0 rfl) ?_
  refine q_ald_n cx dX5_copyFrom_57 rfl (lv_at hl 1 rfl) ?_
  obtain ⟨x179, ex179⟩ : ∃ zz, q_is (q_z f165 p0 7) zz := ⟨_, q_isr _⟩
  refine q_gX5_32_20 cx hB hp0 kp0 ex179 dX5_copyFrom_58 (fun lb180 ub180 => ?_)
  refine q_pX5_32 cx hB hv kv ⟨by omega, by omega⟩ (by omega) (by omega) rfl dX5_copyFrom_61 (fun H locs f181 ef181 z182 hB => ?_)
  have z183 : q_is (q_z f181 p0 2) x119 := by rw [ef181, q_setz (Or.inr (by decide))]; exact z167
  have z184 : q_is (q_z f181 v 2) x119 := by rw [ef181, q_setz (Or.inr (by decide))]; exact z168
  have z185 : q_is (q_z f181 p0 3) x127 := by rw [ef181, q_setz (Or.inr (by decide))]; exact z169
  have z186 : q_is (q_z f181 v 3) x127 := by rw [ef181, q_setz (Or.inr (by decide))]; exact z170
  have z187 : q_is (q_z f181 p0 4) x137 := by rw [ef181, q_setz (Or.inr (by decide))]; exact z171
  have z188 : q_is (q_z f181 v 4) x137 := by rw [ef181, q_setz (Or.inr (by decide))]; exact z172
  have z189 : q_is (q_z f181 p0 5) x149 := by rw [ef181, q_setz (Or.inr (by decide))]; exact z173
  have z190 : q_is (q_z f181 v 5) x149 := by rw [ef181, q_setz (Or.inr (by decide))]; exact z174
  have z191 : q_is (q_z f181 p0 6) x163 := by rw [ef181, q_setz (Or.inr (by decide))]; exact z175
  have z192 : q_is (q_z f181 v 6) x163 := by rw [ef181, q_setz (Or.inr (by decide))]; exact z166
  have z193 : q_is (q_z f181 p0 7) x179 := by rw [ef181, q_setz (Or.inl (fun q => by rw [q, kv] at kp0; exact absurd kp0 (by decide)))]; exact ex179
  have z194 : q_j f181 v 0 = j110 := by rw [ef181, q_setj (Or.inr (by decide))]; exact z176
  have z195 : q_j f181 v 1 = j114 := by rw [ef181, q_setj (Or.inr (by decide))]; exact z177
  have g196 : ∀ a9 : Nat, a9 ≠ v → q_j f181 a9 0 = q_j f a9 0 := tk_on_tr g178 (fun a9 h9 => by rw [ef181, q_setj (Or.inl h9)])
  refine q_ald_n cx dX5_copyFrom_64 rfl (lv_at hl 0 rfl) ?_
  refine q_ald_n cx dX5_copyFrom_65 rfl (lv_at hl 1 rfl) ?_
  obtain ⟨x197, ex197⟩ : ∃ zz, q_is (q_z f181 p0 8) zz := ⟨_, q_isr _⟩
  refine q_gX5_35_20 cx hB hp0 kp0 ex197 dX5_copyFrom_66 (fun lb198 ub198 => ?_)
  refine q_pX5_35 cx hB hv kv ⟨by omega, by omega⟩ (by omega) (by omega) rfl dX5_copyFrom_69 (fun H locs f199 ef199 z200 hB => ?_)
  have z201 : q_is (q_z f199 p0 2) x119 := by rw [ef199, q_setz (Or.inr (by decide))]; exact z183
  have z202 : q_is (q_z f199 v 2) x119 := by rw [ef199, q_setz (Or.inr (by decide))]; exact z184
  have z203 : q_is (q_z f199 p0 3) x127 := by rw [ef199, q_setz (Or.inr (by decide))]; exact z185
  have z204 : q_is (q_z f199 v 3) x127 := by rw [ef199, q_setz (Or.inr (by decide))]; exact z186
  have z205 : q_is (q_z f199 p0 4) x137 := by rw [ef199, q_setz (Or.inr (by decide))]; exact z187
  have z206 : q_is (q_z f199 v 4) x137 := by rw [ef199, q_setz (Or.inr (by decide))]; exact z188
  have z207 : q_is (q_z f199 p0 5) x149 := by rw [ef199, q_setz (Or.inr (by decide))]; exact z189
  have z208 : q_is (q_z f199 v 5) x149 := by rw [ef199, q_setz (Or.inr (by decide))]; exact z190
  have z209 : q_is (q_z f199 p0 6) x163 := by rw [ef199, q_setz (Or.inr (by decide))]; exact z191
  have z210 : q_is (q_z f199 v 6) x163 := by rw [ef199, q_setz (Or.inr (by decide))]; exact z192
  have z211 : q_is (q_z f199 p0 7) x179 := by rw [ef199, q_setz (Or.inr (by decide))]; exact z193
  have z212 : q_is (q_z f199 v 7) x179 := by rw [ef199, q_setz (Or.inr (by decide))]; exact z182
  have z213 : q_is (q_z f199 p0 8) x197 := by rw [ef199, q_setz (Or.inl (fun q => by rw [q, kv] at kp0; exact absurd kp0 (by decide)))]; exact ex197
  have z214 : q_j f199 v 0 = j110 := by rw [ef199, q_setj (Or.inr (by decide))]; exact z194
  have z215 : q_j f199 v 1 = j114 := by rw [ef199, q_setj (Or.inr (by decide))]; exact z195
  have g216 : ∀ a9 : Nat, a9 ≠ v → q_j f199 a9 0 = q_j f a9 0 := tk_on_tr g196 (fun a9 h9 => by rw [ef199, q_setj (Or.inl h9)])
  refine q_vret cx hr hlk hB dX5_copyFrom_72 ?_
  exact ⟨(Eq.trans z214 ej110.symm), g216⟩
