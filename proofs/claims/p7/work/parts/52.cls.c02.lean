set_option maxHeartbeats 4000000 in
set_option maxRecDepth 100000 in
theorem g_X3_copyFrom_20 (l : Launch) (g : q_G) {K : Nat → Nat} {L : List Nat} (hN : L.Nodup) {f : Nat → va_E} (hT : q_Ty g K L f) (v : Nat) (hv : v ∈ L) (kv : K v = 22) (p0 : Nat) (hp0 : p0 ∈ L) (kp0 : K p0 = 3) : q_Ct l g K L yX3_copyFrom cX3_copyFrom 2 none 0 0 [.ref v, .ref p0] f [(22, 0, 4)] (q_Pv (fun (f1 : Nat → va_E) => True)) := by
  refine q_ofb (by decide +kernel) hN hT (Nat.le_of_ble_eq_true rfl) ?_
  intro p e s m below meth c ls cx hr hlk hB hl
  have hl : lv_has ls 2 [(0, .ref v), (1, .ref p0)] := hl
  obtain ⟨H, hH⟩ : ∃ H : Heap, H = s.heap := ⟨_, rfl⟩
  obtain ⟨locs, hlocs⟩ : ∃ z : List Loc, z = [] := ⟨_, rfl⟩
  rw [← hH, ← hlocs] at hB
  rw [← hH, ← hlocs]
  refine q_ald_n cx dX3_copyFrom_0 rfl (lv_at hl 0 rfl) ?_
  refine q_ald_n cx dX3_copyFrom_1 rfl (lv_at hl 1 rfl) ?_
  obtain ⟨x46, ex46⟩ : ∃ zz, q_is (q_z f p0 0) zz := ⟨_, q_isr _⟩
  refine q_gX3_7 cx hB hp0 kp0 ex46 dX3_copyFrom_2 (fun lb47 ub47 => ?_)
  refine q_pX3_7_22 cx hB hv kv ⟨by omega, by omega⟩ (by omega) (by omega) rfl dX3_copyFrom_5 (fun H locs f48 ef48 z49 hB => ?_)
  have z50 : q_is (q_z f48 p0 0) x46 := by rw [ef48, q_setz (Or.inl (fun q => by rw [q, kv] at kp0; exact absurd kp0 (by decide)))]; exact ex46
  refine q_ald_n cx dX3_copyFrom_8 rfl (lv_at hl 0 rfl) ?_
  refine q_ald_n cx dX3_copyFrom_9 rfl (lv_at hl 1 rfl) ?_
  obtain ⟨x51, ex51⟩ : ∃ zz, q_is (q_z f48 p0 1) zz := ⟨_, q_isr _⟩
  refine q_gX3_13 cx hB hp0 kp0 ex51 dX3_copyFrom_10 (fun lb52 ub52 => ?_)
  refine q_pX3_13_22 cx hB hv kv ⟨by omega, by omega⟩ (by omega) (by omega) rfl dX3_copyFrom_13 (fun H locs f53 ef53 z54 hB => ?_)
  have z55 : q_is (q_z f53 p0 0) x46 := by rw [ef53, q_setz (Or.inr (by decide))]; exact z50
  have z56 : q_is (q_z f53 v 0) x46 := by rw [ef53, q_setz (Or.inr (by decide))]; exact z49
  have z57 : q_is (q_z f53 p0 1) x51 := by rw [ef53, q_setz (Or.inl (fun q => by rw [q, kv] at kp0; exact absurd kp0 (by decide)))]; exact ex51
  refine q_ald_n cx dX3_copyFrom_16 rfl (lv_at hl 0 rfl) ?_
  refine q_ald_n cx dX3_copyFrom_17 rfl (lv_at hl 1 rfl) ?_
  obtain ⟨x58, ex58⟩ : ∃ zz, q_is (q_z f53 p0 2) zz := ⟨_, q_isr _⟩
  refine q_gX3_16 cx hB hp0 kp0 ex58 dX3_copyFrom_18 (fun lb59 ub59 => ?_)
  refine q_pX3_16_22 cx hB hv kv ⟨by omega, by omega⟩ (by omega) (by omega) rfl dX3_copyFrom_21 (fun H locs f60 ef60 z61 hB => ?_)
  have z62 : q_is (q_z f60 p0 0) x46 := by rw [ef60, q_setz (Or.inr (by decide))]; exact z55
  have z63 : q_is (q_z f60 v 0) x46 := by rw [ef60, q_setz (Or.inr (by decide))]; exact z56
  have z64 : q_is (q_z f60 p0 1) x51 := by rw [ef60, q_setz (Or.inr (by decide))]; exact z57
  have z65 : q_is (q_z f60 v 1) x51 := by rw [ef60, q_setz (Or.inr (by decide))]; exact z54
  have z66 : q_is (q_z f60 p0 2) x58 := by rw [ef60, q_setz (Or.inl (fun q => by rw [q, kv] at kp0; exact absurd kp0 (by decide)))]; exact ex58
  refine q_ald_n cx dX3_copyFrom_24 rfl (lv_at hl 0 rfl) ?_
  refine q_ald_n cx dX3_copyFrom_25 rfl (lv_at hl 1 rfl) ?_
  obtain ⟨x67, ex67⟩ : ∃ zz, q_is (q_z f60 p0 3) zz := ⟨_, q_isr _⟩
  refine q_gX3_19 cx hB hp0 kp0 ex67 dX3_copyFrom_26 (fun lb68 ub68 => ?_)
  refine q_pX3_19_22 cx hB hv kv ⟨by omega, by omega⟩ (by omega) (by omega) rfl dX3_copyFrom_29 (fun H locs f69 ef69 z70 hB => ?_)
  have z71 : q_is (q_z f69 p0 0) x46 := by rw [ef69, q_setz (Or.inr (by decide))]; exact z62
  have z72 : q_is (q_z f69 v 0) x46 := by rw [ef69, q_setz (Or.inr (by decide))]; exact z63
  have z73 : q_is (q_z f69 p0 1) x51 := by rw [ef69, q_setz (Or.inr (by decide))]; exact z64
  have z74 : q_is (q_z f69 v 1) x51 := by rw [ef69, q_setz (Or.inr (by decide))]; exact z65
  have z75 : q_is (q_z f69 p0 2) x58 := by rw [ef69, q_setz (Or.inr (by decide))]; exact z66
  have z76 : q_is (q_z f69 v 2) x58 := by rw [ef69, q_setz (Or.inr (by decide))]; exact z61
  have z77 : q_is (q_z f69 p0 3) x67 := by rw [ef69, q_setz (Or.inl (fun q => by rw [q, kv] at kp0; exact absurd kp0 (by decide)))]; exact ex67
  refine q_ald_n cx dX3_copyFrom_32 rfl (lv_at hl 0 rfl) ?_
  refine q_ald_n cx dX3_copyFrom_33 rfl (lv_at hl 1 rfl) ?_
  obtain ⟨x78, ex78⟩ : ∃ zz, q_is (q_z f69 p0 4) zz := ⟨_, q_isr _⟩
  refine q_gX3_22 cx hB hp0 kp0 ex78 dX3_copyFrom_34 (fun lb79 ub79 => ?_)
  refine q_pX3_22_22 cx hB hv kv ⟨by omega, by omega⟩ (by omega) (by omega) rfl dX3_copyFrom_37 (fun H locs f80 ef80 z81 hB => ?_)
  have z82 : q_is (q_z f80 p0 0) x46 := by rw [ef80, q_setz (Or.inr (by decide))]; exact z71
  have z83 : q_is (q_z f80 v 0) x46 := by rw [ef80, q_setz (Or.inr (by decide))]; exact z72
  have z84 : q_is (q_z f80 p0 1) x51 := by rw [ef80, q_setz (Or.inr (by decide))]; exact z73
  have z85 : q_is (q_z f80 v 1) x51 := by rw [ef80, q_setz (Or.inr (by decide))]; exact z74
  have z86 : q_is (q_z f80 p0 2) x58 := by rw [ef80, q_setz (Or.inr (by decide))]; exact z75
  have z87 : q_is (q_z f80 v 2) x58 := by rw [ef80, q_setz (Or.inr (by decide))]; exact z76
  have z88 : q_is (q_z f80 p0 3) x67 := by rw [ef80, q_setz (Or.inr (by decide))]; exact z77
  have z89 : q_is (q_z f80 v 3) x67 := by rw [ef80, q_setz (Or.inr (by decide))]; exact z70
  have z90 : q_is (q_z f80 p0 4) x78 := by rw [ef80, q_setz (Or.inl (fun q => by rw [q, kv] at kp0; exact absurd kp0 (by decide)))]; exact ex78
  refine q_vret cx hr hlk hB dX3_copyFrom_40 ?_
  trivial
set_option maxHeartbeats 4000000 in
set_option maxRecDepth 100000 in
theorem g_X3_copyFrom_30 (l : Launch) (g : q_G) {K : Nat → Nat} {L : List Nat} (hN : L.Nodup) {f : Nat → va_E} (hT : q_Ty g K L f) (v : Nat) (hv : v ∈ L) (kv : K v = 23) (p0 : Nat) (hp0 : p0 ∈ L) (kp0 : K p0 = 3) : q_Ct l g K L yX3_copyFrom cX3_copyFrom 2 none 0 0 [.ref v, .ref p0] f [(23, 0, 4)] (q_Pv (fun (f1 : Nat → va_E) => True)) := by
  refine q_ofb (by decide +kernel) hN hT (Nat.le_of_ble_eq_true rfl) ?_
  intro p e s m below meth c ls cx hr hlk hB hl
  have hl : lv_has ls 2 [(0, .ref v), (1, .ref p0)] := hl
  obtain ⟨H, hH⟩ : ∃ H : Heap, H = s.heap := ⟨_, rfl⟩
  obtain ⟨locs, hlocs⟩ : ∃ z : List Loc, z = [] := ⟨_, rfl⟩
  rw [← hH, ← hlocs] at hB
  rw [← hH, ← hlocs]
  refine q_ald_n cx dX3_copyFrom_0 rfl (lv_at hl 0 rfl) ?_
  refine q_ald_n cx dX3_copyFrom_1 rfl (lv_at hl 1 rfl) ?_
  obtain ⟨x46, ex46⟩ : ∃ zz, q_is (q_z f p0 0) zz := ⟨_, q_isr _⟩
  refine q_gX3_7 cx hB hp0 kp0 ex46 dX3_copyFrom_2 (fun lb47 ub47 => ?_)
  refine q_pX3_7_23 cx hB hv kv ⟨by omega, by omega⟩ (by omega) (by omega) rfl dX3_copyFrom_5 (fun H locs f48 ef48 z49 hB => ?_)
  have z50 : q_is (q_z f48 p0 0) x46 := by rw [ef48, q_setz (Or.inl (fun q => by rw [q, kv] at kp0; exact absurd kp0 (by decide)))]; exact ex46
  refine q_ald_n cx dX3_copyFrom_8 rfl (lv_at hl 0 rfl) ?_
  refine q_ald_n cx dX3_copyFrom_9 rfl (lv_at hl 1 rfl) ?_
  obtain ⟨x51, ex51⟩ : ∃ zz, q_is (q_z f48 p0 1) zz := ⟨_, q_isr _⟩
  refine q_gX3_13 cx hB hp0 kp0 ex51 dX3_copyFrom_10 (fun lb52 ub52 => ?_)
  refine q_pX3_13_23 cx hB hv kv ⟨by omega, by omega⟩ (by omega) (by omega) rfl dX3_copyFrom_13 (fun H locs f53 ef53 z54 hB => ?_)
  have z55 : q_is (q_z f53 p0 0) x46 := by rw [ef53, q_setz (Or.inr (by decide))]; exact z50
  have z56 : q_is (q_z f53 v 0) x46 := by rw [ef53, q_setz (Or.inr (by decide))]; exact z49
  have z57 : q_is (q_z f53 p0 1) x51 := by rw [ef53, q_setz (Or.inl (fun q => by rw [q, kv] at kp0; exact absurd kp0 (by decide)))]; exact ex51
  refine q_ald_n cx dX3_copyFrom_16 rfl (lv_at hl 0 rfl) ?_
  refine q_ald_n cx dX3_copyFrom_17 rfl (lv_at hl 1 rfl) ?_
  obtain ⟨x58, ex58⟩ : ∃ zz, q_is (q_z f53 p0 2) zz := ⟨_, q_isr _⟩
  refine q_gX3_16 cx hB hp0 kp0 ex58 dX3_copyFrom_18 (fun lb59 ub59 => ?_)
  refine q_pX3_16_23 cx hB hv kv ⟨by omega, by omega⟩ (by omega) (by omega) rfl dX3_copyFrom_21 (fun H locs f60 ef60 z61 hB => ?_)
  have z62 : q_is (q_z f60 p0 0) x46 := by rw [ef60, q_setz (Or.inr (by decide))]; exact z55
  have z63 : q_is (q_z f60 v 0) x46 := by rw [ef60, q_setz (Or.inr (by decide))]; exact z56
  have z64 : q_is (q_z f60 p0 1) x51 := by rw [ef60, q_setz (Or.inr (by decide))]; exact z57
  have z65 : q_is (q_z f60 v 1) x51 := by rw [ef60, q_setz (Or.inr (by decide))]; exact z54
  have z66 : q_is (q_z f60 p0 2) x58 := by rw [ef60, q_setz (Or.inl (fun q => by rw [q, kv] at kp0; exact absurd kp0 (by decide)))]; exact ex58
  refine q_ald_n cx dX3_copyFrom_24 rfl (lv_at hl 0 rfl) ?_
  refine q_ald_n cx dX3_copyFrom_25 rfl (lv_at hl 1 rfl) ?_
  obtain ⟨x67, ex67⟩ : ∃ zz, q_is (q_z f60 p0 3) zz := ⟨_, q_isr _⟩
  refine q_gX3_19 cx hB hp0 kp0 ex67 dX3_copyFrom_26 (fun lb68 ub68 => ?_)
  refine q_pX3_19_23 cx hB hv kv ⟨by omega, by omega⟩ (by omega) (by omega) rfl dX3_copyFrom_29 (fun H locs f69 ef69 z70 hB => ?_)
  have z71 : q_is (q_z f69 p0 0) x46 := by rw [ef69, q_setz (Or.inr (by decide))]; exact z62
  have z72 : q_is (q_z f69 v 0) x46 := by rw [ef69, q_setz (Or.inr (by decide))]; exact z63
  have z73 : q_is (q_z f69 p0 1) x51 := by rw [ef69, q_setz (Or.inr (by decide))]; exact z64
  have z74 : q_is (q_z f69 v 1) x51 := by rw [ef69, q_setz (Or.inr (by decide))]; exact z65
  have z75 : q_is (q_z f69 p0 2) x58 := by rw [ef69, q_setz (Or.inr (by decide))]; exact z66
  have z76 : q_is (q_z f69 v 2) x58 := by rw [ef69, q_setz (Or.inr (by decide))]; exact z61
  have z77 : q_is (q_z f69 p0 3) x67 := by rw [ef69, q_setz (Or.inl (fun q => by rw [q, kv] at kp0; exact absurd kp0 (by decide)))]; exact ex67
  refine q_ald_n cx dX3_copyFrom_32 rfl (lv_at hl 0 rfl) ?_
  refine q_ald_n cx dX3_copyFrom_33 rfl (lv_at hl 1 rfl) ?_
  obtain ⟨x78, ex78⟩ : ∃ zz, q_is (q_z f69 p0 4) zz := ⟨_, q_isr _⟩
  refine q_gX3_22 cx hB hp0 kp0 ex78 dX3_copyFrom_34 (fun lb79 ub79 => ?_)
  refine q_pX3_22_23 cx hB hv kv ⟨by omega, by omega⟩ (by omega) (by omega) rfl dX3_copyFrom_37 (fun H locs f80 ef80 z81 hB => ?_)
  have z82 : q_is (q_z f80 p0 0) x46 := by rw [ef80, q_setz (Or.inr (by decide))]; exact z71
  have z83 : q_is (q_z f80 v 0) x46 := by rw [ef80, q_setz (Or.inr (by decide))]; exact z72
  have z84 : q_is (q_z f80 p0 1) x51 := by rw [ef80, q_setz (Or.inr (by decide))]; exact z73
  have z85 : q_is (q_z f80 v 1) x51 := by rw [ef80, q_setz (Or.inr (by decide))]; exact z74
  have z86 : q_is (q_z f80 p0 2) x58 := by rw [ef80, q_setz (Or.inr (by decide))]; exact z75
  have z87 : q_is (q_z f80 v 2) x58 := by rw [ef80, q_setz (Or.inr (by decide))]; exact z76
  have z88 : q_is (q_z f80 p0 3) x67 := by rw [ef80, q_setz (Or.inr (by decide))]; exact z77
  have z89 : q_is (q_z f80 v 3) x67 := by rw [ef80, q_setz (Or.inr (by decide))]; exact z70
  have z90 : q_is (q_z f80 p0 4) x78 := by rw [ef80, q_setz (Or.inl (fun q => by rw [q, kv] at kp0; exact absurd kp0 (by decide)))]; exact ex78
  refine q_vret cx hr hlk hB dX3_copyFrom_40 ?_
  trivial
set_option maxHeartbeats 4000000 in
set_option maxRecDepth 100000 in
theorem g_X3_copyFrom_40 (l : Launch) (g : q_G) {K : Nat → Nat} {L : List Nat} (hN : L.Nodup) {f : Nat → va_E} (hT : q_Ty g K L f) (v : Nat) (hv : v ∈ L) (kv : K v = 24) (p0 : Nat) (hp0 : p0 ∈ L) (kp0 : K p0 = 3) : q_Ct l g K L yX3_copyFrom cX3_copyFrom 2 none 0 0 [.ref v, .ref p0] f [(24, 0, 4)] (q_Pv (fun (f1 : Nat → va_E) => True)) := by
  refine q_ofb (by decide +kernel) hN hT (Nat.le_of_ble_eq_true rfl) ?_
  intro p e s m below meth c ls cx hr hlk hB hl
  have hl : lv_has ls 2 [(0, .ref v), (1, .ref p0)] := hl
  obtain ⟨H, hH⟩ : ∃ H : Heap, H = s.heap := ⟨_, rfl⟩
  obtain ⟨locs, hlocs⟩ : ∃ z : List Loc, z = [] := ⟨_, rfl⟩
  rw [← hH, ← hlocs] at hB
  rw [← hH, ← hlocs]
  refine q_ald_n cx dX3_copyFrom_0 rfl (lv_at hl 0 rfl) ?_
  refine q_ald_n cx dX3_copyFrom_1 rfl (lv_at hl 1 rfl) ?_
  obtain ⟨x46, ex46⟩ : ∃ zz, q_is (q_z f p0 0) zz := ⟨_, q_isr _⟩
  refine q_gX3_7 cx hB hp0 kp0 ex46 dX3_copyFrom_2 (fun lb47 ub47 => ?_)
  refine q_pX3_7_24 cx hB hv kv ⟨by omega, by omega⟩ (by omega) (by omega) rfl dX3_copyFrom_5 (fun H locs f48 ef48 z49 hB => ?_)
  have z50 : q_is (q_z f48 p0 0) x46 := by rw [ef48, q_setz (Or.inl (fun q => by rw [q, kv] at kp0; exact absurd kp0 (by decide)))]; exact ex46
  refine q_ald_n cx dX3_copyFrom_8 rfl (lv_at hl 0 rfl) ?_
  refine q_ald_n cx dX3_copyFrom_9 rfl (lv_at hl 1 rfl) ?_
  obtain ⟨x51, ex51⟩ : ∃ zz, q_is (q_z f48 p0 1) zz := ⟨_, q_isr _⟩
  refine q_gX3_13 cx hB hp0 kp0 ex51 dX3_copyFrom_10 (fun lb52 ub52 => ?_)
  refine q_pX3_13_24 cx hB hv kv ⟨by omega, by omega⟩ (by omega) (by omega) rfl dX3_copyFrom_13 (fun H locs f53 ef53 z54 hB => ?_)
  have z55 : q_is (q_z f53 p0 0) x46 := by rw [ef53, q_setz (Or.inr (by decide))]; exact z50
  have z56 : q_is (q_z f53 v 0) x46 := by rw [ef53, q_setz (Or.inr (by decide))]; exact z49
  have z57 : q_is (q_z f53 p0 1) x51 := by rw [ef53, q_setz (Or.inl (fun q => by rw [q, kv] at kp0; exact absurd kp0 (by decide)))]; exact ex51
  refine q_ald_n cx dX3_copyFrom_16 rfl (lv_at hl 0 rfl) ?_
  refine q_ald_n cx dX3_copyFrom_17 rfl (lv_at hl 1 rfl) ?_
  obtain ⟨x58, ex58⟩ : ∃ zz, q_is (q_z f53 p0 2) zz := ⟨_, q_isr _⟩
  refine q_gX3_16 cx hB hp0 kp0 ex58 dX3_copyFrom_18 (fun lb59 ub59 => ?_)
  refine q_pX3_16_24 cx hB hv kv ⟨by omega, by omega⟩ (by omega) (by omega) rfl dX3_copyFrom_21 (fun H locs f60 ef60 z61 hB => ?_)
  have z62 : q_is (q_z f60 p0 0) x46 := by rw [ef60, q_setz (Or.inr (by decide))]; exact z55
  have z63 : q_is (q_z f60 v 0) x46 := by rw [ef60, q_setz (Or.inr (by decide))]; exact z56
  have z64 : q_is (q_z f60 p0 1) x51 := by rw [ef60, q_setz (Or.inr (by decide))]; exact z57
  have z65 : q_is (q_z f60 v 1) x51 := by rw [ef60, q_setz (Or.inr (by decide))]; exact z54
  have z66 : q_is (q_z f60 p0 2) x58 := by rw [ef60, q_setz (Or.inl (fun q => by rw [q, kv] at kp0; exact absurd kp0 (by decide)))]; exact ex58
  refine q_ald_n cx dX3_copyFrom_24 rfl (lv_at hl 0 rfl) ?_
  refine q_ald_n cx dX3_copyFrom_25 rfl (lv_at hl 1 rfl) ?_
  obtain ⟨x67, ex67⟩ : ∃ zz, q_is (q_z f60 p0 3) zz := ⟨_, q_isr _⟩
  refine q_gX3_19 cx hB hp0 kp0 ex67 dX3_copyFrom_26 (fun lb68 ub68 => ?_)
  refine q_pX3_19_24 cx hB hv kv ⟨by omega, by omega⟩ (by omega) (by omega) rfl dX3_copyFrom_29 (fun H locs f69 ef69 z70 hB => ?_)
  have z71 : q_is (q_z f69 p0 0) x46 := by rw [ef69, q_setz (Or.inr (by decide))]; exact z62
  have z72 : q_is (q_z f69 v 0) x46 := by rw [ef69, q_setz (Or.inr (by decide))]; exact z63
  have z73 : q_is (q_z f69 p0 1) x51 := by rw [ef69, q_setz (Or.inr (by decide))]; exact z64
  have z74 : q_is (q_z f69 v 1) x51 := by rw [ef69, q_setz (Or.inr (by decide))]; exact z65
  have z75 : q_is (q_z f69 p0 2) x58 := by rw [ef69, q_setz (Or.inr (by decide))]; exact z66
  have z76 : q_is (q_z f69 v 2) x58 := by rw [ef69, q_setz (Or.inr (by decide))]; exact z61
  have z77 : q_is (q_z f69 p0 3) x67 := by rw [ef69, q_setz (Or.inl (fun q => by rw [q, kv] at kp0; exact absurd kp0 (by decide)))]; exact ex67
  refine q_ald_n cx dX3_copyFrom_32 rfl (lv_at hl 0 rfl) ?_
  refine q_ald_n cx dX3_copyFrom_33 rfl (lv_at hl 1 rfl) ?_
  obtain ⟨x78, ex78⟩ : ∃ zz, q_is (q_z f69 p0 4) zz := ⟨_, q_isr _⟩
  refine q_gX3_22 cx hB hp0 kp0 ex78 dX3_copyFrom_34 (fun lb79 ub79 => ?_)
  refine q_pX3_22_24 cx hB hv kv ⟨by omega, by omega⟩ (by omega) (by omega) rfl dX3_copyFrom_37 (fun H locs f80 ef80 z81 hB => ?_)
  have z82 : q_is (q_z f80 p0 0) x46 := by rw [ef80, q_setz (Or.inr (by decide))]; exact z71
  have z83 : q_is (q_z f80 v 0) x46 := by rw [ef80, q_setz (Or.inr (by decide))]; exact z72
  have z84 : q_is (q_z f80 p0 1) x51 := by rw [ef80, q_setz (Or.inr (by decide))]; exact z73
  have z85 : q_is (q_z f80 v 1) x51 := by rw [ef80, q_setz (Or.inr (by decide))]; exact z74
  have z86 : q_is (q_z f80 p0 2) x58 := by rw [ef80, q_setz (Or.inr (by decide))]; exact z75
  have z87 : q_is (q_z f80 v 2) x58 := by rw [ef80, q_setz (Or.inr (by decide))]; exact z76
  have z88 : q_is (q_z f80 p0 3) x67 := by rw [ef80, q_setz (Or.inr (by decide))]; exact z77
  have z89 : q_is (q_z f80 v 3) x67 := by rw [ef80, q_setz (Or.inr (by decide))]; exact z70
  have z90 : q_is (q_z f80 p0 4) x78 := by rw [ef80, q_setz (Or.inl (fun q => by rw [q, kv] at kp0; exact absurd kp0 (by decide)))]; exact ex78
  refine q_vret cx hr hlk hB dX3_copyFrom_40 ?_
  trivial
set_option maxHeartbeats 4000000 in
set_option maxRecDepth 100000 in
theorem g_X10_messageAt (l : Launch) (g : q_G) {K : Nat → Nat} {L : List Nat} (hN : L.Nodup) {f : Nat → va_E} (hT : q_Ty g K L f) (v : Nat) (hv : v ∈ L) (kv : K v = 10) (p0 : Int) (lp0 : (-2147483648) ≤ p0) (up0 : p0 ≤ 2147483647) : q_Ct l g K L yX10_messageAt cX10_messageAt 2 (some (.object "WakeVillage$Message")) 0 0 [.ref v, .int (q_i p0)] f [] (q_Pr (fun (z : Nat) (f1 : Nat → va_E) => f = f1 ∧ z ∈ L ∧ K z = 4)) := by
  refine q_ofb (by decide +kernel) hN hT (Nat.le_of_ble_eq_true rfl) ?_
  intro p e s m below meth c ls cx hr hlk hB hl
  have hl : lv_has ls 2 [(0, .ref v), (1, .int (q_i p0))] := hl
  have J22 : ∀ (t22_0 : Int) (lt22_0 : 0 ≤ t22_0) (ut22_0 : t22_0 ≤ 60) (t22_1 : Nat) (ht22_1 : t22_1 ∈ L) (kt22_1 : K t22_1 = 130) (H : Heap) (locs : List Loc) (hB : q_B g K L (fun q => q ∈ L) [] f f s H locs) (ls : Array Slot) (hl : lv_has ls 2 []), W p l e { frames := 0, cells := 0, slots := 0, locals := 0 } s m ([.ref v, .int (q_i p0)] : List Value).toArray below meth c H locs 0 0 (MQ below (q_Q g K L [] f (q_Pr (fun (z : Nat) (f1 : Nat → va_E) => f = f1 ∧ z ∈ L ∧ K z = 4))) ([.ref v, .int (q_i p0)] : List Value).toArray s 0 0 (fun q => q ∈ L)) (F0 m 22 ls [.int (q_i t22_0), .ref t22_1]) := by
    intro t22_0 lt22_0 ut22_0 t22_1 ht22_1 kt22_1 H locs hB ls hl
    obtain ⟨p8, ep8⟩ : ∃ zz, q_ir (q_r f t22_1 (Int.toNat t22_0)) zz := ⟨_, q_irr _⟩
    refine q_aald (k2 := 4) (n := 61) cx hB ht22_1 kt22_1 (by decide) rfl 6 rfl (by decide) rfl (by omega) (by omega) (by decide) rfl ep8 dX10_messageAt_22 (fun hb9 kb9 => ?_)
    refine q_aret cx hr (Or.inl ⟨_, rfl⟩) hlk hB dX10_messageAt_23 ?_
    exact ⟨rfl, hb9, kb9⟩
  have J21 : ∀ (t21_0 : Nat) (ht21_0 : t21_0 ∈ L) (kt21_0 : K t21_0 = 130) (H : Heap) (locs : List Loc) (hB : q_B g K L (fun q => q ∈ L) [] f f s H locs) (ls : Array Slot) (hl : lv_has ls 2 []), W p l e { frames := 0, cells := 0, slots := 0, locals := 0 } s m ([.ref v, .int (q_i p0)] : List Value).toArray below meth c H locs 0 0 (MQ below (q_Q g K L [] f (q_Pr (fun (z : Nat) (f1 : Nat → va_E) => f = f1 ∧ z ∈ L ∧ K z = 4))) ([.ref v, .int (q_i p0)] : List Value).toArray s 0 0 (fun q => q ∈ L)) (F0 m 21 ls [.ref t21_0]) := by
    intro t21_0 ht21_0 kt21_0 H locs hB ls hl
    refine q_iconst cx dX10_messageAt_21 ?_
    exact J22 0 (by decide) (by decide) t21_0 ht21_0 kt21_0 H locs hB ls (lv_sub hl [] rfl)
  obtain ⟨H, hH⟩ : ∃ H : Heap, H = s.heap := ⟨_, rfl⟩
  obtain ⟨locs, hlocs⟩ : ∃ z : List Loc, z = [] := ⟨_, rfl⟩
  rw [← hH, ← hlocs] at hB
  rw [← hH, ← hlocs]
  refine q_ald_n cx dX10_messageAt_0 rfl (lv_at hl 0 rfl) ?_
  obtain ⟨p10, ep10⟩ : ∃ zz, q_ir (q_r f v 2) zz := ⟨_, q_irr _⟩
  refine q_gX10_25 cx hB hv kv ep10 dX10_messageAt_1 (fun hb11 kb11 => ?_)
  refine q_ild_n cx dX10_messageAt_4 rfl (lv_at hl 1 rfl) ?_
  refine q_iflt (tgt := 21) cx ⟨by omega, by omega⟩ dX10_messageAt_5 (by decide) (fun c12 => ?_) (fun c12 => ?_)
  · exact J21 p10 hb11 kb11 H locs hB ls (lv_sub hl [] rfl)
  · refine q_ild_n cx dX10_messageAt_8 rfl (lv_at hl 1 rfl) ?_
    refine q_ald_n cx dX10_messageAt_9 rfl (lv_at hl 0 rfl) ?_
    refine q_gX10_25 cx hB hv kv ep10 dX10_messageAt_10 (fun hb13 kb13 => ?_)
    refine q_alen (n := 61) cx hB hb11 kb11 (by decide) rfl 6 rfl rfl dX10_messageAt_13 ?_
    refine q_icge (tgt := 21) cx ⟨by omega, by omega⟩ ⟨by decide, by decide⟩ dX10_messageAt_14 (by decide) (fun c14 => ?_) (fun c14 => ?_)
    · exact J21 p10 hb11 kb11 H locs hB ls (lv_sub hl [] rfl)
    · refine q_ild_n cx dX10_messageAt_17 rfl (lv_at hl 1 rfl) ?_
      refine lv_goto (tgt := 22) cx.1 cx.2.1 dX10_messageAt_18 (by decide) ?_
      exact J22 p0 (by omega) (by omega) p10 hb11 kb11 H locs hB ls (lv_sub hl [] rfl)
set_option maxHeartbeats 4000000 in
set_option maxRecDepth 100000 in
theorem g_X10_messageAt_1 (l : Launch) (g : q_G) {K : Nat → Nat} {L : List Nat} (hN : L.Nodup) {f : Nat → va_E} (hT : q_Ty g K L f) (v : Nat) (hv : v ∈ L) (kv : K v = 13) (p0 : Int) (lp0 : (-2147483648) ≤ p0) (up0 : p0 ≤ 2147483647) : q_Ct l g K L yX10_messageAt cX10_messageAt 2 (some (.object "WakeVillage$Message")) 0 0 [.ref v, .int (q_i p0)] f [] (q_Pr (fun (z : Nat) (f1 : Nat → va_E) => f = f1 ∧ z ∈ L ∧ K z = 25)) := by
  refine q_ofb (by decide +kernel) hN hT (Nat.le_of_ble_eq_true rfl) ?_
  intro p e s m below meth c ls cx hr hlk hB hl
  have hl : lv_has ls 2 [(0, .ref v), (1, .int (q_i p0))] := hl
  have J22 : ∀ (t22_0 : Int) (lt22_0 : 0 ≤ t22_0) (ut22_0 : t22_0 ≤ 60) (t22_1 : Nat) (ht22_1 : t22_1 ∈ L) (kt22_1 : K t22_1 = 131) (H : Heap) (locs : List Loc) (hB : q_B g K L (fun q => q ∈ L) [] f f s H locs) (ls : Array Slot) (hl : lv_has ls 2 []), W p l e { frames := 0, cells := 0, slots := 0, locals := 0 } s m ([.ref v, .int (q_i p0)] : List Value).toArray below meth c H locs 0 0 (MQ below (q_Q g K L [] f (q_Pr (fun (z : Nat) (f1 : Nat → va_E) => f = f1 ∧ z ∈ L ∧ K z = 25))) ([.ref v, .int (q_i p0)] : List Value).toArray s 0 0 (fun q => q ∈ L)) (F0 m 22 ls [.int (q_i t22_0), .ref t22_1]) := by
    intro t22_0 lt22_0 ut22_0 t22_1 ht22_1 kt22_1 H locs hB ls hl
    obtain ⟨p8, ep8⟩ : ∃ zz, q_ir (q_r f t22_1 (Int.toNat t22_0)) zz := ⟨_, q_irr _⟩
    refine q_aald (k2 := 25) (n := 61) cx hB ht22_1 kt22_1 (by decide) rfl 6 rfl (by decide) rfl (by omega) (by omega) (by decide) rfl ep8 dX10_messageAt_22 (fun hb9 kb9 => ?_)
    refine q_aret cx hr (Or.inl ⟨_, rfl⟩) hlk hB dX10_messageAt_23 ?_
    exact ⟨rfl, hb9, kb9⟩
  have J21 : ∀ (t21_0 : Nat) (ht21_0 : t21_0 ∈ L) (kt21_0 : K t21_0 = 131) (H : Heap) (locs : List Loc) (hB : q_B g K L (fun q => q ∈ L) [] f f s H locs) (ls : Array Slot) (hl : lv_has ls 2 []), W p l e { frames := 0, cells := 0, slots := 0, locals := 0 } s m ([.ref v, .int (q_i p0)] : List Value).toArray below meth c H locs 0 0 (MQ below (q_Q g K L [] f (q_Pr (fun (z : Nat) (f1 : Nat → va_E) => f = f1 ∧ z ∈ L ∧ K z = 25))) ([.ref v, .int (q_i p0)] : List Value).toArray s 0 0 (fun q => q ∈ L)) (F0 m 21 ls [.ref t21_0]) := by
    intro t21_0 ht21_0 kt21_0 H locs hB ls hl
    refine q_iconst cx dX10_messageAt_21 ?_
    exact J22 0 (by decide) (by decide) t21_0 ht21_0 kt21_0 H locs hB ls (lv_sub hl [] rfl)
  obtain ⟨H, hH⟩ : ∃ H : Heap, H = s.heap := ⟨_, rfl⟩
  obtain ⟨locs, hlocs⟩ : ∃ z : List Loc, z = [] := ⟨_, rfl⟩
  rw [← hH, ← hlocs] at hB
  rw [← hH, ← hlocs]
  refine q_ald_n cx dX10_messageAt_0 rfl (lv_at hl 0 rfl) ?_
  obtain ⟨p10, ep10⟩ : ∃ zz, q_ir (q_r f v 2) zz := ⟨_, q_irr _⟩
  refine q_gX10_25_13 cx hB hv kv ep10 dX10_messageAt_1 (fun hb11 kb11 => ?_)
  refine q_ild_n cx dX10_messageAt_4 rfl (lv_at hl 1 rfl) ?_
  refine q_iflt (tgt := 21) cx ⟨by omega, by omega⟩ dX10_messageAt_5 (by decide) (fun c12 => ?_) (fun c12 => ?_)
  · exact J21 p10 hb11 kb11 H locs hB ls (lv_sub hl [] rfl)
  · refine q_ild_n cx dX10_messageAt_8 rfl (lv_at hl 1 rfl) ?_
    refine q_ald_n cx dX10_messageAt_9 rfl (lv_at hl 0 rfl) ?_
    refine q_gX10_25_13 cx hB hv kv ep10 dX10_messageAt_10 (fun hb13 kb13 => ?_)
    refine q_alen (n := 61) cx hB hb11 kb11 (by decide) rfl 6 rfl rfl dX10_messageAt_13 ?_
    refine q_icge (tgt := 21) cx ⟨by omega, by omega⟩ ⟨by decide, by decide⟩ dX10_messageAt_14 (by decide) (fun c14 => ?_) (fun c14 => ?_)
    · exact J21 p10 hb11 kb11 H locs hB ls (lv_sub hl [] rfl)
    · refine q_ild_n cx dX10_messageAt_17 rfl (lv_at hl 1 rfl) ?_
      refine lv_goto (tgt := 22) cx.1 cx.2.1 dX10_messageAt_18 (by decide) ?_
      exact J22 p0 (by omega) (by omega) p10 hb11 kb11 H locs hB ls (lv_sub hl [] rfl)
set_option maxHeartbeats 4000000 in
set_option maxRecDepth 100000 in
theorem g_X10_messageAt_2 (l : Launch) (g : q_G) {K : Nat → Nat} {L : List Nat} (hN : L.Nodup) {f : Nat → va_E} (hT : q_Ty g K L f) (v : Nat) (hv : v ∈ L) (kv : K v = 14) (p0 : Int) (lp0 : (-2147483648) ≤ p0) (up0 : p0 ≤ 2147483647) : q_Ct l g K L yX10_messageAt cX10_messageAt 2 (some (.object "WakeVillage$Message")) 0 0 [.ref v, .int (q_i p0)] f [] (q_Pr (fun (z : Nat) (f1 : Nat → va_E) => f = f1 ∧ z ∈ L ∧ K z = 26)) := by
  refine q_ofb (by decide +kernel) hN hT (Nat.le_of_ble_eq_true rfl) ?_
  intro p e s m below meth c ls cx hr hlk hB hl
  have hl : lv_has ls 2 [(0, .ref v), (1, .int (q_i p0))] := hl
  have J22 : ∀ (t22_0 : Int) (lt22_0 : 0 ≤ t22_0) (ut22_0 : t22_0 ≤ 60) (t22_1 : Nat) (ht22_1 : t22_1 ∈ L) (kt22_1 : K t22_1 = 132) (H : Heap) (locs : List Loc) (hB : q_B g K L (fun q => q ∈ L) [] f f s H locs) (ls : Array Slot) (hl : lv_has ls 2 []), W p l e { frames := 0, cells := 0, slots := 0, locals := 0 } s m ([.ref v, .int (q_i p0)] : List Value).toArray below meth c H locs 0 0 (MQ below (q_Q g K L [] f (q_Pr (fun (z : Nat) (f1 : Nat → va_E) => f = f1 ∧ z ∈ L ∧ K z = 26))) ([.ref v, .int (q_i p0)] : List Value).toArray s 0 0 (fun q => q ∈ L)) (F0 m 22 ls [.int (q_i t22_0), .ref t22_1]) := by
    intro t22_0 lt22_0 ut22_0 t22_1 ht22_1 kt22_1 H locs hB ls hl
    obtain ⟨p8, ep8⟩ : ∃ zz, q_ir (q_r f t22_1 (Int.toNat t22_0)) zz := ⟨_, q_irr _⟩
    refine q_aald (k2 := 26) (n := 61) cx hB ht22_1 kt22_1 (by decide) rfl 6 rfl (by decide) rfl (by omega) (by omega) (by decide) rfl ep8 dX10_messageAt_22 (fun hb9 kb9 => ?_)
    refine q_aret cx hr (Or.inl ⟨_, rfl⟩) hlk hB dX10_messageAt_23 ?_
    exact ⟨rfl, hb9, kb9⟩
  have J21 : ∀ (t21_0 : Nat) (ht21_0 : t21_0 ∈ L) (kt21_0 : K t21_0 = 132) (H : Heap) (locs : List Loc) (hB : q_B g K L (fun q => q ∈ L) [] f f s H locs) (ls : Array Slot) (hl : lv_has ls 2 []), W p l e { frames := 0, cells := 0, slots := 0, locals := 0 } s m ([.ref v, .int (q_i p0)] : List Value).toArray below meth c H locs 0 0 (MQ below (q_Q g K L [] f (q_Pr (fun (z : Nat) (f1 : Nat → va_E) => f = f1 ∧ z ∈ L ∧ K z = 26))) ([.ref v, .int (q_i p0)] : List Value).toArray s 0 0 (fun q => q ∈ L)) (F0 m 21 ls [.ref t21_0]) := by
    intro t21_0 ht21_0 kt21_0 H locs hB ls hl
    refine q_iconst cx dX10_messageAt_21 ?_
    exact J22 0 (by decide) (by decide) t21_0 ht21_0 kt21_0 H locs hB ls (lv_sub hl [] rfl)
  obtain ⟨H, hH⟩ : ∃ H : Heap, H = s.heap := ⟨_, rfl⟩
  obtain ⟨locs, hlocs⟩ : ∃ z : List Loc, z = [] := ⟨_, rfl⟩
  rw [← hH, ← hlocs] at hB
  rw [← hH, ← hlocs]
  refine q_ald_n cx dX10_messageAt_0 rfl (lv_at hl 0 rfl) ?_
  obtain ⟨p10, ep10⟩ : ∃ zz, q_ir (q_r f v 2) zz := ⟨_, q_irr _⟩
  refine q_gX10_25_14 cx hB hv kv ep10 dX10_messageAt_1 (fun hb11 kb11 => ?_)
  refine q_ild_n cx dX10_messageAt_4 rfl (lv_at hl 1 rfl) ?_
  refine q_iflt (tgt := 21) cx ⟨by omega, by omega⟩ dX10_messageAt_5 (by decide) (fun c12 => ?_) (fun c12 => ?_)
  · exact J21 p10 hb11 kb11 H locs hB ls (lv_sub hl [] rfl)
  · refine q_ild_n cx dX10_messageAt_8 rfl (lv_at hl 1 rfl) ?_
    refine q_ald_n cx dX10_messageAt_9 rfl (lv_at hl 0 rfl) ?_
    refine q_gX10_25_14 cx hB hv kv ep10 dX10_messageAt_10 (fun hb13 kb13 => ?_)
    refine q_alen (n := 61) cx hB hb11 kb11 (by decide) rfl 6 rfl rfl dX10_messageAt_13 ?_
    refine q_icge (tgt := 21) cx ⟨by omega, by omega⟩ ⟨by decide, by decide⟩ dX10_messageAt_14 (by decide) (fun c14 => ?_) (fun c14 => ?_)
    · exact J21 p10 hb11 kb11 H locs hB ls (lv_sub hl [] rfl)
    · refine q_ild_n cx dX10_messageAt_17 rfl (lv_at hl 1 rfl) ?_
      refine lv_goto (tgt := 22) cx.1 cx.2.1 dX10_messageAt_18 (by decide) ?_
      exact J22 p0 (by omega) (by omega) p10 hb11 kb11 H locs hB ls (lv_sub hl [] rfl)
set_option maxHeartbeats 4000000 in
set_option maxRecDepth 100000 in
theorem g_X10_messageAt_3 (l : Launch) (g : q_G) {K : Nat → Nat} {L : List Nat} (hN : L.Nodup) {f : Nat → va_E} (hT : q_Ty g K L f) (v : Nat) (hv : v ∈ L) (kv : K v = 15) (p0 : Int) (lp0 : (-2147483648) ≤ p0) (up0 : p0 ≤ 2147483647) : q_Ct l g K L yX10_messageAt cX10_messageAt 2 (some (.object "WakeVillage$Message")) 0 0 [.ref v, .int (q_i p0)] f [] (q_Pr (fun (z : Nat) (f1 : Nat → va_E) => f = f1 ∧ z ∈ L ∧ K z = 27)) := by
  refine q_ofb (by decide +kernel) hN hT (Nat.le_of_ble_eq_true rfl) ?_
  intro p e s m below meth c ls cx hr hlk hB hl
  have hl : lv_has ls 2 [(0, .ref v), (1, .int (q_i p0))] := hl
  have J22 : ∀ (t22_0 : Int) (lt22_0 : 0 ≤ t22_0) (ut22_0 : t22_0 ≤ 60) (t22_1 : Nat) (ht22_1 : t22_1 ∈ L) (kt22_1 : K t22_1 = 133) (H : Heap) (locs : List Loc) (hB : q_B g K L (fun q => q ∈ L) [] f f s H locs) (ls : Array Slot) (hl : lv_has ls 2 []), W p l e { frames := 0, cells := 0, slots := 0, locals := 0 } s m ([.ref v, .int (q_i p0)] : List Value).toArray below meth c H locs 0 0 (MQ below (q_Q g K L [] f (q_Pr (fun (z : Nat) (f1 : Nat → va_E) => f = f1 ∧ z ∈ L ∧ K z = 27))) ([.ref v, .int (q_i p0)] : List Value).toArray s 0 0 (fun q => q ∈ L)) (F0 m 22 ls [.int (q_i t22_0), .ref t22_1]) := by
    intro t22_0 lt22_0 ut22_0 t22_1 ht22_1 kt22_1 H locs hB ls hl
    obtain ⟨p8, ep8⟩ : ∃ zz, q_ir (q_r f t22_1 (Int.toNat t22_0)) zz := ⟨_, q_irr _⟩
    refine q_aald (k2 := 27) (n := 61) cx hB ht22_1 kt22_1 (by decide) rfl 6 rfl (by decide) rfl (by omega) (by omega) (by decide) rfl ep8 dX10_messageAt_22 (fun hb9 kb9 => ?_)
    refine q_aret cx hr (Or.inl ⟨_, rfl⟩) hlk hB dX10_messageAt_23 ?_
    exact ⟨rfl, hb9, kb9⟩
  have J21 : ∀ (t21_0 : Nat) (ht21_0 : t21_0 ∈ L) (kt21_0 : K t21_0 = 133) (H : Heap) (locs : List Loc) (hB : q_B g K L (fun q => q ∈ L) [] f f s H locs) (ls : Array Slot) (hl : lv_has ls 2 []), W p l e { frames := 0, cells := 0, slots := 0, locals := 0 } s m ([.ref v, .int (q_i p0)] : List Value).toArray below meth c H locs 0 0 (MQ below (q_Q g K L [] f (q_Pr (fun (z : Nat) (f1 : Nat → va_E) => f = f1 ∧ z ∈ L ∧ K z = 27))) ([.ref v, .int (q_i p0)] : List Value).toArray s 0 0 (fun q => q ∈ L)) (F0 m 21 ls [.ref t21_0]) := by
    intro t21_0 ht21_0 kt21_0 H locs hB ls hl
    refine q_iconst cx dX10_messageAt_21 ?_
    exact J22 0 (by decide) (by decide) t21_0 ht21_0 kt21_0 H locs hB ls (lv_sub hl [] rfl)
  obtain ⟨H, hH⟩ : ∃ H : Heap, H = s.heap := ⟨_, rfl⟩
  obtain ⟨locs, hlocs⟩ : ∃ z : List Loc, z = [] := ⟨_, rfl⟩
  rw [← hH, ← hlocs] at hB
  rw [← hH, ← hlocs]
  refine q_ald_n cx dX10_messageAt_0 rfl (lv_at hl 0 rfl) ?_
  obtain ⟨p10, ep10⟩ : ∃ zz, q_ir (q_r f v 2) zz := ⟨_, q_irr _⟩
  refine q_gX10_25_15 cx hB hv kv ep10 dX10_messageAt_1 (fun hb11 kb11 => ?_)
  refine q_ild_n cx dX10_messageAt_4 rfl (lv_at hl 1 rfl) ?_
  refine q_iflt (tgt := 21) cx ⟨by omega, by omega⟩ dX10_messageAt_5 (by decide) (fun c12 => ?_) (fun c12 => ?_)
  · exact J21 p10 hb11 kb11 H locs hB ls (lv_sub hl [] rfl)
  · refine q_ild_n cx dX10_messageAt_8 rfl (lv_at hl 1 rfl) ?_
    refine q_ald_n cx dX10_messageAt_9 rfl (lv_at hl 0 rfl) ?_
    refine q_gX10_25_15 cx hB hv kv ep10 dX10_messageAt_10 (fun hb13 kb13 => ?_)
    refine q_alen (n := 61) cx hB hb11 kb11 (by decide) rfl 6 rfl rfl dX10_messageAt_13 ?_
    refine q_icge (tgt := 21) cx ⟨by omega, by omega⟩ ⟨by decide, by decide⟩ dX10_messageAt_14 (by decide) (fun c14 => ?_) (fun c14 => ?_)
    · exact J21 p10 hb11 kb11 H locs hB ls (lv_sub hl [] rfl)
    · refine q_ild_n cx dX10_messageAt_17 rfl (lv_at hl 1 rfl) ?_
      refine lv_goto (tgt := 22) cx.1 cx.2.1 dX10_messageAt_18 (by decide) ?_
      exact J22 p0 (by omega) (by omega) p10 hb11 kb11 H locs hB ls (lv_sub hl [] rfl)
set_option maxHeartbeats 4000000 in
set_option maxRecDepth 100000 in
theorem g_X10_messageAt_4 (l : Launch) (g : q_G) {K : Nat → Nat} {L : List Nat} (hN : L.Nodup) {f : Nat → va_E} (hT : q_Ty g K L f) (v : Nat) (hv : v ∈ L) (kv : K v = 16) (p0 : Int) (lp0 : (-2147483648) ≤ p0) (up0 : p0 ≤ 2147483647) : q_Ct l g K L yX10_messageAt cX10_messageAt 2 (some (.object "WakeVillage$Message")) 0 0 [.ref v, .int (q_i p0)] f [] (q_Pr (fun (z : Nat) (f1 : Nat → va_E) => f = f1 ∧ z ∈ L ∧ K z = 28)) := by
  refine q_ofb (by decide +kernel) hN hT (Nat.le_of_ble_eq_true rfl) ?_
  intro p e s m below meth c ls cx hr hlk hB hl
  have hl : lv_has ls 2 [(0, .ref v), (1, .int (q_i p0))] := hl
  have J22 : ∀ (t22_0 : Int) (lt22_0 : 0 ≤ t22_0) (ut22_0 : t22_0 ≤ 60) (t22_1 : Nat) (ht22_1 : t22_1 ∈ L) (kt22_1 : K t22_1 = 134) (H : Heap) (locs : List Loc) (hB : q_B g K L (fun q => q ∈ L) [] f f s H locs) (ls : Array Slot) (hl : lv_has ls 2 []), W p l e { frames := 0, cells := 0, slots := 0, locals := 0 } s m ([.ref v, .int (q_i p0)] : List Value).toArray below meth c H locs 0 0 (MQ below (q_Q g K L [] f (q_Pr (fun (z : Nat) (f1 : Nat → va_E) => f = f1 ∧ z ∈ L ∧ K z = 28))) ([.ref v, .int (q_i p0)] : List Value).toArray s 0 0 (fun q => q ∈ L)) (F0 m 22 ls [.int (q_i t22_0), .ref t22_1]) := by
    intro t22_0 lt22_0 ut22_0 t22_1 ht22_1 kt22_1 H locs hB ls hl
    obtain ⟨p8, ep8⟩ : ∃ zz, q_ir (q_r f t22_1 (Int.toNat t22_0)) zz := ⟨_, q_irr _⟩
    refine q_aald (k2 := 28) (n := 61) cx hB ht22_1 kt22_1 (by decide) rfl 6 rfl (by decide) rfl (by omega) (by omega) (by decide) rfl ep8 dX10_messageAt_22 (fun hb9 kb9 => ?_)
    refine q_aret cx hr (Or.inl ⟨_, rfl⟩) hlk hB dX10_messageAt_23 ?_
    exact ⟨rfl, hb9, kb9⟩
  have J21 : ∀ (t21_0 : Nat) (ht21_0 : t21_0 ∈ L) (kt21_0 : K t21_0 = 134) (H : Heap) (locs : List Loc) (hB : q_B g K L (fun q => q ∈ L) [] f f s H locs) (ls : Array Slot) (hl : lv_has ls 2 []), W p l e { frames := 0, cells := 0, slots := 0, locals := 0 } s m ([.ref v, .int (q_i p0)] : List Value).toArray below meth c H locs 0 0 (MQ below (q_Q g K L [] f (q_Pr (fun (z : Nat) (f1 : Nat → va_E) => f = f1 ∧ z ∈ L ∧ K z = 28))) ([.ref v, .int (q_i p0)] : List Value).toArray s 0 0 (fun q => q ∈ L)) (F0 m 21 ls [.ref t21_0]) := by
    intro t21_0 ht21_0 kt21_0 H locs hB ls hl
    refine q_iconst cx dX10_messageAt_21 ?_
    exact J22 0 (by decide) (by decide) t21_0 ht21_0 kt21_0 H locs hB ls (lv_sub hl [] rfl)
  obtain ⟨H, hH⟩ : ∃ H : Heap, H = s.heap := ⟨_, rfl⟩
  obtain ⟨locs, hlocs⟩ : ∃ z : List Loc, z = [] := ⟨_, rfl⟩
  rw [← hH, ← hlocs] at hB
  rw [← hH, ← hlocs]
  refine q_ald_n cx dX10_messageAt_0 rfl (lv_at hl 0 rfl) ?_
  obtain ⟨p10, ep10⟩ : ∃ zz, q_ir (q_r f v 2) zz := ⟨_, q_irr _⟩
  refine q_gX10_25_16 cx hB hv kv ep10 dX10_messageAt_1 (fun hb11 kb11 => ?_)
  refine q_ild_n cx dX10_messageAt_4 rfl (lv_at hl 1 rfl) ?_
  refine q_iflt (tgt := 21) cx ⟨by omega, by omega⟩ dX10_messageAt_5 (by decide) (fun c12 => ?_) (fun c12 => ?_)
  · exact J21 p10 hb11 kb11 H locs hB ls (lv_sub hl [] rfl)
  · refine q_ild_n cx dX10_messageAt_8 rfl (lv_at hl 1 rfl) ?_
    refine q_ald_n cx dX10_messageAt_9 rfl (lv_at hl 0 rfl) ?_
    refine q_gX10_25_16 cx hB hv kv ep10 dX10_messageAt_10 (fun hb13 kb13 => ?_)
    refine q_alen (n := 61) cx hB hb11 kb11 (by decide) rfl 6 rfl rfl dX10_messageAt_13 ?_
    refine q_icge (tgt := 21) cx ⟨by omega, by omega⟩ ⟨by decide, by decide⟩ dX10_messageAt_14 (by decide) (fun c14 => ?_) (fun c14 => ?_)
    · exact J21 p10 hb11 kb11 H locs hB ls (lv_sub hl [] rfl)
    · refine q_ild_n cx dX10_messageAt_17 rfl (lv_at hl 1 rfl) ?_
      refine lv_goto (tgt := 22) cx.1 cx.2.1 dX10_messageAt_18 (by decide) ?_
      exact J22 p0 (by omega) (by omega) p10 hb11 kb11 H locs hB ls (lv_sub hl [] rfl)
set_option maxHeartbeats 4000000 in
set_option maxRecDepth 100000 in
theorem g_X4_copyFrom_01 (l : Launch) (g : q_G) {K : Nat → Nat} {L : List Nat} (hN : L.Nodup) {f : Nat → va_E} (hT : q_Ty g K L f) (v : Nat) (hv : v ∈ L) (kv : K v = 4) (p0 : Nat) (hp0 : p0 ∈ L) (kp0 : K p0 = 25) : q_Ct l g K L yX4_copyFrom cX4_copyFrom 2 none 0 0 [.ref v, .ref p0] f [(4, 0, 7)] (q_Pv (fun (f1 : Nat → va_E) => True)) := by
  refine q_ofb (by decide +kernel) hN hT (Nat.le_of_ble_eq_true rfl) ?_
  intro p e s m below meth c ls cx hr hlk hB hl
  have hl : lv_has ls 2 [(0, .ref v), (1, .ref p0)] := hl
  obtain ⟨H, hH⟩ : ∃ H : Heap, H = s.heap := ⟨_, rfl⟩
  obtain ⟨locs, hlocs⟩ : ∃ z : List Loc, z = [] := ⟨_, rfl⟩
  rw [← hH, ← hlocs] at hB
  rw [← hH, ← hlocs]
  refine q_ald_n cx dX4_copyFrom_0 rfl (lv_at hl 0 rfl) ?_
  refine q_ald_n cx dX4_copyFrom_1 rfl (lv_at hl 1 rfl) ?_
  obtain ⟨x97, ex97⟩ : ∃ zz, q_is (q_z f p0 0) zz := ⟨_, q_isr _⟩
  refine q_gX4_7_25 cx hB hp0 kp0 ex97 dX4_copyFrom_2 (fun lb98 ub98 => ?_)
  refine q_pX4_7 cx hB hv kv ⟨by omega, by omega⟩ (by omega) (by omega) rfl dX4_copyFrom_5 (fun H locs f99 ef99 z100 hB => ?_)
  have z101 : q_is (q_z f99 p0 0) x97 := by rw [ef99, q_setz (Or.inl (fun q => by rw [q, kv] at kp0; exact absurd kp0 (by decide)))]; exact ex97
  refine q_ald_n cx dX4_copyFrom_8 rfl (lv_at hl 0 rfl) ?_
  refine q_ald_n cx dX4_copyFrom_9 rfl (lv_at hl 1 rfl) ?_
  obtain ⟨x102, ex102⟩ : ∃ zz, q_is (q_z f99 p0 1) zz := ⟨_, q_isr _⟩
  refine q_gX4_13_25 cx hB hp0 kp0 ex102 dX4_copyFrom_10 (fun lb103 ub103 => ?_)
  refine q_pX4_13 cx hB hv kv ⟨by omega, by omega⟩ (by omega) (by omega) rfl dX4_copyFrom_13 (fun H locs f104 ef104 z105 hB => ?_)
  have z106 : q_is (q_z f104 p0 0) x97 := by rw [ef104, q_setz (Or.inr (by decide))]; exact z101
  have z107 : q_is (q_z f104 v 0) x97 := by rw [ef104, q_setz (Or.inr (by decide))]; exact z100
  have z108 : q_is (q_z f104 p0 1) x102 := by rw [ef104, q_setz (Or.inl (fun q => by rw [q, kv] at kp0; exact absurd kp0 (by decide)))]; exact ex102
  refine q_ald_n cx dX4_copyFrom_16 rfl (lv_at hl 0 rfl) ?_
  refine q_ald_n cx dX4_copyFrom_17 rfl (lv_at hl 1 rfl) ?_
  obtain ⟨x109, ex109⟩ : ∃ zz, q_is (q_z f104 p0 2) zz := ⟨_, q_isr _⟩
  refine q_gX4_16_25 cx hB hp0 kp0 ex109 dX4_copyFrom_18 (fun lb110 ub110 => ?_)
  refine q_pX4_16 cx hB hv kv ⟨by omega, by omega⟩ (by omega) (by omega) rfl dX4_copyFrom_21 (fun H locs f111 ef111 z112 hB => ?_)
  have z113 : q_is (q_z f111 p0 0) x97 := by rw [ef111, q_setz (Or.inr (by decide))]; exact z106
  have z114 : q_is (q_z f111 v 0) x97 := by rw [ef111, q_setz (Or.inr (by decide))]; exact z107
  have z115 : q_is (q_z f111 p0 1) x102 := by rw [ef111, q_setz (Or.inr (by decide))]; exact z108
  have z116 : q_is (q_z f111 v 1) x102 := by rw [ef111, q_setz (Or.inr (by decide))]; exact z105
  have z117 : q_is (q_z f111 p0 2) x109 := by rw [ef111, q_setz (Or.inl (fun q => by rw [q, kv] at kp0; exact absurd kp0 (by decide)))]; exact ex109
  refine q_ald_n cx dX4_copyFrom_24 rfl (lv_at hl 0 rfl) ?_
  refine q_ald_n cx dX4_copyFrom_25 rfl (lv_at hl 1 rfl) ?_
  obtain ⟨x118, ex118⟩ : ∃ zz, q_is (q_z f111 p0 3) zz := ⟨_, q_isr _⟩
  refine q_gX4_19_25 cx hB hp0 kp0 ex118 dX4_copyFrom_26 (fun lb119 ub119 => ?_)
  refine q_pX4_19 cx hB hv kv ⟨by omega, by omega⟩ (by omega) (by omega) rfl dX4_copyFrom_29 (fun H locs f120 ef120 z121 hB => ?_)
  have z122 : q_is (q_z f120 p0 0) x97 := by rw [ef120, q_setz (Or.inr (by decide))]; exact z113
  have z123 : q_is (q_z f120 v 0) x97 := by rw [ef120, q_setz (Or.inr (by decide))]; exact z114
  have z124 : q_is (q_z f120 p0 1) x102 := by rw [ef120, q_setz (Or.inr (by decide))]; exact z115
  have z125 : q_is (q_z f120 v 1) x102 := by rw [ef120, q_setz (Or.inr (by decide))]; exact z116
  have z126 : q_is (q_z f120 p0 2) x109 := by rw [ef120, q_setz (Or.inr (by decide))]; exact z117
  have z127 : q_is (q_z f120 v 2) x109 := by rw [ef120, q_setz (Or.inr (by decide))]; exact z112
  have z128 : q_is (q_z f120 p0 3) x118 := by rw [ef120, q_setz (Or.inl (fun q => by rw [q, kv] at kp0; exact absurd kp0 (by decide)))]; exact ex118
  refine q_ald_n cx dX4_copyFrom_32 rfl (lv_at hl 0 rfl) ?_
  refine q_ald_n cx dX4_copyFrom_33 rfl (lv_at hl 1 rfl) ?_
  obtain ⟨x129, ex129⟩ : ∃ zz, q_is (q_z f120 p0 4) zz := ⟨_, q_isr _⟩
  refine q_gX4_22_25 cx hB hp0 kp0 ex129 dX4_copyFrom_34 (fun lb130 ub130 => ?_)
  refine q_pX4_22 cx hB hv kv ⟨by omega, by omega⟩ (by omega) (by omega) rfl dX4_copyFrom_37 (fun H locs f131 ef131 z132 hB => ?_)
  have z133 : q_is (q_z f131 p0 0) x97 := by rw [ef131, q_setz (Or.inr (by decide))]; exact z122
  have z134 : q_is (q_z f131 v 0) x97 := by rw [ef131, q_setz (Or.inr (by decide))]; exact z123
  have z135 : q_is (q_z f131 p0 1) x102 := by rw [ef131, q_setz (Or.inr (by decide))]; exact z124
  have z136 : q_is (q_z f131 v 1) x102 := by rw [ef131, q_setz (Or.inr (by decide))]; exact z125
  have z137 : q_is (q_z f131 p0 2) x109 := by rw [ef131, q_setz (Or.inr (by decide))]; exact z126
  have z138 : q_is (q_z f131 v 2) x109 := by rw [ef131, q_setz (Or.inr (by decide))]; exact z127
  have z139 : q_is (q_z f131 p0 3) x118 := by rw [ef131, q_setz (Or.inr (by decide))]; exact z128
  have z140 : q_is (q_z f131 v 3) x118 := by rw [ef131, q_setz (Or.inr (by decide))]; exact z121
  have z141 : q_is (q_z f131 p0 4) x129 := by rw [ef131, q_setz (Or.inl (fun q => by rw [q, kv] at kp0; exact absurd kp0 (by decide)))]; exact ex129
  refine q_ald_n cx dX4_copyFrom_40 rfl (lv_at hl 0 rfl) ?_
  refine q_ald_n cx dX4_copyFrom_41 rfl (lv_at hl 1 rfl) ?_
  obtain ⟨x142, ex142⟩ : ∃ zz, q_is (q_z f131 p0 5) zz := ⟨_, q_isr _⟩
  refine q_gX4_25_25 cx hB hp0 kp0 ex142 dX4_copyFrom_42 (fun lb143 ub143 => ?_)
  refine q_pX4_25 cx hB hv kv ⟨by omega, by omega⟩ (by omega) (by omega) rfl dX4_copyFrom_45 (fun H locs f144 ef144 z145 hB => ?_)
  have z146 : q_is (q_z f144 p0 0) x97 := by rw [ef144, q_setz (Or.inr (by decide))]; exact z133
  have z147 : q_is (q_z f144 v 0) x97 := by rw [ef144, q_setz (Or.inr (by decide))]; exact z134
  have z148 : q_is (q_z f144 p0 1) x102 := by rw [ef144, q_setz (Or.inr (by decide))]; exact z135
  have z149 : q_is (q_z f144 v 1) x102 := by rw [ef144, q_setz (Or.inr (by decide))]; exact z136
  have z150 : q_is (q_z f144 p0 2) x109 := by rw [ef144, q_setz (Or.inr (by decide))]; exact z137
  have z151 : q_is (q_z f144 v 2) x109 := by rw [ef144, q_setz (Or.inr (by decide))]; exact z138
  have z152 : q_is (q_z f144 p0 3) x118 := by rw [ef144, q_setz (Or.inr (by decide))]; exact z139
  have z153 : q_is (q_z f144 v 3) x118 := by rw [ef144, q_setz (Or.inr (by decide))]; exact z140
  have z154 : q_is (q_z f144 p0 4) x129 := by rw [ef144, q_setz (Or.inr (by decide))]; exact z141
  have z155 : q_is (q_z f144 v 4) x129 := by rw [ef144, q_setz (Or.inr (by decide))]; exact z132
  have z156 : q_is (q_z f144 p0 5) x142 := by rw [ef144, q_setz (Or.inl (fun q => by rw [q, kv] at kp0; exact absurd kp0 (by decide)))]; exact ex142
  refine q_ald_n cx dX4_copyFrom_48 rfl (lv_at hl 0 rfl) ?_
  refine q_ald_n cx dX4_copyFrom_49 rfl (lv_at hl 1 rfl) ?_
  obtain ⟨x157, ex157⟩ : ∃ zz, q_is (q_z f144 p0 6) zz := ⟨_, q_isr _⟩
  refine q_gX4_28_25 cx hB hp0 kp0 ex157 dX4_copyFrom_50 (fun lb158 ub158 => ?_)
  refine q_pX4_28 cx hB hv kv ⟨by omega, by omega⟩ (by omega) (by omega) rfl dX4_copyFrom_53 (fun H locs f159 ef159 z160 hB => ?_)
  have z161 : q_is (q_z f159 p0 0) x97 := by rw [ef159, q_setz (Or.inr (by decide))]; exact z146
  have z162 : q_is (q_z f159 v 0) x97 := by rw [ef159, q_setz (Or.inr (by decide))]; exact z147
  have z163 : q_is (q_z f159 p0 1) x102 := by rw [ef159, q_setz (Or.inr (by decide))]; exact z148
  have z164 : q_is (q_z f159 v 1) x102 := by rw [ef159, q_setz (Or.inr (by decide))]; exact z149
  have z165 : q_is (q_z f159 p0 2) x109 := by rw [ef159, q_setz (Or.inr (by decide))]; exact z150
  have z166 : q_is (q_z f159 v 2) x109 := by rw [ef159, q_setz (Or.inr (by decide))]; exact z151
  have z167 : q_is (q_z f159 p0 3) x118 := by rw [ef159, q_setz (Or.inr (by decide))]; exact z152
  have z168 : q_is (q_z f159 v 3) x118 := by rw [ef159, q_setz (Or.inr (by decide))]; exact z153
  have z169 : q_is (q_z f159 p0 4) x129 := by rw [ef159, q_setz (Or.inr (by decide))]; exact z154
  have z170 : q_is (q_z f159 v 4) x129 := by rw [ef159, q_setz (Or.inr (by decide))]; exact z155
  have z171 : q_is (q_z f159 p0 5) x142 := by rw [ef159, q_setz (Or.inr (by decide))]; exact z156
  have z172 : q_is (q_z f159 v 5) x142 := by rw [ef159, q_setz (Or.inr (by decide))]; exact z145
  have z173 : q_is (q_z f159 p0 6) x157 := by rw [ef159, q_setz (Or.inl (fun q => by rw [q, kv] at kp0; exact absurd kp0 (by decide)))]; exact ex157
  refine q_ald_n cx dX4_copyFrom_56 rfl (lv_at hl 0 rfl) ?_
  refine q_ald_n cx dX4_copyFrom_57 rfl (lv_at hl 1 rfl) ?_
  obtain ⟨x174, ex174⟩ : ∃ zz, q_is (q_z f159 p0 7) zz := ⟨_, q_isr _⟩
  refine q_gX4_31_25 cx hB hp0 kp0 ex174 dX4_copyFrom_58 (fun lb175 ub175 => ?_)
  refine q_pX4_31 cx hB hv kv ⟨by omega, by omega⟩ (by omega) (by omega) rfl dX4_copyFrom_61 (fun H locs f176 ef176 z177 hB => ?_)
  have z178 : q_is (q_z f176 p0 0) x97 := by rw [ef176, q_setz (Or.inr (by decide))]; exact z161
  have z179 : q_is (q_z f176 v 0) x97 := by rw [ef176, q_setz (Or.inr (by decide))]; exact z162
  have z180 : q_is (q_z f176 p0 1) x102 := by rw [ef176, q_setz (Or.inr (by decide))]; exact z163
  have z181 : q_is (q_z f176 v 1) x102 := by rw [ef176, q_setz (Or.inr (by decide))]; exact z164
  have z182 : q_is (q_z f176 p0 2) x109 := by rw [ef176, q_setz (Or.inr (by decide))]; exact z165
  have z183 : q_is (q_z f176 v 2) x109 := by rw [ef176, q_setz (Or.inr (by decide))]; exact z166
  have z184 : q_is (q_z f176 p0 3) x118 := by rw [ef176, q_setz (Or.inr (by decide))]; exact z167
  have z185 : q_is (q_z f176 v 3) x118 := by rw [ef176, q_setz (Or.inr (by decide))]; exact z168
  have z186 : q_is (q_z f176 p0 4) x129 := by rw [ef176, q_setz (Or.inr (by decide))]; exact z169
  have z187 : q_is (q_z f176 v 4) x129 := by rw [ef176, q_setz (Or.inr (by decide))]; exact z170
  have z188 : q_is (q_z f176 p0 5) x142 := by rw [ef176, q_setz (Or.inr (by decide))]; exact z171
  have z189 : q_is (q_z f176 v 5) x142 := by rw [ef176, q_setz (Or.inr (by decide))]; exact z172
  have z190 : q_is (q_z f176 p0 6) x157 := by rw [ef176, q_setz (Or.inr (by decide))]; exact z173
  have z191 : q_is (q_z f176 v 6) x157 := by rw [ef176, q_setz (Or.inr (by decide))]; exact z160
  have z192 : q_is (q_z f176 p0 7) x174 := by rw [ef176, q_setz (Or.inl (fun q => by rw [q, kv] at kp0; exact absurd kp0 (by decide)))]; exact ex174
  refine q_vret cx hr hlk hB dX4_copyFrom_64 ?_
  trivial
set_option maxHeartbeats 4000000 in
set_option maxRecDepth 100000 in
theorem g_X4_copyFrom_02 (l : Launch) (g : q_G) {K : Nat → Nat} {L : List Nat} (hN : L.Nodup) {f : Nat → va_E} (hT : q_Ty g K L f) (v : Nat) (hv : v ∈ L) (kv : K v = 4) (p0 : Nat) (hp0 : p0 ∈ L) (kp0 : K p0 = 26) : q_Ct l g K L yX4_copyFrom cX4_copyFrom 2 none 0 0 [.ref v, .ref p0] f [(4, 0, 7)] (q_Pv (fun (f1 : Nat → va_E) => True)) := by
  refine q_ofb (by decide +kernel) hN hT (Nat.le_of_ble_eq_true rfl) ?_
  intro p e s m below meth c ls cx hr hlk hB hl
  have hl : lv_has ls 2 [(0, .ref v), (1, .ref p0)] := hl
  obtain ⟨H, hH⟩ : ∃ H : Heap, H = s.heap := ⟨_, rfl⟩
  obtain ⟨locs, hlocs⟩ : ∃ z : List Loc, z = [] := ⟨_, rfl⟩
  rw [← hH, ← hlocs] at hB
  rw [← hH, ← hlocs]
  refine q_ald_n cx dX4_copyFrom_0 rfl (lv_at hl 0 rfl) ?_
  refine q_ald_n cx dX4_copyFrom_1 rfl (lv_at hl 1 rfl) ?_
  obtain ⟨x97, ex97⟩ : ∃ zz, q_is (q_z f p0 0) zz := ⟨_, q_isr _⟩
  refine q_gX4_7_26 cx hB hp0 kp0 ex97 dX4_copyFrom_2 (fun lb98 ub98 => ?_)
  refine q_pX4_7 cx hB hv kv ⟨by omega, by omega⟩ (by omega) (by omega) rfl dX4_copyFrom_5 (fun H locs f99 ef99 z100 hB => ?_)
  have z101 : q_is (q_z f99 p0 0) x97 := by rw [ef99, q_setz (Or.inl (fun q => by rw [q, kv] at kp0; exact absurd kp0 (by decide)))]; exact ex97
  refine q_ald_n cx dX4_copyFrom_8 rfl (lv_at hl 0 rfl) ?_
  refine q_ald_n cx dX4_copyFrom_9 rfl (lv_at hl 1 rfl) ?_
  obtain ⟨x102, ex102⟩ : ∃ zz, q_is (q_z f99 p0 1) zz := ⟨_, q_isr _⟩
  refine q_gX4_13_26 cx hB hp0 kp0 ex102 dX4_copyFrom_10 (fun lb103 ub103 => ?_)
  refine q_pX4_13 cx hB hv kv ⟨by omega, by omega⟩ (by omega) (by omega) rfl dX4_copyFrom_13 (fun H locs f104 ef104 z105 hB => ?_)
  have z106 : q_is (q_z f104 p0 0) x97 := by rw [ef104, q_setz (Or.inr (by decide))]; exact z101
  have z107 : q_is (q_z f104 v 0) x97 := by rw [ef104, q_setz (Or.inr (by decide))]; exact z100
  have z108 : q_is (q_z f104 p0 1) x102 := by rw [ef104, q_setz (Or.inl (fun q => by rw [q, kv] at kp0; exact absurd kp0 (by decide)))]; exact ex102
  refine q_ald_n cx dX4_copyFrom_16 rfl (lv_at hl 0 rfl) ?_
  refine q_ald_n cx dX4_copyFrom_17 rfl (lv_at hl 1 rfl) ?_
  obtain ⟨x109, ex109⟩ : ∃ zz, q_is (q_z f104 p0 2) zz := ⟨_, q_isr _⟩
  refine q_gX4_16_26 cx hB hp0 kp0 ex109 dX4_copyFrom_18 (fun lb110 ub110 => ?_)
  refine q_pX4_16 cx hB hv kv ⟨by omega, by omega⟩ (by omega) (by omega) rfl dX4_copyFrom_21 (fun H locs f111 ef111 z112 hB => ?_)
  have z113 : q_is (q_z f111 p0 0) x97 := by rw [ef111, q_setz (Or.inr (by decide))]; exact z106
  have z114 : q_is (q_z f111 v 0) x97 := by rw [ef111, q_setz (Or.inr (by decide))]; exact z107
  have z115 : q_is (q_z f111 p0 1) x102 := by rw [ef111, q_setz (Or.inr (by decide))]; exact z108
  have z116 : q_is (q_z f111 v 1) x102 := by rw [ef111, q_setz (Or.inr (by decide))]; exact z105
  have z117 : q_is (q_z f111 p0 2) x109 := by rw [ef111, q_setz (Or.inl (fun q => by rw [q, kv] at kp0; exact absurd kp0 (by decide)))]; exact ex109
  refine q_ald_n cx dX4_copyFrom_24 rfl (lv_at hl 0 rfl) ?_
  refine q_ald_n cx dX4_copyFrom_25 rfl (lv_at hl 1 rfl) ?_
  obtain ⟨x118, ex118⟩ : ∃ zz, q_is (q_z f111 p0 3) zz := ⟨_, q_isr _⟩
  refine q_gX4_19_26 cx hB hp0 kp0 ex118 dX4_copyFrom_26 (fun lb119 ub119 => ?_)
  refine q_pX4_19 cx hB hv kv ⟨by omega, by omega⟩ (by omega) (by omega) rfl dX4_copyFrom_29 (fun H locs f120 ef120 z121 hB => ?_)
  have z122 : q_is (q_z f120 p0 0) x97 := by rw [ef120, q_setz (Or.inr (by decide))]; exact z113
  have z123 : q_is (q_z f120 v 0) x97 := by rw [ef120, q_setz (Or.inr (by decide))]; exact z114
  have z124 : q_is (q_z f120 p0 1) x102 := by rw [ef120, q_setz (Or.inr (by decide))]; exact z115
  have z125 : q_is (q_z f120 v 1) x102 := by rw [ef120, q_setz (Or.inr (by decide))]; exact z116
  have z126 : q_is (q_z f120 p0 2) x109 := by rw [ef120, q_setz (Or.inr (by decide))]; exact z117
  have z127 : q_is (q_z f120 v 2) x109 := by rw [ef120, q_setz (Or.inr (by decide))]; exact z112
  have z128 : q_is (q_z f120 p0 3) x118 := by rw [ef120, q_setz (Or.inl (fun q => by rw [q, kv] at kp0; exact absurd kp0 (by decide)))]; exact ex118
  refine q_ald_n cx dX4_copyFrom_32 rfl (lv_at hl 0 rfl) ?_
  refine q_ald_n cx dX4_copyFrom_33 rfl (lv_at hl 1 rfl) ?_
  obtain ⟨x129, ex129⟩ : ∃ zz, q_is (q_z f120 p0 4) zz := ⟨_, q_isr _⟩
  refine q_gX4_22_26 cx hB hp0 kp0 ex129 dX4_copyFrom_34 (fun lb130 ub130 => ?_)
  refine q_pX4_22 cx hB hv kv ⟨by omega, by omega⟩ (by omega) (by omega) rfl dX4_copyFrom_37 (fun H locs f131 ef131 z132 hB => ?_)
  have z133 : q_is (q_z f131 p0 0) x97 := by rw [ef131, q_setz (Or.inr (by decide))]; exact z122
  have z134 : q_is (q_z f131 v 0) x97 := by rw [ef131, q_setz (Or.inr (by decide))]; exact z123
  have z135 : q_is (q_z f131 p0 1) x102 := by rw [ef131, q_setz (Or.inr (by decide))]; exact z124
  have z136 : q_is (q_z f131 v 1) x102 := by rw [ef131, q_setz (Or.inr (by decide))]; exact z125
  have z137 : q_is (q_z f131 p0 2) x109 := by rw [ef131, q_setz (Or.inr (by decide))]; exact z126
  have z138 : q_is (q_z f131 v 2) x109 := by rw [ef131, q_setz (Or.inr (by decide))]; exact z127
  have z139 : q_is (q_z f131 p0 3) x118 := by rw [ef131, q_setz (Or.inr (by decide))]; exact z128
  have z140 : q_is (q_z f131 v 3) x118 := by rw [ef131, q_setz (Or.inr (by decide))]; exact z121
  have z141 : q_is (q_z f131 p0 4) x129 := by rw [ef131, q_setz (Or.inl (fun q => by rw [q, kv] at kp0; exact absurd kp0 (by decide)))]; exact ex129
  refine q_ald_n cx dX4_copyFrom_40 rfl (lv_at hl 0 rfl) ?_
  refine q_ald_n cx dX4_copyFrom_41 rfl (lv_at hl 1 rfl) ?_
  obtain ⟨x142, ex142⟩ : ∃ zz, q_is (q_z f131 p0 5) zz := ⟨_, q_isr _⟩
  refine q_gX4_25_26 cx hB hp0 kp0 ex142 dX4_copyFrom_42 (fun lb143 ub143 => ?_)
  refine q_pX4_25 cx hB hv kv ⟨by omega, by omega⟩ (by omega) (by omega) rfl dX4_copyFrom_45 (fun H locs f144 ef144 z145 hB => ?_)
  have z146 : q_is (q_z f144 p0 0) x97 := by rw [ef144, q_setz (Or.inr (by decide))]; exact z133
  have z147 : q_is (q_z f144 v 0) x97 := by rw [ef144, q_setz (Or.inr (by decide))]; exact z134
  have z148 : q_is (q_z f144 p0 1) x102 := by rw [ef144, q_setz (Or.inr (by decide))]; exact z135
  have z149 : q_is (q_z f144 v 1) x102 := by rw [ef144, q_setz (Or.inr (by decide))]; exact z136
  have z150 : q_is (q_z f144 p0 2) x109 := by rw [ef144, q_setz (Or.inr (by decide))]; exact z137
  have z151 : q_is (q_z f144 v 2) x109 := by rw [ef144, q_setz (Or.inr (by decide))]; exact z138
  have z152 : q_is (q_z f144 p0 3) x118 := by rw [ef144, q_setz (Or.inr (by decide))]; exact z139
  have z153 : q_is (q_z f144 v 3) x118 := by rw [ef144, q_setz (Or.inr (by decide))]; exact z140
  have z154 : q_is (q_z f144 p0 4) x129 := by rw [ef144, q_setz (Or.inr (by decide))]; exact z141
  have z155 : q_is (q_z f144 v 4) x129 := by rw [ef144, q_setz (Or.inr (by decide))]; exact z132
  have z156 : q_is (q_z f144 p0 5) x142 := by rw [ef144, q_setz (Or.inl (fun q => by rw [q, kv] at kp0; exact absurd kp0 (by decide)))]; exact ex142
  refine q_ald_n cx dX4_copyFrom_48 rfl (lv_at hl 0 rfl) ?_
  refine q_ald_n cx dX4_copyFrom_49 rfl (lv_at hl 1 rfl) ?_
  obtain ⟨x157, ex157⟩ : ∃ zz, q_is (q_z f144 p0 6) zz := ⟨_, q_isr _⟩
  refine q_gX4_28_26 cx hB hp0 kp0 ex157 dX4_copyFrom_50 (fun lb158 ub158 => ?_)
  refine q_pX4_28 cx hB hv kv ⟨by omega, by omega⟩ (by omega) (by omega) rfl dX4_copyFrom_53 (fun H locs f159 ef159 z160 hB => ?_)
  have z161 : q_is (q_z f159 p0 0) x97 := by rw [ef159, q_setz (Or.inr (by decide))]; exact z146
  have z162 : q_is (q_z f159 v 0) x97 := by rw [ef159, q_setz (Or.inr (by decide))]; exact z147
  have z163 : q_is (q_z f159 p0 1) x102 := by rw [ef159, q_setz (Or.inr (by decide))]; exact z148
  have z164 : q_is (q_z f159 v 1) x102 := by rw [ef159, q_setz (Or.inr (by decide))]; exact z149
  have z165 : q_is (q_z f159 p0 2) x109 := by rw [ef159, q_setz (Or.inr (by decide))]; exact z150
  have z166 : q_is (q_z f159 v 2) x109 := by rw [ef159, q_setz (Or.inr (by decide))]; exact z151
  have z167 : q_is (q_z f159 p0 3) x118 := by rw [ef159, q_setz (Or.inr (by decide))]; exact z152
  have z168 : q_is (q_z f159 v 3) x118 := by rw [ef159, q_setz (Or.inr (by decide))]; exact z153
  have z169 : q_is (q_z f159 p0 4) x129 := by rw [ef159, q_setz (Or.inr (by decide))]; exact z154
  have z170 : q_is (q_z f159 v 4) x129 := by rw [ef159, q_setz (Or.inr (by decide))]; exact z155
  have z171 : q_is (q_z f159 p0 5) x142 := by rw [ef159, q_setz (Or.inr (by decide))]; exact z156
  have z172 : q_is (q_z f159 v 5) x142 := by rw [ef159, q_setz (Or.inr (by decide))]; exact z145
  have z173 : q_is (q_z f159 p0 6) x157 := by rw [ef159, q_setz (Or.inl (fun q => by rw [q, kv] at kp0; exact absurd kp0 (by decide)))]; exact ex157
  refine q_ald_n cx dX4_copyFrom_56 rfl (lv_at hl 0 rfl) ?_
  refine q_ald_n cx dX4_copyFrom_57 rfl (lv_at hl 1 rfl) ?_
  obtain ⟨x174, ex174⟩ : ∃ zz, q_is (q_z f159 p0 7) zz := ⟨_, q_isr _⟩
  refine q_gX4_31_26 cx hB hp0 kp0 ex174 dX4_copyFrom_58 (fun lb175 ub175 => ?_)
  refine q_pX4_31 cx hB hv kv ⟨by omega, by omega⟩ (by omega) (by omega) rfl dX4_copyFrom_61 (fun H locs f176 ef176 z177 hB => ?_)
  have z178 : q_is (q_z f176 p0 0) x97 := by rw [ef176, q_setz (Or.inr (by decide))]; exact z161
  have z179 : q_is (q_z f176 v 0) x97 := by rw [ef176, q_setz (Or.inr (by decide))]; exact z162
  have z180 : q_is (q_z f176 p0 1) x102 := by rw [ef176, q_setz (Or.inr (by decide))]; exact z163
  have z181 : q_is (q_z f176 v 1) x102 := by rw [ef176, q_setz (Or.inr (by decide))]; exact z164
  have z182 : q_is (q_z f176 p0 2) x109 := by rw [ef176, q_setz (Or.inr (by decide))]; exact z165
  have z183 : q_is (q_z f176 v 2) x109 := by rw [ef176, q_setz (Or.inr (by decide))]; exact z166
  have z184 : q_is (q_z f176 p0 3) x118 := by rw [ef176, q_setz (Or.inr (by decide))]; exact z167
  have z185 : q_is (q_z f176 v 3) x118 := by rw [ef176, q_setz (Or.inr (by decide))]; exact z168
  have z186 : q_is (q_z f176 p0 4) x129 := by rw [ef176, q_setz (Or.inr (by decide))]; exact z169
  have z187 : q_is (q_z f176 v 4) x129 := by rw [ef176, q_setz (Or.inr (by decide))]; exact z170
  have z188 : q_is (q_z f176 p0 5) x142 := by rw [ef176, q_setz (Or.inr (by decide))]; exact z171
  have z189 : q_is (q_z f176 v 5) x142 := by rw [ef176, q_setz (Or.inr (by decide))]; exact z172
  have z190 : q_is (q_z f176 p0 6) x157 := by rw [ef176, q_setz (Or.inr (by decide))]; exact z173
  have z191 : q_is (q_z f176 v 6) x157 := by rw [ef176, q_setz (Or.inr (by decide))]; exact z160
  have z192 : q_is (q_z f176 p0 7) x174 := by rw [ef176, q_setz (Or.inl (fun q => by rw [q, kv] at kp0; exact absurd kp0 (by decide)))]; exact ex174
  refine q_vret cx hr hlk hB dX4_copyFrom_64 ?_
  trivial
set_option maxHeartbeats 4000000 in
set_option maxRecDepth 100000 in
theorem g_X4_copyFrom_04 (l : Launch) (g : q_G) {K : Nat → Nat} {L : List Nat} (hN : L.Nodup) {f : Nat → va_E} (hT : q_Ty g K L f) (v : Nat) (hv : v ∈ L) (kv : K v = 4) (p0 : Nat) (hp0 : p0 ∈ L) (kp0 : K p0 = 28) : q_Ct l g K L yX4_copyFrom cX4_copyFrom 2 none 0 0 [.ref v, .ref p0] f [(4, 0, 7)] (q_Pv (fun (f1 : Nat → va_E) => True)) := by
  refine q_ofb (by decide +kernel) hN hT (Nat.le_of_ble_eq_true rfl) ?_
  intro p e s m below meth c ls cx hr hlk hB hl
  have hl : lv_has ls 2 [(0, .ref v), (1, .ref p0)] := hl
  obtain ⟨H, hH⟩ : ∃ H : Heap, H = s.heap := ⟨_, rfl⟩
  obtain ⟨locs, hlocs⟩ : ∃ z : List Loc, z = [] := ⟨_, rfl⟩
  rw [← hH, ← hlocs] at hB
  rw [← hH, ← hlocs]
  refine q_ald_n cx dX4_copyFrom_0 rfl (lv_at hl 0 rfl) ?_
  refine q_ald_n cx dX4_copyFrom_1 rfl (lv_at hl 1 rfl) ?_
  obtain ⟨x97, ex97⟩ : ∃ zz, q_is (q_z f p0 0) zz := ⟨_, q_isr _⟩
  refine q_gX4_7_28 cx hB hp0 kp0 ex97 dX4_copyFrom_2 (fun lb98 ub98 => ?_)
  refine q_pX4_7 cx hB hv kv ⟨by omega, by omega⟩ (by omega) (by omega) rfl dX4_copyFrom_5 (fun H locs f99 ef99 z100 hB => ?_)
  have z101 : q_is (q_z f99 p0 0) x97 := by rw [ef99, q_setz (Or.inl (fun q => by rw [q, kv] at kp0; exact absurd kp0 (by decide)))]; exact ex97
  refine q_ald_n cx dX4_copyFrom_8 rfl (lv_at hl 0 rfl) ?_
  refine q_ald_n cx dX4_copyFrom_9 rfl (lv_at hl 1 rfl) ?_
  obtain ⟨x102, ex102⟩ : ∃ zz, q_is (q_z f99 p0 1) zz := ⟨_, q_isr _⟩
  refine q_gX4_13_28 cx hB hp0 kp0 ex102 dX4_copyFrom_10 (fun lb103 ub103 => ?_)
  refine q_pX4_13 cx hB hv kv ⟨by omega, by omega⟩ (by omega) (by omega) rfl dX4_copyFrom_13 (fun H locs f104 ef104 z105 hB => ?_)
  have z106 : q_is (q_z f104 p0 0) x97 := by rw [ef104, q_setz (Or.inr (by decide))]; exact z101
  have z107 : q_is (q_z f104 v 0) x97 := by rw [ef104, q_setz (Or.inr (by decide))]; exact z100
  have z108 : q_is (q_z f104 p0 1) x102 := by rw [ef104, q_setz (Or.inl (fun q => by rw [q, kv] at kp0; exact absurd kp0 (by decide)))]; exact ex102
  refine q_ald_n cx dX4_copyFrom_16 rfl (lv_at hl 0 rfl) ?_
  refine q_ald_n cx dX4_copyFrom_17 rfl (lv_at hl 1 rfl) ?_
  obtain ⟨x109, ex109⟩ : ∃ zz, q_is (q_z f104 p0 2) zz := ⟨_, q_isr _⟩
  refine q_gX4_16_28 cx hB hp0 kp0 ex109 dX4_copyFrom_18 (fun lb110 ub110 => ?_)
  refine q_pX4_16 cx hB hv kv ⟨by omega, by omega⟩ (by omega) (by omega) rfl dX4_copyFrom_21 (fun H locs f111 ef111 z112 hB => ?_)
  have z113 : q_is (q_z f111 p0 0) x97 := by rw [ef111, q_setz (Or.inr (by decide))]; exact z106
  have z114 : q_is (q_z f111 v 0) x97 := by rw [ef111, q_setz (Or.inr (by decide))]; exact z107
  have z115 : q_is (q_z f111 p0 1) x102 := by rw [ef111, q_setz (Or.inr (by decide))]; exact z108
  have z116 : q_is (q_z f111 v 1) x102 := by rw [ef111, q_setz (Or.inr (by decide))]; exact z105
  have z117 : q_is (q_z f111 p0 2) x109 := by rw [ef111, q_setz (Or.inl (fun q => by rw [q, kv] at kp0; exact absurd kp0 (by decide)))]; exact ex109
  refine q_ald_n cx dX4_copyFrom_24 rfl (lv_at hl 0 rfl) ?_
  refine q_ald_n cx dX4_copyFrom_25 rfl (lv_at hl 1 rfl) ?_
  obtain ⟨x118, ex118⟩ : ∃ zz, q_is (q_z f111 p0 3) zz := ⟨_, q_isr _⟩
  refine q_gX4_19_28 cx hB hp0 kp0 ex118 dX4_copyFrom_26 (fun lb119 ub119 => ?_)
  refine q_pX4_19 cx hB hv kv ⟨by omega, by omega⟩ (by omega) (by omega) rfl dX4_copyFrom_29 (fun H locs f120 ef120 z121 hB => ?_)
  have z122 : q_is (q_z f120 p0 0) x97 := by rw [ef120, q_setz (Or.inr (by decide))]; exact z113
  have z123 : q_is (q_z f120 v 0) x97 := by rw [ef120, q_setz (Or.inr (by decide))]; exact z114
  have z124 : q_is (q_z f120 p0 1) x102 := by rw [ef120, q_setz (Or.inr (by decide))]; exact z115
  have z125 : q_is (q_z f120 v 1) x102 := by rw [ef120, q_setz (Or.inr (by decide))]; exact z116
  have z126 : q_is (q_z f120 p0 2) x109 := by rw [ef120, q_setz (Or.inr (by decide))]; exact z117
  have z127 : q_is (q_z f120 v 2) x109 := by rw [ef120, q_setz (Or.inr (by decide))]; exact z112
  have z128 : q_is (q_z f120 p0 3) x118 := by rw [ef120, q_setz (Or.inl (fun q => by rw [q, kv] at kp0; exact absurd kp0 (by decide)))]; exact ex118
  refine q_ald_n cx dX4_copyFrom_32 rfl (lv_at hl 0 rfl) ?_
  refine q_ald_n cx dX4_copyFrom_33 rfl (lv_at hl 1 rfl) ?_
  obtain ⟨x129, ex129⟩ : ∃ zz, q_is (q_z f120 p0 4) zz := ⟨_, q_isr _⟩
  refine q_gX4_22_28 cx hB hp0 kp0 ex129 dX4_copyFrom_34 (fun lb130 ub130 => ?_)
  refine q_pX4_22 cx hB hv kv ⟨by omega, by omega⟩ (by omega) (by omega) rfl dX4_copyFrom_37 (fun H locs f131 ef131 z132 hB => ?_)
  have z133 : q_is (q_z f131 p0 0) x97 := by rw [ef131, q_setz (Or.inr (by decide))]; exact z122
  have z134 : q_is (q_z f131 v 0) x97 := by rw [ef131, q_setz (Or.inr (by decide))]; exact z123
  have z135 : q_is (q_z f131 p0 1) x102 := by rw [ef131, q_setz (Or.inr (by decide))]; exact z124
  have z136 : q_is (q_z f131 v 1) x102 := by rw [ef131, q_setz (Or.inr (by decide))]; exact z125
  have z137 : q_is (q_z f131 p0 2) x109 := by rw [ef131, q_setz (Or.inr (by decide))]; exact z126
  have z138 : q_is (q_z f131 v 2) x109 := by rw [ef131, q_setz (Or.inr (by decide))]; exact z127
  have z139 : q_is (q_z f131 p0 3) x118 := by rw [ef131, q_setz (Or.inr (by decide))]; exact z128
  have z140 : q_is (q_z f131 v 3) x118 := by rw [ef131, q_setz (Or.inr (by decide))]; exact z121
  have z141 : q_is (q_z f131 p0 4) x129 := by rw [ef131, q_setz (Or.inl (fun q => by rw [q, kv] at kp0; exact absurd kp0 (by decide)))]; exact ex129
  refine q_ald_n cx dX4_copyFrom_40 rfl (lv_at hl 0 rfl) ?_
  refine q_ald_n cx dX4_copyFrom_41 rfl (lv_at hl 1 rfl) ?_
  obtain ⟨x142, ex142⟩ : ∃ zz, q_is (q_z f131 p0 5) zz := ⟨_, q_isr _⟩
  refine q_gX4_25_28 cx hB hp0 kp0 ex142 dX4_copyFrom_42 (fun lb143 ub143 => ?_)
  refine q_pX4_25 cx hB hv kv ⟨by omega, by omega⟩ (by omega) (by omega) rfl dX4_copyFrom_45 (fun H locs f144 ef144 z145 hB => ?_)
  have z146 : q_is (q_z f144 p0 0) x97 := by rw [ef144, q_setz (Or.inr (by decide))]; exact z133
  have z147 : q_is (q_z f144 v 0) x97 := by rw [ef144, q_setz (Or.inr (by decide))]; exact z134
  have z148 : q_is (q_z f144 p0 1) x102 := by rw [ef144, q_setz (Or.inr (by decide))]; exact z135
  have z149 : q_is (q_z f144 v 1) x102 := by rw [ef144, q_setz (Or.inr (by decide))]; exact z136
  have z150 : q_is (q_z f144 p0 2) x109 := by rw [ef144, q_setz (Or.inr (by decide))]; exact z137
  have z151 : q_is (q_z f144 v 2) x109 := by rw [ef144, q_setz (Or.inr (by decide))]; exact z138
  have z152 : q_is (q_z f144 p0 3) x118 := by rw [ef144, q_setz (Or.inr (by decide))]; exact z139
  have z153 : q_is (q_z f144 v 3) x118 := by rw [ef144, q_setz (Or.inr (by decide))]; exact z140
  have z154 : q_is (q_z f144 p0 4) x129 := by rw [ef144, q_setz (Or.inr (by decide))]; exact z141
  have z155 : q_is (q_z f144 v 4) x129 := by rw [ef144, q_setz (Or.inr (by decide))]; exact z132
  have z156 : q_is (q_z f144 p0 5) x142 := by rw [ef144, q_setz (Or.inl (fun q => by rw [q, kv] at kp0; exact absurd kp0 (by decide)))]; exact ex142
  refine q_ald_n cx dX4_copyFrom_48 rfl (lv_at hl 0 rfl) ?_
  refine q_ald_n cx dX4_copyFrom_49 rfl (lv_at hl 1 rfl) ?_
  obtain ⟨x157, ex157⟩ : ∃ zz, q_is (q_z f144 p0 6) zz := ⟨_, q_isr _⟩
  refine q_gX4_28_28 cx hB hp0 kp0 ex157 dX4_copyFrom_50 (fun lb158 ub158 => ?_)
  refine q_pX4_28 cx hB hv kv ⟨by omega, by omega⟩ (by omega) (by omega) rfl dX4_copyFrom_53 (fun H locs f159 ef159 z160 hB => ?_)
  have z161 : q_is (q_z f159 p0 0) x97 := by rw [ef159, q_setz (Or.inr (by decide))]; exact z146
  have z162 : q_is (q_z f159 v 0) x97 := by rw [ef159, q_setz (Or.inr (by decide))]; exact z147
  have z163 : q_is (q_z f159 p0 1) x102 := by rw [ef159, q_setz (Or.inr (by decide))]; exact z148
  have z164 : q_is (q_z f159 v 1) x102 := by rw [ef159, q_setz (Or.inr (by decide))]; exact z149
  have z165 : q_is (q_z f159 p0 2) x109 := by rw [ef159, q_setz (Or.inr (by decide))]; exact z150
  have z166 : q_is (q_z f159 v 2) x109 := by rw [ef159, q_setz (Or.inr (by decide))]; exact z151
  have z167 : q_is (q_z f159 p0 3) x118 := by rw [ef159, q_setz (Or.inr (by decide))]; exact z152
  have z168 : q_is (q_z f159 v 3) x118 := by rw [ef159, q_setz (Or.inr (by decide))]; exact z153
  have z169 : q_is (q_z f159 p0 4) x129 := by rw [ef159, q_setz (Or.inr (by decide))]; exact z154
  have z170 : q_is (q_z f159 v 4) x129 := by rw [ef159, q_setz (Or.inr (by decide))]; exact z155
  have z171 : q_is (q_z f159 p0 5) x142 := by rw [ef159, q_setz (Or.inr (by decide))]; exact z156
  have z172 : q_is (q_z f159 v 5) x142 := by rw [ef159, q_setz (Or.inr (by decide))]; exact z145
  have z173 : q_is (q_z f159 p0 6) x157 := by rw [ef159, q_setz (Or.inl (fun q => by rw [q, kv] at kp0; exact absurd kp0 (by decide)))]; exact ex157
  refine q_ald_n cx dX4_copyFrom_56 rfl (lv_at hl 0 rfl) ?_
  refine q_ald_n cx dX4_copyFrom_57 rfl (lv_at hl 1 rfl) ?_
  obtain ⟨x174, ex174⟩ : ∃ zz, q_is (q_z f159 p0 7) zz := ⟨_, q_isr _⟩
  refine q_gX4_31_28 cx hB hp0 kp0 ex174 dX4_copyFrom_58 (fun lb175 ub175 => ?_)
  refine q_pX4_31 cx hB hv kv ⟨by omega, by omega⟩ (by omega) (by omega) rfl dX4_copyFrom_61 (fun H locs f176 ef176 z177 hB => ?_)
  have z178 : q_is (q_z f176 p0 0) x97 := by rw [ef176, q_setz (Or.inr (by decide))]; exact z161
  have z179 : q_is (q_z f176 v 0) x97 := by rw [ef176, q_setz (Or.inr (by decide))]; exact z162
  have z180 : q_is (q_z f176 p0 1) x102 := by rw [ef176, q_setz (Or.inr (by decide))]; exact z163
  have z181 : q_is (q_z f176 v 1) x102 := by rw [ef176, q_setz (Or.inr (by decide))]; exact z164
  have z182 : q_is (q_z f176 p0 2) x109 := by rw [ef176, q_setz (Or.inr (by decide))]; exact z165
  have z183 : q_is (q_z f176 v 2) x109 := by rw [ef176, q_setz (Or.inr (by decide))]; exact z166
  have z184 : q_is (q_z f176 p0 3) x118 := by rw [ef176, q_setz (Or.inr (by decide))]; exact z167
  have z185 : q_is (q_z f176 v 3) x118 := by rw [ef176, q_setz (Or.inr (by decide))]; exact z168
  have z186 : q_is (q_z f176 p0 4) x129 := by rw [ef176, q_setz (Or.inr (by decide))]; exact z169
  have z187 : q_is (q_z f176 v 4) x129 := by rw [ef176, q_setz (Or.inr (by decide))]; exact z170
  have z188 : q_is (q_z f176 p0 5) x142 := by rw [ef176, q_setz (Or.inr (by decide))]; exact z171
  have z189 : q_is (q_z f176 v 5) x142 := by rw [ef176, q_setz (Or.inr (by decide))]; exact z172
  have z190 : q_is (q_z f176 p0 6) x157 := by rw [ef176, q_setz (Or.inr (by decide))]; exact z173
  have z191 : q_is (q_z f176 v 6) x157 := by rw [ef176, q_setz (Or.inr (by decide))]; exact z160
  have z192 : q_is (q_z f176 p0 7) x174 := by rw [ef176, q_setz (Or.inl (fun q => by rw [q, kv] at kp0; exact absurd kp0 (by decide)))]; exact ex174
  refine q_vret cx hr hlk hB dX4_copyFrom_64 ?_
  trivial
