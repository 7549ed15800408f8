set_option maxHeartbeats 4000000 in
set_option maxRecDepth 100000 in
theorem r_wrong0 (l : Launch) (g : q_G) {K : Nat → Nat} {L : List Nat} (hN : L.Nodup) {f : Nat → va_E} (hT : q_Ty g K L f) (mo : Nat) (hmo : mo ∈ L) (kmo : K mo = 12) (a0 : Int) (la0 : 1 ≤ a0) (ua0 : a0 ≤ 5) (hf0 : q_is (q_z f mo 8) 0) : q_Ct l g K L yX12_wrong cX12_wrong 2 none 0 0 [.ref mo, .int (q_i a0)] f [(12, 8, 9)] (q_Pv (fun (f1 : Nat → va_E) => 1 ≤ q_z f1 mo 8 ∧ q_z f1 mo 8 ≤ 5)) := by
  refine q_ofb (by decide +kernel) hN hT (Nat.le_of_ble_eq_true rfl) ?_
  intro p e s m below meth c ls cx hr hlk hB hl
  have hl : lv_has ls 2 [(0, .ref mo), (1, .int (q_i a0))] := hl
  obtain ⟨H, hH⟩ : ∃ H : Heap, H = s.heap := ⟨_, rfl⟩
  obtain ⟨locs, hlocs⟩ : ∃ z : List Loc, z = [] := ⟨_, rfl⟩
  rw [← hH, ← hlocs] at hB
  rw [← hH, ← hlocs]
  refine q_ald_n cx dX12_wrong_0 rfl (lv_at hl 0 rfl) ?_
  refine q_gX12_127 cx hB hmo kmo hf0 dX12_wrong_1 (fun lb26 ub26 => ?_)
  refine q_ifle (tgt := 8) cx ⟨by decide, by decide⟩ dX12_wrong_4 (by decide) (fun c27 => ?_) (fun c27 => ?_)
  · refine q_ald_n cx dX12_wrong_8 rfl (lv_at hl 0 rfl) ?_
    refine q_ald_n cx dX12_wrong_9 rfl (lv_at hl 0 rfl) ?_
    obtain ⟨x28, ex28⟩ : ∃ zz, q_is (q_z f mo 6) zz := ⟨_, q_isr _⟩
    refine q_gX12_117 cx hB hmo kmo ex28 dX12_wrong_10 (fun lb29 ub29 => ?_)
    refine q_iconst cx dX12_wrong_13 ?_
    refine q_icne (tgt := 21) cx ⟨by omega, by omega⟩ ⟨by decide, by decide⟩ dX12_wrong_14 (by decide) (fun c30 => ?_) (fun c30 => ?_)
    · refine q_ild_n cx dX12_wrong_21 rfl (lv_at hl 1 rfl) ?_
      refine q_pX12_127 cx hB hmo kmo ⟨by omega, by omega⟩ (by omega) (by omega) rfl dX12_wrong_22 (fun H locs f31 ef31 z32 hB => ?_)
      have z33 : q_is (q_z f31 mo 6) x28 := by rw [ef31, q_setz (Or.inr (by decide))]; exact ex28
      refine q_ald_n cx dX12_wrong_25 rfl (lv_at hl 0 rfl) ?_
      refine q_ald_n cx dX12_wrong_26 rfl (lv_at hl 0 rfl) ?_
      obtain ⟨x34, ex34⟩ : ∃ zz, q_is (q_z f31 mo 5) zz := ⟨_, q_isr _⟩
      refine q_gX12_107 cx hB hmo kmo ex34 dX12_wrong_27 (fun lb35 ub35 => ?_)
      refine q_pX12_13 cx hB hmo kmo ⟨by omega, by omega⟩ (by omega) (by omega) rfl dX12_wrong_30 (fun H locs f36 ef36 z37 hB => ?_)
      have z38 : q_is (q_z f36 mo 6) x28 := by rw [ef36, q_setz (Or.inr (by decide))]; exact z33
      have z39 : q_is (q_z f36 mo 8) a0 := by rw [ef36, q_setz (Or.inr (by decide))]; exact z32
      have z40 : q_is (q_z f36 mo 5) x34 := by rw [ef36, q_setz (Or.inr (by decide))]; exact ex34
      refine q_vret cx hr hlk hB dX12_wrong_33 ?_
      exact ⟨(q_isl z39 (by omega)), (q_isu z39 (by omega))⟩
    · refine q_iconst cx dX12_wrong_17 ?_
      refine lv_goto (tgt := 22) cx.1 cx.2.1 dX12_wrong_18 (by decide) ?_
      refine q_pX12_127 cx hB hmo kmo ⟨by decide, by decide⟩ (by decide) (by decide) rfl dX12_wrong_22 (fun H locs f41 ef41 z42 hB => ?_)
      have z43 : q_is (q_z f41 mo 6) x28 := by rw [ef41, q_setz (Or.inr (by decide))]; exact ex28
      refine q_ald_n cx dX12_wrong_25 rfl (lv_at hl 0 rfl) ?_
      refine q_ald_n cx dX12_wrong_26 rfl (lv_at hl 0 rfl) ?_
      obtain ⟨x44, ex44⟩ : ∃ zz, q_is (q_z f41 mo 5) zz := ⟨_, q_isr _⟩
      refine q_gX12_107 cx hB hmo kmo ex44 dX12_wrong_27 (fun lb45 ub45 => ?_)
      refine q_pX12_13 cx hB hmo kmo ⟨by omega, by omega⟩ (by omega) (by omega) rfl dX12_wrong_30 (fun H locs f46 ef46 z47 hB => ?_)
      have z48 : q_is (q_z f46 mo 6) x28 := by rw [ef46, q_setz (Or.inr (by decide))]; exact z43
      have z49 : q_is (q_z f46 mo 8) 1 := by rw [ef46, q_setz (Or.inr (by decide))]; exact z42
      have z50 : q_is (q_z f46 mo 5) x44 := by rw [ef46, q_setz (Or.inr (by decide))]; exact ex44
      refine q_vret cx hr hlk hB dX12_wrong_33 ?_
      exact ⟨(q_isl z49 (by omega)), (q_isu z49 (by omega))⟩
  · exact absurd c27 (by omega)
set_option maxHeartbeats 4000000 in
set_option maxRecDepth 100000 in
theorem r_wrong1 (l : Launch) (g : q_G) {K : Nat → Nat} {L : List Nat} (hN : L.Nodup) {f : Nat → va_E} (hT : q_Ty g K L f) (mo : Nat) (hmo : mo ∈ L) (kmo : K mo = 12) (a0 : Int) (la0 : 1 ≤ a0) (ua0 : a0 ≤ 5) (er : Int) (ler : 1 ≤ er) (uer : er ≤ 5) (hf0 : q_is (q_z f mo 8) er) : q_Ct l g K L yX12_wrong cX12_wrong 2 none 0 0 [.ref mo, .int (q_i a0)] f [] (q_Pv (fun (f1 : Nat → va_E) => f = f1)) := by
  refine q_ofb (by decide +kernel) hN hT (Nat.le_of_ble_eq_true rfl) ?_
  intro p e s m below meth c ls cx hr hlk hB hl
  have hl : lv_has ls 2 [(0, .ref mo), (1, .int (q_i a0))] := hl
  obtain ⟨H, hH⟩ : ∃ H : Heap, H = s.heap := ⟨_, rfl⟩
  obtain ⟨locs, hlocs⟩ : ∃ z : List Loc, z = [] := ⟨_, rfl⟩
  rw [← hH, ← hlocs] at hB
  rw [← hH, ← hlocs]
  refine q_ald_n cx dX12_wrong_0 rfl (lv_at hl 0 rfl) ?_
  refine q_gX12_127 cx hB hmo kmo hf0 dX12_wrong_1 (fun lb3 ub3 => ?_)
  refine q_ifle (tgt := 8) cx ⟨by omega, by omega⟩ dX12_wrong_4 (by decide) (fun c4 => ?_) (fun c4 => ?_)
  · exact absurd c4 (by omega)
  · refine q_vret cx hr hlk hB dX12_wrong_7 ?_
    exact rfl
set_option maxHeartbeats 4000000 in
set_option maxRecDepth 100000 in
theorem r_isGood0 (l : Launch) (g : q_G) {K : Nat → Nat} {L : List Nat} (hN : L.Nodup) {f : Nat → va_E} (hT : q_Ty g K L f) (mo : Nat) (hmo : mo ∈ L) (kmo : K mo = 12) (hf0 : q_is (q_z f mo 8) 0) : q_Ct l g K L yX12_isGood cX12_isGood 1 (some .boolean) 0 0 [.ref mo] f [] (q_Pi (fun (z : Int) (f1 : Nat → va_E) => f = f1 ∧ z = 1)) := by
  refine q_ofb (by decide +kernel) hN hT (Nat.le_of_ble_eq_true rfl) ?_
  intro p e s m below meth c ls cx hr hlk hB hl
  have hl : lv_has ls 1 [(0, .ref mo)] := hl
  obtain ⟨H, hH⟩ : ∃ H : Heap, H = s.heap := ⟨_, rfl⟩
  obtain ⟨locs, hlocs⟩ : ∃ z : List Loc, z = [] := ⟨_, rfl⟩
  rw [← hH, ← hlocs] at hB
  rw [← hH, ← hlocs]
  refine q_ald_n cx dX12_isGood_0 rfl (lv_at hl 0 rfl) ?_
  refine q_gX12_127 cx hB hmo kmo hf0 dX12_isGood_1 (fun lb3 ub3 => ?_)
  refine q_ifne (tgt := 11) cx ⟨by decide, by decide⟩ dX12_isGood_4 (by decide) (fun c4 => ?_) (fun c4 => ?_)
  · exact absurd c4 (by omega)
  · refine q_iconst cx dX12_isGood_7 ?_
    refine lv_goto (tgt := 12) cx.1 cx.2.1 dX12_isGood_8 (by decide) ?_
    refine q_zret cx hr hlk hB dX12_isGood_12 (by decide) (by decide) ?_
    exact ⟨rfl, rfl⟩
set_option maxHeartbeats 4000000 in
set_option maxRecDepth 100000 in
theorem r_isGood1 (l : Launch) (g : q_G) {K : Nat → Nat} {L : List Nat} (hN : L.Nodup) {f : Nat → va_E} (hT : q_Ty g K L f) (mo : Nat) (hmo : mo ∈ L) (kmo : K mo = 12) (er : Int) (ler : 1 ≤ er) (uer : er ≤ 5) (hf0 : q_is (q_z f mo 8) er) : q_Ct l g K L yX12_isGood cX12_isGood 1 (some .boolean) 0 0 [.ref mo] f [] (q_Pi (fun (z : Int) (f1 : Nat → va_E) => f = f1 ∧ z = 0)) := by
  refine q_ofb (by decide +kernel) hN hT (Nat.le_of_ble_eq_true rfl) ?_
  intro p e s m below meth c ls cx hr hlk hB hl
  have hl : lv_has ls 1 [(0, .ref mo)] := hl
  obtain ⟨H, hH⟩ : ∃ H : Heap, H = s.heap := ⟨_, rfl⟩
  obtain ⟨locs, hlocs⟩ : ∃ z : List Loc, z = [] := ⟨_, rfl⟩
  rw [← hH, ← hlocs] at hB
  rw [← hH, ← hlocs]
  refine q_ald_n cx dX12_isGood_0 rfl (lv_at hl 0 rfl) ?_
  refine q_gX12_127 cx hB hmo kmo hf0 dX12_isGood_1 (fun lb3 ub3 => ?_)
  refine q_ifne (tgt := 11) cx ⟨by omega, by omega⟩ dX12_isGood_4 (by decide) (fun c4 => ?_) (fun c4 => ?_)
  · refine q_iconst cx dX12_isGood_11 ?_
    refine q_zret cx hr hlk hB dX12_isGood_12 (by decide) (by decide) ?_
    exact ⟨rfl, rfl⟩
  · exact absurd c4 (by omega)
set_option maxHeartbeats 4000000 in
set_option maxRecDepth 100000 in
theorem r_isWord0 (l : Launch) (g : q_G) {K : Nat → Nat} {L : List Nat} (hN : L.Nodup) {f : Nat → va_E} (hT : q_Ty g K L f) (mo : Nat) (hmo : mo ∈ L) (kmo : K mo = 12) (w0 : Int64) (hf0 : q_is (q_z f mo 8) 0) : q_Ct l g K L yX12_isWord cX12_isWord 3 (some .boolean) 0 0 [.ref mo, .long w0] f [] (q_Pi (fun (z : Int) (f1 : Nat → va_E) => (f = f1 ∧ z = 1 ∧ (q_is (q_z f mo 6) 1)) ∨ (f = f1 ∧ z = 0))) := by
  refine q_ofb (by decide +kernel) hN hT (Nat.le_of_ble_eq_true rfl) ?_
  intro p e s m below meth c ls cx hr hlk hB hl
  have hl : lv_has ls 3 [(0, .ref mo), (1, .long w0)] := hl
  obtain ⟨H, hH⟩ : ∃ H : Heap, H = s.heap := ⟨_, rfl⟩
  obtain ⟨locs, hlocs⟩ : ∃ z : List Loc, z = [] := ⟨_, rfl⟩
  rw [← hH, ← hlocs] at hB
  rw [← hH, ← hlocs]
  refine q_ald_n cx dX12_isWord_0 rfl (lv_at hl 0 rfl) ?_
  refine q_gX12_127 cx hB hmo kmo hf0 dX12_isWord_1 (fun lb9 ub9 => ?_)
  refine q_ifne (tgt := 28) cx ⟨by decide, by decide⟩ dX12_isWord_4 (by decide) (fun c10 => ?_) (fun c10 => ?_)
  · exact absurd c10 (by omega)
  · refine q_ald_n cx dX12_isWord_7 rfl (lv_at hl 0 rfl) ?_
    obtain ⟨x11, ex11⟩ : ∃ zz, q_is (q_z f mo 6) zz := ⟨_, q_isr _⟩
    refine q_gX12_117 cx hB hmo kmo ex11 dX12_isWord_8 (fun lb12 ub12 => ?_)
    refine q_iconst cx dX12_isWord_11 ?_
    refine q_icne (tgt := 28) cx ⟨by omega, by omega⟩ ⟨by decide, by decide⟩ dX12_isWord_12 (by decide) (fun c13 => ?_) (fun c13 => ?_)
    · refine q_iconst cx dX12_isWord_28 ?_
      refine q_zret cx hr hlk hB dX12_isWord_29 (by decide) (by decide) ?_
      exact (Or.inr ⟨rfl, rfl⟩)
    · refine q_ald_n cx dX12_isWord_15 rfl (lv_at hl 0 rfl) ?_
      obtain ⟨j14, ej14⟩ : ∃ zz, q_j f mo 12 = zz := ⟨_, rfl⟩
      refine q_gX12_110 cx hB hmo kmo ej14 dX12_isWord_16 ?_
      refine q_lld_n cx dX12_isWord_19 rfl (lv_at hl 1 rfl) ?_
      refine q_lcmp cx dX12_isWord_20 (fun y15 ly15 uy15 ey15 gy15 hy15 => ?_)
      refine q_ifne (tgt := 28) cx ⟨by omega, by omega⟩ dX12_isWord_21 (by decide) (fun c16 => ?_) (fun c16 => ?_)
      · refine q_iconst cx dX12_isWord_28 ?_
        refine q_zret cx hr hlk hB dX12_isWord_29 (by decide) (by decide) ?_
        exact (Or.inr ⟨rfl, rfl⟩)
      · refine q_iconst cx dX12_isWord_24 ?_
        refine lv_goto (tgt := 29) cx.1 cx.2.1 dX12_isWord_25 (by decide) ?_
        refine q_zret cx hr hlk hB dX12_isWord_29 (by decide) (by decide) ?_
        exact (Or.inl ⟨rfl, rfl, (Eq.trans ex11 (by omega))⟩)
set_option maxHeartbeats 4000000 in
set_option maxRecDepth 100000 in
theorem r_isWord1 (l : Launch) (g : q_G) {K : Nat → Nat} {L : List Nat} (hN : L.Nodup) {f : Nat → va_E} (hT : q_Ty g K L f) (mo : Nat) (hmo : mo ∈ L) (kmo : K mo = 12) (w0 : Int64) (er : Int) (ler : 1 ≤ er) (uer : er ≤ 5) (hf0 : q_is (q_z f mo 8) er) : q_Ct l g K L yX12_isWord cX12_isWord 3 (some .boolean) 0 0 [.ref mo, .long w0] f [] (q_Pi (fun (z : Int) (f1 : Nat → va_E) => f = f1 ∧ z = 0)) := by
  refine q_ofb (by decide +kernel) hN hT (Nat.le_of_ble_eq_true rfl) ?_
  intro p e s m below meth c ls cx hr hlk hB hl
  have hl : lv_has ls 3 [(0, .ref mo), (1, .long w0)] := hl
  obtain ⟨H, hH⟩ : ∃ H : Heap, H = s.heap := ⟨_, rfl⟩
  obtain ⟨locs, hlocs⟩ : ∃ z : List Loc, z = [] := ⟨_, rfl⟩
  rw [← hH, ← hlocs] at hB
  rw [← hH, ← hlocs]
  refine q_ald_n cx dX12_isWord_0 rfl (lv_at hl 0 rfl) ?_
  refine q_gX12_127 cx hB hmo kmo hf0 dX12_isWord_1 (fun lb3 ub3 => ?_)
  refine q_ifne (tgt := 28) cx ⟨by omega, by omega⟩ dX12_isWord_4 (by decide) (fun c4 => ?_) (fun c4 => ?_)
  · refine q_iconst cx dX12_isWord_28 ?_
    refine q_zret cx hr hlk hB dX12_isWord_29 (by decide) (by decide) ?_
    exact ⟨rfl, rfl⟩
  · exact absurd c4 (by omega)
set_option maxHeartbeats 4000000 in
set_option maxRecDepth 100000 in
theorem r_isSign0 (l : Launch) (g : q_G) {K : Nat → Nat} {L : List Nat} (hN : L.Nodup) {f : Nat → va_E} (hT : q_Ty g K L f) (mo : Nat) (hmo : mo ∈ L) (kmo : K mo = 12) (a0 : Int) (la0 : (-2147483648) ≤ a0) (ua0 : a0 ≤ 2147483647) (hf0 : q_is (q_z f mo 8) 0) : q_Ct l g K L yX12_isSign cX12_isSign 2 (some .boolean) 0 0 [.ref mo, .int (q_i a0)] f [] (q_Pi (fun (z : Int) (f1 : Nat → va_E) => (f = f1 ∧ z = 1 ∧ (q_is (q_z f mo 6) 3)) ∨ (f = f1 ∧ z = 0))) := by
  refine q_ofb (by decide +kernel) hN hT (Nat.le_of_ble_eq_true rfl) ?_
  intro p e s m below meth c ls cx hr hlk hB hl
  have hl : lv_has ls 2 [(0, .ref mo), (1, .int (q_i a0))] := hl
  obtain ⟨H, hH⟩ : ∃ H : Heap, H = s.heap := ⟨_, rfl⟩
  obtain ⟨locs, hlocs⟩ : ∃ z : List Loc, z = [] := ⟨_, rfl⟩
  rw [← hH, ← hlocs] at hB
  rw [← hH, ← hlocs]
  refine q_ald_n cx dX12_isSign_0 rfl (lv_at hl 0 rfl) ?_
  refine q_gX12_127 cx hB hmo kmo hf0 dX12_isSign_1 (fun lb9 ub9 => ?_)
  refine q_ifne (tgt := 27) cx ⟨by decide, by decide⟩ dX12_isSign_4 (by decide) (fun c10 => ?_) (fun c10 => ?_)
  · exact absurd c10 (by omega)
  · refine q_ald_n cx dX12_isSign_7 rfl (lv_at hl 0 rfl) ?_
    obtain ⟨x11, ex11⟩ : ∃ zz, q_is (q_z f mo 6) zz := ⟨_, q_isr _⟩
    refine q_gX12_117 cx hB hmo kmo ex11 dX12_isSign_8 (fun lb12 ub12 => ?_)
    refine q_iconst cx dX12_isSign_11 ?_
    refine q_icne (tgt := 27) cx ⟨by omega, by omega⟩ ⟨by decide, by decide⟩ dX12_isSign_12 (by decide) (fun c13 => ?_) (fun c13 => ?_)
    · refine q_iconst cx dX12_isSign_27 ?_
      refine q_zret cx hr hlk hB dX12_isSign_28 (by decide) (by decide) ?_
      exact (Or.inr ⟨rfl, rfl⟩)
    · refine q_ald_n cx dX12_isSign_15 rfl (lv_at hl 0 rfl) ?_
      obtain ⟨x14, ex14⟩ : ∃ zz, q_is (q_z f mo 7) zz := ⟨_, q_isr _⟩
      refine q_gX12_114 cx hB hmo kmo ex14 dX12_isSign_16 (fun lb15 ub15 => ?_)
      refine q_ild_n cx dX12_isSign_19 rfl (lv_at hl 1 rfl) ?_
      refine q_icne (tgt := 27) cx ⟨by omega, by omega⟩ ⟨by omega, by omega⟩ dX12_isSign_20 (by decide) (fun c16 => ?_) (fun c16 => ?_)
      · refine q_iconst cx dX12_isSign_27 ?_
        refine q_zret cx hr hlk hB dX12_isSign_28 (by decide) (by decide) ?_
        exact (Or.inr ⟨rfl, rfl⟩)
      · refine q_iconst cx dX12_isSign_23 ?_
        refine lv_goto (tgt := 28) cx.1 cx.2.1 dX12_isSign_24 (by decide) ?_
        refine q_zret cx hr hlk hB dX12_isSign_28 (by decide) (by decide) ?_
        exact (Or.inl ⟨rfl, rfl, (Eq.trans ex11 (by omega))⟩)
set_option maxHeartbeats 4000000 in
set_option maxRecDepth 100000 in
theorem r_isSign1 (l : Launch) (g : q_G) {K : Nat → Nat} {L : List Nat} (hN : L.Nodup) {f : Nat → va_E} (hT : q_Ty g K L f) (mo : Nat) (hmo : mo ∈ L) (kmo : K mo = 12) (a0 : Int) (la0 : (-2147483648) ≤ a0) (ua0 : a0 ≤ 2147483647) (er : Int) (ler : 1 ≤ er) (uer : er ≤ 5) (hf0 : q_is (q_z f mo 8) er) : q_Ct l g K L yX12_isSign cX12_isSign 2 (some .boolean) 0 0 [.ref mo, .int (q_i a0)] f [] (q_Pi (fun (z : Int) (f1 : Nat → va_E) => f = f1 ∧ z = 0)) := by
  refine q_ofb (by decide +kernel) hN hT (Nat.le_of_ble_eq_true rfl) ?_
  intro p e s m below meth c ls cx hr hlk hB hl
  have hl : lv_has ls 2 [(0, .ref mo), (1, .int (q_i a0))] := hl
  obtain ⟨H, hH⟩ : ∃ H : Heap, H = s.heap := ⟨_, rfl⟩
  obtain ⟨locs, hlocs⟩ : ∃ z : List Loc, z = [] := ⟨_, rfl⟩
  rw [← hH, ← hlocs] at hB
  rw [← hH, ← hlocs]
  refine q_ald_n cx dX12_isSign_0 rfl (lv_at hl 0 rfl) ?_
  refine q_gX12_127 cx hB hmo kmo hf0 dX12_isSign_1 (fun lb3 ub3 => ?_)
  refine q_ifne (tgt := 27) cx ⟨by omega, by omega⟩ dX12_isSign_4 (by decide) (fun c4 => ?_) (fun c4 => ?_)
  · refine q_iconst cx dX12_isSign_27 ?_
    refine q_zret cx hr hlk hB dX12_isSign_28 (by decide) (by decide) ?_
    exact ⟨rfl, rfl⟩
  · exact absurd c4 (by omega)
set_option maxHeartbeats 4000000 in
set_option maxRecDepth 100000 in
theorem r_mustSign0 (l : Launch) (g : q_G) {K : Nat → Nat} {L : List Nat} (hN : L.Nodup) {f : Nat → va_E} (hT : q_Ty g K L f) (mo : Nat) (hmo : mo ∈ L) (kmo : K mo = 12) (a0 : Int) (la0 : (-2147483648) ≤ a0) (ua0 : a0 ≤ 2147483647) (bu : Nat) (hbu : bu ∈ L) (kbu : K bu = 150) (xp : Int) (lxp : 0 ≤ xp) (uxp : xp ≤ 600) (hf0 : q_is (q_z f mo 8) 0) (hf1 : q_is (q_z f mo 4) xp) (hr0 : q_ir (q_r f mo 1) bu) : q_Ct l g K L yX12_mustSign cX12_mustSign 2 none 2 43 [.ref mo, .int (q_i a0)] f [(12, 4, 9), (12, 12, 12)] (q_Pv (fun (f1 : Nat → va_E) => (q_is (q_z f1 mo 8) 0 ∧ (xp ≤ q_z f1 mo 4) ∧ (k_po (q_z f1 mo 6) (q_z f1 mo 4) xp) ∧ (q_is (q_z f mo 6) 3)) ∨ (1 ≤ q_z f1 mo 8 ∧ q_z f1 mo 8 ≤ 5))) := by
  refine q_ofb (by decide +kernel) hN hT (Nat.le_of_ble_eq_true rfl) ?_
  intro p e s m below meth c ls cx hr hlk hB hl
  have hl : lv_has ls 2 [(0, .ref mo), (1, .int (q_i a0))] := hl
  obtain ⟨H, hH⟩ : ∃ H : Heap, H = s.heap := ⟨_, rfl⟩
  obtain ⟨locs, hlocs⟩ : ∃ z : List Loc, z = [] := ⟨_, rfl⟩
  rw [← hH, ← hlocs] at hB
  rw [← hH, ← hlocs]
  refine q_ald_n cx dX12_mustSign_0 rfl (lv_at hl 0 rfl) ?_
  refine q_cVi (As := []) (rest := []) cx hB (fun _ h => h) hN hmo kmo (by decide) rfl (r_isGood0 l g hN hB.2.1 mo hmo kmo hf0) q_cX12_130 q_dX12_isGood (by decide) rfl rfl hl.1 rfl (Nat.le_of_ble_eq_true rfl) dX12_mustSign_1 (fun y40 H locs f39 ry40 h41 hF hB => ?_)
  obtain ⟨rfl, qy40⟩ := h41
  subst qy40
  refine q_ifeq (tgt := 20) cx ⟨by decide, by decide⟩ dX12_mustSign_4 (by decide) (fun c42 => ?_) (fun c42 => ?_)
  · exact absurd c42 (by omega)
  · refine q_ald_n cx dX12_mustSign_7 rfl (lv_at hl 0 rfl) ?_
    refine q_ild_n cx dX12_mustSign_8 rfl (lv_at hl 1 rfl) ?_
    refine q_cVi (As := [.int (q_i a0)]) (rest := []) cx hB (fun _ h => h) hN hmo kmo (by decide) rfl (r_isSign0 l g hN hB.2.1 mo hmo kmo a0 (by omega) (by omega) hf0) q_cX12_134 q_dX12_isSign (by decide) rfl rfl hl.1 rfl (Nat.le_of_ble_eq_true rfl) dX12_mustSign_9 (fun y44 H locs f43 ry44 h45 hF hB => ?_)
    rcases h45 with h46 | h47
    · obtain ⟨rfl, qy44, t48⟩ := h46
      subst qy44
      refine q_ifne (tgt := 20) cx ⟨by decide, by decide⟩ dX12_mustSign_12 (by decide) (fun c49 => ?_) (fun c49 => ?_)
      · refine q_ald_n cx dX12_mustSign_20 rfl (lv_at hl 0 rfl) ?_
        refine q_cVi (As := []) (rest := []) cx hB (fun _ h => h) hN hmo kmo (by decide) rfl (r_isGood0 l g hN hB.2.1 mo hmo kmo hf0) q_cX12_130 q_dX12_isGood (by decide) rfl rfl hl.1 rfl (Nat.le_of_ble_eq_true rfl) dX12_mustSign_21 (fun y51 H locs f50 ry51 h52 hF hB => ?_)
        obtain ⟨rfl, qy51⟩ := h52
        subst qy51
        refine q_ifeq (tgt := 31) cx ⟨by decide, by decide⟩ dX12_mustSign_24 (by decide) (fun c53 => ?_) (fun c53 => ?_)
        · exact absurd c53 (by omega)
        · refine q_ald_n cx dX12_mustSign_27 rfl (lv_at hl 0 rfl) ?_
          obtain ⟨x54, ex54⟩ : ∃ zz, q_is (q_z f mo 3) zz := ⟨_, q_isr _⟩
          obtain ⟨lx54, ux54⟩ := q_isb ex54 (q_fib hB.2.1 hmo kmo (by decide) rfl)
          refine q_cVv (As := []) (rest := []) cx hB (fun _ h => h) hN hmo kmo (by decide) rfl (r_goOn l g hN hB.2.1 mo hmo kmo bu hbu kbu xp (by omega) (by omega) x54 (by omega) (by omega) hf1 ex54 hr0) q_cX12_140 q_dX12_goOn (by decide) rfl rfl hl.1 rfl (Nat.le_of_ble_eq_true rfl) dX12_mustSign_28 (fun H locs f55 h57 hF hB => ?_)
          obtain ⟨t58, t59⟩ := h57
          have z60 : q_is (q_z f55 mo 8) 0 := Eq.trans (hF.z hmo (by rw [kmo]; rfl)) hf0
          have z61 : q_is (q_z f55 mo 3) x54 := Eq.trans (hF.z hmo (by rw [kmo]; rfl)) ex54
          have z62 : q_ir (q_r f55 mo 1) bu := Eq.trans (hF.r hmo (by rw [kmo]; rfl)) hr0
          obtain ⟨x63, ex63⟩ : ∃ zz, q_is (q_z f55 mo 4) zz := ⟨_, q_isr _⟩
          obtain ⟨lx63, ux63⟩ := q_isb ex63 (q_fib hB.2.1 hmo kmo (by decide) rfl)
          obtain ⟨x64, ex64⟩ : ∃ zz, q_is (q_z f55 mo 6) zz := ⟨_, q_isr _⟩
          obtain ⟨lx64, ux64⟩ := q_isb ex64 (q_fib hB.2.1 hmo kmo (by decide) rfl)
          replace t58 := q_isl9 ex63 t58
          replace t59 := k_po_si ex64 ex63 t59
          refine q_vret cx hr hlk hB dX12_mustSign_31 ?_
          exact (Or.inl ⟨z60, (q_isl ex63 (by omega)), (k_po_is ex64 ex63 (k_po_mono t59 (by omega))), t48⟩)
      · exact absurd c49 (by omega)
    · obtain ⟨rfl, qy44⟩ := h47
      subst qy44
      refine q_ifne (tgt := 20) cx ⟨by decide, by decide⟩ dX12_mustSign_12 (by decide) (fun c65 => ?_) (fun c65 => ?_)
      · exact absurd c65 (by omega)
      · refine q_ald_n cx dX12_mustSign_15 rfl (lv_at hl 0 rfl) ?_
        refine q_iconst cx dX12_mustSign_16 ?_
        refine q_cVv (As := [.int (q_i 1)]) (rest := []) cx hB (fun _ h => h) hN hmo kmo (by decide) rfl (r_wrong0 l g hN hB.2.1 mo hmo kmo 1 (by decide) (by decide) hf0) q_cX12_137 q_dX12_wrong (by decide) rfl rfl hl.1 rfl (Nat.le_of_ble_eq_true rfl) dX12_mustSign_17 (fun H locs f66 h68 hF hB => ?_)
        obtain ⟨lz69, uz69⟩ := h68
        have z70 : q_is (q_z f66 mo 4) xp := Eq.trans (hF.z hmo (by rw [kmo]; rfl)) hf1
        have z71 : q_ir (q_r f66 mo 1) bu := Eq.trans (hF.r hmo (by rw [kmo]; rfl)) hr0
        obtain ⟨x72, ex72⟩ : ∃ zz, q_is (q_z f66 mo 8) zz := ⟨_, q_isr _⟩
        obtain ⟨lx72, ux72⟩ := q_isb ex72 ⟨lz69, uz69⟩
        refine q_ald_n cx dX12_mustSign_20 rfl (lv_at hl 0 rfl) ?_
        refine q_cVi (As := []) (rest := []) cx hB (fun _ h => h) hN hmo kmo (by decide) rfl (r_isGood1 l g hN hB.2.1 mo hmo kmo x72 (by omega) (by omega) ex72) q_cX12_130 q_dX12_isGood (by decide) rfl rfl hl.1 rfl (Nat.le_of_ble_eq_true rfl) dX12_mustSign_21 (fun y74 H locs f73 ry74 h75 hF hB => ?_)
        obtain ⟨rfl, qy74⟩ := h75
        subst qy74
        refine q_ifeq (tgt := 31) cx ⟨by decide, by decide⟩ dX12_mustSign_24 (by decide) (fun c76 => ?_) (fun c76 => ?_)
        · refine q_vret cx hr hlk hB dX12_mustSign_31 ?_
          exact (Or.inr ⟨(q_isl ex72 (by omega)), (q_isu ex72 (by omega))⟩)
        · exact absurd c76 (by omega)
set_option maxHeartbeats 4000000 in
set_option maxRecDepth 100000 in
theorem r_mustSign1 (l : Launch) (g : q_G) {K : Nat → Nat} {L : List Nat} (hN : L.Nodup) {f : Nat → va_E} (hT : q_Ty g K L f) (mo : Nat) (hmo : mo ∈ L) (kmo : K mo = 12) (a0 : Int) (la0 : (-2147483648) ≤ a0) (ua0 : a0 ≤ 2147483647) (er : Int) (ler : 1 ≤ er) (uer : er ≤ 5) (hf0 : q_is (q_z f mo 8) er) : q_Ct l g K L yX12_mustSign cX12_mustSign 2 none 1 20 [.ref mo, .int (q_i a0)] f [] (q_Pv (fun (f1 : Nat → va_E) => f = f1)) := by
  refine q_ofb (by decide +kernel) hN hT (Nat.le_of_ble_eq_true rfl) ?_
  intro p e s m below meth c ls cx hr hlk hB hl
  have hl : lv_has ls 2 [(0, .ref mo), (1, .int (q_i a0))] := hl
  obtain ⟨H, hH⟩ : ∃ H : Heap, H = s.heap := ⟨_, rfl⟩
  obtain ⟨locs, hlocs⟩ : ∃ z : List Loc, z = [] := ⟨_, rfl⟩
  rw [← hH, ← hlocs] at hB
  rw [← hH, ← hlocs]
  refine q_ald_n cx dX12_mustSign_0 rfl (lv_at hl 0 rfl) ?_
  refine q_cVi (As := []) (rest := []) cx hB (fun _ h => h) hN hmo kmo (by decide) rfl (r_isGood1 l g hN hB.2.1 mo hmo kmo er (by omega) (by omega) hf0) q_cX12_130 q_dX12_isGood (by decide) rfl rfl hl.1 rfl (Nat.le_of_ble_eq_true rfl) dX12_mustSign_1 (fun y10 H locs f9 ry10 h11 hF hB => ?_)
  obtain ⟨rfl, qy10⟩ := h11
  subst qy10
  refine q_ifeq (tgt := 20) cx ⟨by decide, by decide⟩ dX12_mustSign_4 (by decide) (fun c12 => ?_) (fun c12 => ?_)
  · refine q_ald_n cx dX12_mustSign_20 rfl (lv_at hl 0 rfl) ?_
    refine q_cVi (As := []) (rest := []) cx hB (fun _ h => h) hN hmo kmo (by decide) rfl (r_isGood1 l g hN hB.2.1 mo hmo kmo er (by omega) (by omega) hf0) q_cX12_130 q_dX12_isGood (by decide) rfl rfl hl.1 rfl (Nat.le_of_ble_eq_true rfl) dX12_mustSign_21 (fun y14 H locs f13 ry14 h15 hF hB => ?_)
    obtain ⟨rfl, qy14⟩ := h15
    subst qy14
    refine q_ifeq (tgt := 31) cx ⟨by decide, by decide⟩ dX12_mustSign_24 (by decide) (fun c16 => ?_) (fun c16 => ?_)
    · refine q_vret cx hr hlk hB dX12_mustSign_31 ?_
      exact rfl
    · exact absurd c16 (by omega)
  · exact absurd c12 (by omega)
set_option maxHeartbeats 4000000 in
set_option maxRecDepth 100000 in
theorem r_mustWord0 (l : Launch) (g : q_G) {K : Nat → Nat} {L : List Nat} (hN : L.Nodup) {f : Nat → va_E} (hT : q_Ty g K L f) (mo : Nat) (hmo : mo ∈ L) (kmo : K mo = 12) (w0 : Int64) (bu : Nat) (hbu : bu ∈ L) (kbu : K bu = 150) (xp : Int) (lxp : 0 ≤ xp) (uxp : xp ≤ 600) (hf0 : q_is (q_z f mo 8) 0) (hf1 : q_is (q_z f mo 4) xp) (hr0 : q_ir (q_r f mo 1) bu) : q_Ct l g K L yX12_mustWord cX12_mustWord 3 none 2 43 [.ref mo, .long w0] f [(12, 4, 9), (12, 12, 12)] (q_Pv (fun (f1 : Nat → va_E) => (q_is (q_z f1 mo 8) 0 ∧ (xp ≤ q_z f1 mo 4) ∧ (k_po (q_z f1 mo 6) (q_z f1 mo 4) xp) ∧ (q_is (q_z f mo 6) 1)) ∨ (1 ≤ q_z f1 mo 8 ∧ q_z f1 mo 8 ≤ 5))) := by
  refine q_ofb (by decide +kernel) hN hT (Nat.le_of_ble_eq_true rfl) ?_
  intro p e s m below meth c ls cx hr hlk hB hl
  have hl : lv_has ls 3 [(0, .ref mo), (1, .long w0)] := hl
  obtain ⟨H, hH⟩ : ∃ H : Heap, H = s.heap := ⟨_, rfl⟩
  obtain ⟨locs, hlocs⟩ : ∃ z : List Loc, z = [] := ⟨_, rfl⟩
  rw [← hH, ← hlocs] at hB
  rw [← hH, ← hlocs]
  refine q_ald_n cx dX12_mustWord_0 rfl (lv_at hl 0 rfl) ?_
  refine q_cVi (As := []) (rest := []) cx hB (fun _ h => h) hN hmo kmo (by decide) rfl (r_isGood0 l g hN hB.2.1 mo hmo kmo hf0) q_cX12_130 q_dX12_isGood (by decide) rfl rfl hl.1 rfl (Nat.le_of_ble_eq_true rfl) dX12_mustWord_1 (fun y40 H locs f39 ry40 h41 hF hB => ?_)
  obtain ⟨rfl, qy40⟩ := h41
  subst qy40
  refine q_ifeq (tgt := 20) cx ⟨by decide, by decide⟩ dX12_mustWord_4 (by decide) (fun c42 => ?_) (fun c42 => ?_)
  · exact absurd c42 (by omega)
  · refine q_ald_n cx dX12_mustWord_7 rfl (lv_at hl 0 rfl) ?_
    refine q_lld_n cx dX12_mustWord_8 rfl (lv_at hl 1 rfl) ?_
    refine q_cVi (As := [.long w0]) (rest := []) cx hB (fun _ h => h) hN hmo kmo (by decide) rfl (r_isWord0 l g hN hB.2.1 mo hmo kmo w0 hf0) q_cX12_143 q_dX12_isWord (by decide) rfl rfl hl.1 rfl (Nat.le_of_ble_eq_true rfl) dX12_mustWord_9 (fun y44 H locs f43 ry44 h45 hF hB => ?_)
    rcases h45 with h46 | h47
    · obtain ⟨rfl, qy44, t48⟩ := h46
      subst qy44
      refine q_ifne (tgt := 20) cx ⟨by decide, by decide⟩ dX12_mustWord_12 (by decide) (fun c49 => ?_) (fun c49 => ?_)
      · refine q_ald_n cx dX12_mustWord_20 rfl (lv_at hl 0 rfl) ?_
        refine q_cVi (As := []) (rest := []) cx hB (fun _ h => h) hN hmo kmo (by decide) rfl (r_isGood0 l g hN hB.2.1 mo hmo kmo hf0) q_cX12_130 q_dX12_isGood (by decide) rfl rfl hl.1 rfl (Nat.le_of_ble_eq_true rfl) dX12_mustWord_21 (fun y51 H locs f50 ry51 h52 hF hB => ?_)
        obtain ⟨rfl, qy51⟩ := h52
        subst qy51
        refine q_ifeq (tgt := 31) cx ⟨by decide, by decide⟩ dX12_mustWord_24 (by decide) (fun c53 => ?_) (fun c53 => ?_)
        · exact absurd c53 (by omega)
        · refine q_ald_n cx dX12_mustWord_27 rfl (lv_at hl 0 rfl) ?_
          obtain ⟨x54, ex54⟩ : ∃ zz, q_is (q_z f mo 3) zz := ⟨_, q_isr _⟩
          obtain ⟨lx54, ux54⟩ := q_isb ex54 (q_fib hB.2.1 hmo kmo (by decide) rfl)
          refine q_cVv (As := []) (rest := []) cx hB (fun _ h => h) hN hmo kmo (by decide) rfl (r_goOn l g hN hB.2.1 mo hmo kmo bu hbu kbu xp (by omega) (by omega) x54 (by omega) (by omega) hf1 ex54 hr0) q_cX12_140 q_dX12_goOn (by decide) rfl rfl hl.1 rfl (Nat.le_of_ble_eq_true rfl) dX12_mustWord_28 (fun H locs f55 h57 hF hB => ?_)
          obtain ⟨t58, t59⟩ := h57
          have z60 : q_is (q_z f55 mo 8) 0 := Eq.trans (hF.z hmo (by rw [kmo]; rfl)) hf0
          have z61 : q_is (q_z f55 mo 3) x54 := Eq.trans (hF.z hmo (by rw [kmo]; rfl)) ex54
          have z62 : q_ir (q_r f55 mo 1) bu := Eq.trans (hF.r hmo (by rw [kmo]; rfl)) hr0
          obtain ⟨x63, ex63⟩ : ∃ zz, q_is (q_z f55 mo 4) zz := ⟨_, q_isr _⟩
          obtain ⟨lx63, ux63⟩ := q_isb ex63 (q_fib hB.2.1 hmo kmo (by decide) rfl)
          obtain ⟨x64, ex64⟩ : ∃ zz, q_is (q_z f55 mo 6) zz := ⟨_, q_isr _⟩
          obtain ⟨lx64, ux64⟩ := q_isb ex64 (q_fib hB.2.1 hmo kmo (by decide) rfl)
          replace t58 := q_isl9 ex63 t58
          replace t59 := k_po_si ex64 ex63 t59
          refine q_vret cx hr hlk hB dX12_mustWord_31 ?_
          exact (Or.inl ⟨z60, (q_isl ex63 (by omega)), (k_po_is ex64 ex63 (k_po_mono t59 (by omega))), t48⟩)
      · exact absurd c49 (by omega)
    · obtain ⟨rfl, qy44⟩ := h47
      subst qy44
      refine q_ifne (tgt := 20) cx ⟨by decide, by decide⟩ dX12_mustWord_12 (by decide) (fun c65 => ?_) (fun c65 => ?_)
      · exact absurd c65 (by omega)
      · refine q_ald_n cx dX12_mustWord_15 rfl (lv_at hl 0 rfl) ?_
        refine q_iconst cx dX12_mustWord_16 ?_
        refine q_cVv (As := [.int (q_i 1)]) (rest := []) cx hB (fun _ h => h) hN hmo kmo (by decide) rfl (r_wrong0 l g hN hB.2.1 mo hmo kmo 1 (by decide) (by decide) hf0) q_cX12_137 q_dX12_wrong (by decide) rfl rfl hl.1 rfl (Nat.le_of_ble_eq_true rfl) dX12_mustWord_17 (fun H locs f66 h68 hF hB => ?_)
        obtain ⟨lz69, uz69⟩ := h68
        have z70 : q_is (q_z f66 mo 4) xp := Eq.trans (hF.z hmo (by rw [kmo]; rfl)) hf1
        have z71 : q_ir (q_r f66 mo 1) bu := Eq.trans (hF.r hmo (by rw [kmo]; rfl)) hr0
        obtain ⟨x72, ex72⟩ : ∃ zz, q_is (q_z f66 mo 8) zz := ⟨_, q_isr _⟩
        obtain ⟨lx72, ux72⟩ := q_isb ex72 ⟨lz69, uz69⟩
        refine q_ald_n cx dX12_mustWord_20 rfl (lv_at hl 0 rfl) ?_
        refine q_cVi (As := []) (rest := []) cx hB (fun _ h => h) hN hmo kmo (by decide) rfl (r_isGood1 l g hN hB.2.1 mo hmo kmo x72 (by omega) (by omega) ex72) q_cX12_130 q_dX12_isGood (by decide) rfl rfl hl.1 rfl (Nat.le_of_ble_eq_true rfl) dX12_mustWord_21 (fun y74 H locs f73 ry74 h75 hF hB => ?_)
        obtain ⟨rfl, qy74⟩ := h75
        subst qy74
        refine q_ifeq (tgt := 31) cx ⟨by decide, by decide⟩ dX12_mustWord_24 (by decide) (fun c76 => ?_) (fun c76 => ?_)
        · refine q_vret cx hr hlk hB dX12_mustWord_31 ?_
          exact (Or.inr ⟨(q_isl ex72 (by omega)), (q_isu ex72 (by omega))⟩)
        · exact absurd c76 (by omega)
set_option maxHeartbeats 4000000 in
set_option maxRecDepth 100000 in
theorem r_mustWord1 (l : Launch) (g : q_G) {K : Nat → Nat} {L : List Nat} (hN : L.Nodup) {f : Nat → va_E} (hT : q_Ty g K L f) (mo : Nat) (hmo : mo ∈ L) (kmo : K mo = 12) (w0 : Int64) (er : Int) (ler : 1 ≤ er) (uer : er ≤ 5) (hf0 : q_is (q_z f mo 8) er) : q_Ct l g K L yX12_mustWord cX12_mustWord 3 none 1 20 [.ref mo, .long w0] f [] (q_Pv (fun (f1 : Nat → va_E) => f = f1)) := by
  refine q_ofb (by decide +kernel) hN hT (Nat.le_of_ble_eq_true rfl) ?_
  intro p e s m below meth c ls cx hr hlk hB hl
  have hl : lv_has ls 3 [(0, .ref mo), (1, .long w0)] := hl
  obtain ⟨H, hH⟩ : ∃ H : Heap, H = s.heap := ⟨_, rfl⟩
  obtain ⟨locs, hlocs⟩ : ∃ z : List Loc, z = [] := ⟨_, rfl⟩
  rw [← hH, ← hlocs] at hB
  rw [← hH, ← hlocs]
  refine q_ald_n cx dX12_mustWord_0 rfl (lv_at hl 0 rfl) ?_
  refine q_cVi (As := []) (rest := []) cx hB (fun _ h => h) hN hmo kmo (by decide) rfl (r_isGood1 l g hN hB.2.1 mo hmo kmo er (by omega) (by omega) hf0) q_cX12_130 q_dX12_isGood (by decide) rfl rfl hl.1 rfl (Nat.le_of_ble_eq_true rfl) dX12_mustWord_1 (fun y10 H locs f9 ry10 h11 hF hB => ?_)
  obtain ⟨rfl, qy10⟩ := h11
  subst qy10
  refine q_ifeq (tgt := 20) cx ⟨by decide, by decide⟩ dX12_mustWord_4 (by decide) (fun c12 => ?_) (fun c12 => ?_)
  · refine q_ald_n cx dX12_mustWord_20 rfl (lv_at hl 0 rfl) ?_
    refine q_cVi (As := []) (rest := []) cx hB (fun _ h => h) hN hmo kmo (by decide) rfl (r_isGood1 l g hN hB.2.1 mo hmo kmo er (by omega) (by omega) hf0) q_cX12_130 q_dX12_isGood (by decide) rfl rfl hl.1 rfl (Nat.le_of_ble_eq_true rfl) dX12_mustWord_21 (fun y14 H locs f13 ry14 h15 hF hB => ?_)
    obtain ⟨rfl, qy14⟩ := h15
    subst qy14
    refine q_ifeq (tgt := 31) cx ⟨by decide, by decide⟩ dX12_mustWord_24 (by decide) (fun c16 => ?_) (fun c16 => ?_)
    · refine q_vret cx hr hlk hB dX12_mustWord_31 ?_
      exact rfl
    · exact absurd c16 (by omega)
  · exact absurd c12 (by omega)
set_option maxHeartbeats 4000000 in
set_option maxRecDepth 100000 in
theorem r_looks0 (l : Launch) (g : q_G) {K : Nat → Nat} {L : List Nat} (hN : L.Nodup) {f : Nat → va_E} (hT : q_Ty g K L f) (mo : Nat) (hmo : mo ∈ L) (kmo : K mo = 12) (a0 : Int) (la0 : (-2147483648) ≤ a0) (ua0 : a0 ≤ 2147483647) (b0 : Int) (lb0 : (-2147483648) ≤ b0) (ub0 : b0 ≤ 2147483647) (hf0 : q_is (q_z f mo 8) 0) : q_Ct l g K L yX12_looks cX12_looks 3 (some .int) 1 25 [.ref mo, .int (q_i a0), .int (q_i b0)] f [(12, 8, 9)] (q_Pi (fun (z : Int) (f1 : Nat → va_E) => (q_is (q_z f1 mo 8) 0 ∧ (a0 ≤ z) ∧ (z ≤ b0)) ∨ (1 ≤ q_z f1 mo 8 ∧ q_z f1 mo 8 ≤ 5))) := by
  refine q_ofb (by decide +kernel) hN hT (Nat.le_of_ble_eq_true rfl) ?_
  intro p e s m below meth c ls cx hr hlk hB hl
  have hl : lv_has ls 3 [(0, .ref mo), (1, .int (q_i a0)), (2, .int (q_i b0))] := hl
  obtain ⟨H, hH⟩ : ∃ H : Heap, H = s.heap := ⟨_, rfl⟩
  obtain ⟨locs, hlocs⟩ : ∃ z : List Loc, z = [] := ⟨_, rfl⟩
  rw [← hH, ← hlocs] at hB
  rw [← hH, ← hlocs]
  refine q_ald_n cx dX12_looks_0 rfl (lv_at hl 0 rfl) ?_
  refine q_cVi (As := []) (rest := []) cx hB (fun _ h => h) hN hmo kmo (by decide) rfl (r_isGood0 l g hN hB.2.1 mo hmo kmo hf0) q_cX12_130 q_dX12_isGood (by decide) rfl rfl hl.1 rfl (Nat.le_of_ble_eq_true rfl) dX12_looks_1 (fun y46 H locs f45 ry46 h47 hF hB => ?_)
  obtain ⟨rfl, qy46⟩ := h47
  subst qy46
  refine q_ifeq (tgt := 20) cx ⟨by decide, by decide⟩ dX12_looks_4 (by decide) (fun c48 => ?_) (fun c48 => ?_)
  · exact absurd c48 (by omega)
  · refine q_ald_n cx dX12_looks_7 rfl (lv_at hl 0 rfl) ?_
    obtain ⟨x49, ex49⟩ : ∃ zz, q_is (q_z f mo 6) zz := ⟨_, q_isr _⟩
    refine q_gX12_117 cx hB hmo kmo ex49 dX12_looks_8 (fun lb50 ub50 => ?_)
    refine q_iconst cx dX12_looks_11 ?_
    refine q_iceq (tgt := 20) cx ⟨by omega, by omega⟩ ⟨by decide, by decide⟩ dX12_looks_12 (by decide) (fun c51 => ?_) (fun c51 => ?_)
    · refine q_ald_n cx dX12_looks_20 rfl (lv_at hl 0 rfl) ?_
      refine q_cVi (As := []) (rest := []) cx hB (fun _ h => h) hN hmo kmo (by decide) rfl (r_isGood0 l g hN hB.2.1 mo hmo kmo hf0) q_cX12_130 q_dX12_isGood (by decide) rfl rfl hl.1 rfl (Nat.le_of_ble_eq_true rfl) dX12_looks_21 (fun y53 H locs f52 ry53 h54 hF hB => ?_)
      obtain ⟨rfl, qy53⟩ := h54
      subst qy53
      refine q_ifeq (tgt := 47) cx ⟨by decide, by decide⟩ dX12_looks_24 (by decide) (fun c55 => ?_) (fun c55 => ?_)
      · exact absurd c55 (by omega)
      · refine q_ald_n cx dX12_looks_27 rfl (lv_at hl 0 rfl) ?_
        obtain ⟨x56, ex56⟩ : ∃ zz, q_is (q_z f mo 7) zz := ⟨_, q_isr _⟩
        refine q_gX12_114 cx hB hmo kmo ex56 dX12_looks_28 (fun lb57 ub57 => ?_)
        refine q_i2l cx ⟨by omega, by omega⟩ dX12_looks_31 ?_
        refine q_ild_n cx dX12_looks_32 rfl (lv_at hl 1 rfl) ?_
        refine q_i2l cx ⟨by omega, by omega⟩ dX12_looks_33 ?_
        refine q_ild_n cx dX12_looks_34 rfl (lv_at hl 2 rfl) ?_
        refine q_i2l cx ⟨by omega, by omega⟩ dX12_looks_35 ?_
        refine q_cSi (As := [.long (q_l x56), .long (q_l a0), .long (q_l b0)]) (rest := []) cx hB (fun _ h => h) hN (r_isIn l g hN hB.2.1 x56 (by omega) (by omega) a0 (by omega) (by omega) b0 (by omega) (by omega)) q_cX12_93 q_dX12_isIn (by decide) rfl rfl hl.1 rfl (Nat.le_of_ble_eq_true rfl) dX12_looks_36 (fun y59 H locs f58 ry59 h60 hF hB => ?_)
        rcases h60 with h61 | h62
        · obtain ⟨rfl, qy59, t63, t64⟩ := h61
          subst qy59
          refine q_ifne (tgt := 47) cx ⟨by decide, by decide⟩ dX12_looks_39 (by decide) (fun c65 => ?_) (fun c65 => ?_)
          · refine q_ald_n cx dX12_looks_47 rfl (lv_at hl 0 rfl) ?_
            refine q_gX12_114 cx hB hmo kmo ex56 dX12_looks_48 (fun lb66 ub66 => ?_)
            refine q_iret cx hr hlk hB dX12_looks_51 ⟨by omega, by omega⟩ ?_
            exact (Or.inl ⟨hf0, (by omega), (by omega)⟩)
          · exact absurd c65 (by omega)
        · obtain ⟨rfl, qy59, t67⟩ := h62
          subst qy59
          refine q_ifne (tgt := 47) cx ⟨by decide, by decide⟩ dX12_looks_39 (by decide) (fun c68 => ?_) (fun c68 => ?_)
          · exact absurd c68 (by omega)
          · refine q_ald_n cx dX12_looks_42 rfl (lv_at hl 0 rfl) ?_
            refine q_iconst cx dX12_looks_43 ?_
            refine q_cVv (As := [.int (q_i 2)]) (rest := []) cx hB (fun _ h => h) hN hmo kmo (by decide) rfl (r_wrong0 l g hN hB.2.1 mo hmo kmo 2 (by decide) (by decide) hf0) q_cX12_137 q_dX12_wrong (by decide) rfl rfl hl.1 rfl (Nat.le_of_ble_eq_true rfl) dX12_looks_44 (fun H locs f69 h71 hF hB => ?_)
            obtain ⟨lz72, uz72⟩ := h71
            have z73 : q_is (q_z f69 mo 6) x49 := Eq.trans (hF.z hmo (by rw [kmo]; rfl)) ex49
            have z74 : q_is (q_z f69 mo 7) x56 := Eq.trans (hF.z hmo (by rw [kmo]; rfl)) ex56
            obtain ⟨x75, ex75⟩ : ∃ zz, q_is (q_z f69 mo 8) zz := ⟨_, q_isr _⟩
            obtain ⟨lx75, ux75⟩ := q_isb ex75 ⟨lz72, uz72⟩
            refine q_ald_n cx dX12_looks_47 rfl (lv_at hl 0 rfl) ?_
            refine q_gX12_114 cx hB hmo kmo z74 dX12_looks_48 (fun lb76 ub76 => ?_)
            refine q_iret cx hr hlk hB dX12_looks_51 ⟨by omega, by omega⟩ ?_
            exact (Or.inr ⟨(q_isl ex75 (by omega)), (q_isu ex75 (by omega))⟩)
    · refine q_ald_n cx dX12_looks_15 rfl (lv_at hl 0 rfl) ?_
      refine q_iconst cx dX12_looks_16 ?_
      refine q_cVv (As := [.int (q_i 1)]) (rest := []) cx hB (fun _ h => h) hN hmo kmo (by decide) rfl (r_wrong0 l g hN hB.2.1 mo hmo kmo 1 (by decide) (by decide) hf0) q_cX12_137 q_dX12_wrong (by decide) rfl rfl hl.1 rfl (Nat.le_of_ble_eq_true rfl) dX12_looks_17 (fun H locs f77 h79 hF hB => ?_)
      obtain ⟨lz80, uz80⟩ := h79
      have z81 : q_is (q_z f77 mo 6) x49 := Eq.trans (hF.z hmo (by rw [kmo]; rfl)) ex49
      obtain ⟨x82, ex82⟩ : ∃ zz, q_is (q_z f77 mo 8) zz := ⟨_, q_isr _⟩
      obtain ⟨lx82, ux82⟩ := q_isb ex82 ⟨lz80, uz80⟩
      refine q_ald_n cx dX12_looks_20 rfl (lv_at hl 0 rfl) ?_
      refine q_cVi (As := []) (rest := []) cx hB (fun _ h => h) hN hmo kmo (by decide) rfl (r_isGood1 l g hN hB.2.1 mo hmo kmo x82 (by omega) (by omega) ex82) q_cX12_130 q_dX12_isGood (by decide) rfl rfl hl.1 rfl (Nat.le_of_ble_eq_true rfl) dX12_looks_21 (fun y84 H locs f83 ry84 h85 hF hB => ?_)
      obtain ⟨rfl, qy84⟩ := h85
      subst qy84
      refine q_ifeq (tgt := 47) cx ⟨by decide, by decide⟩ dX12_looks_24 (by decide) (fun c86 => ?_) (fun c86 => ?_)
      · refine q_ald_n cx dX12_looks_47 rfl (lv_at hl 0 rfl) ?_
        obtain ⟨x87, ex87⟩ : ∃ zz, q_is (q_z f77 mo 7) zz := ⟨_, q_isr _⟩
        refine q_gX12_114 cx hB hmo kmo ex87 dX12_looks_48 (fun lb88 ub88 => ?_)
        refine q_iret cx hr hlk hB dX12_looks_51 ⟨by omega, by omega⟩ ?_
        exact (Or.inr ⟨(q_isl ex82 (by omega)), (q_isu ex82 (by omega))⟩)
      · exact absurd c86 (by omega)
set_option maxHeartbeats 4000000 in
set_option maxRecDepth 100000 in
theorem r_looks1 (l : Launch) (g : q_G) {K : Nat → Nat} {L : List Nat} (hN : L.Nodup) {f : Nat → va_E} (hT : q_Ty g K L f) (mo : Nat) (hmo : mo ∈ L) (kmo : K mo = 12) (a0 : Int) (la0 : (-2147483648) ≤ a0) (ua0 : a0 ≤ 2147483647) (b0 : Int) (lb0 : (-2147483648) ≤ b0) (ub0 : b0 ≤ 2147483647) (er : Int) (ler : 1 ≤ er) (uer : er ≤ 5) (hf0 : q_is (q_z f mo 8) er) : q_Ct l g K L yX12_looks cX12_looks 3 (some .int) 1 20 [.ref mo, .int (q_i a0), .int (q_i b0)] f [] (q_Pi (fun (z : Int) (f1 : Nat → va_E) => f = f1)) := by
  refine q_ofb (by decide +kernel) hN hT (Nat.le_of_ble_eq_true rfl) ?_
  intro p e s m below meth c ls cx hr hlk hB hl
  have hl : lv_has ls 3 [(0, .ref mo), (1, .int (q_i a0)), (2, .int (q_i b0))] := hl
  obtain ⟨H, hH⟩ : ∃ H : Heap, H = s.heap := ⟨_, rfl⟩
  obtain ⟨locs, hlocs⟩ : ∃ z : List Loc, z = [] := ⟨_, rfl⟩
  rw [← hH, ← hlocs] at hB
  rw [← hH, ← hlocs]
  refine q_ald_n cx dX12_looks_0 rfl (lv_at hl 0 rfl) ?_
  refine q_cVi (As := []) (rest := []) cx hB (fun _ h => h) hN hmo kmo (by decide) rfl (r_isGood1 l g hN hB.2.1 mo hmo kmo er (by omega) (by omega) hf0) q_cX12_130 q_dX12_isGood (by decide) rfl rfl hl.1 rfl (Nat.le_of_ble_eq_true rfl) dX12_looks_1 (fun y12 H locs f11 ry12 h13 hF hB => ?_)
  obtain ⟨rfl, qy12⟩ := h13
  subst qy12
  refine q_ifeq (tgt := 20) cx ⟨by decide, by decide⟩ dX12_looks_4 (by decide) (fun c14 => ?_) (fun c14 => ?_)
  · refine q_ald_n cx dX12_looks_20 rfl (lv_at hl 0 rfl) ?_
    refine q_cVi (As := []) (rest := []) cx hB (fun _ h => h) hN hmo kmo (by decide) rfl (r_isGood1 l g hN hB.2.1 mo hmo kmo er (by omega) (by omega) hf0) q_cX12_130 q_dX12_isGood (by decide) rfl rfl hl.1 rfl (Nat.le_of_ble_eq_true rfl) dX12_looks_21 (fun y16 H locs f15 ry16 h17 hF hB => ?_)
    obtain ⟨rfl, qy16⟩ := h17
    subst qy16
    refine q_ifeq (tgt := 47) cx ⟨by decide, by decide⟩ dX12_looks_24 (by decide) (fun c18 => ?_) (fun c18 => ?_)
    · refine q_ald_n cx dX12_looks_47 rfl (lv_at hl 0 rfl) ?_
      obtain ⟨x19, ex19⟩ : ∃ zz, q_is (q_z f mo 7) zz := ⟨_, q_isr _⟩
      refine q_gX12_114 cx hB hmo kmo ex19 dX12_looks_48 (fun lb20 ub20 => ?_)
      refine q_iret cx hr hlk hB dX12_looks_51 ⟨by omega, by omega⟩ ?_
      exact rfl
    · exact absurd c18 (by omega)
  · exact absurd c14 (by omega)
set_option maxHeartbeats 4000000 in
set_option maxRecDepth 100000 in
theorem r_number0 (l : Launch) (g : q_G) {K : Nat → Nat} {L : List Nat} (hN : L.Nodup) {f : Nat → va_E} (hT : q_Ty g K L f) (mo : Nat) (hmo : mo ∈ L) (kmo : K mo = 12) (a0 : Int) (la0 : (-2147483648) ≤ a0) (ua0 : a0 ≤ 2147483647) (b0 : Int) (lb0 : (-2147483648) ≤ b0) (ub0 : b0 ≤ 2147483647) (bu : Nat) (hbu : bu ∈ L) (kbu : K bu = 150) (xp : Int) (lxp : 0 ≤ xp) (uxp : xp ≤ 600) (hf0 : q_is (q_z f mo 8) 0) (hf1 : q_is (q_z f mo 4) xp) (hr0 : q_ir (q_r f mo 1) bu) : q_Ct l g K L yX12_number cX12_number 4 (some .int) 2 47 [.ref mo, .int (q_i a0), .int (q_i b0)] f [(12, 4, 9), (12, 12, 12)] (q_Pi (fun (z : Int) (f1 : Nat → va_E) => (q_is (q_z f1 mo 8) 0 ∧ (xp ≤ q_z f1 mo 4) ∧ (k_po (q_z f1 mo 6) (q_z f1 mo 4) xp) ∧ (a0 ≤ z) ∧ (z ≤ b0)) ∨ (1 ≤ q_z f1 mo 8 ∧ q_z f1 mo 8 ≤ 5))) := by
  refine q_ofb (by decide +kernel) hN hT (Nat.le_of_ble_eq_true rfl) ?_
  intro p e s m below meth c ls cx hr hlk hB hl
  have hl : lv_has ls 4 [(0, .ref mo), (1, .int (q_i a0)), (2, .int (q_i b0))] := hl
  obtain ⟨H, hH⟩ : ∃ H : Heap, H = s.heap := ⟨_, rfl⟩
  obtain ⟨locs, hlocs⟩ : ∃ z : List Loc, z = [] := ⟨_, rfl⟩
  rw [← hH, ← hlocs] at hB
  rw [← hH, ← hlocs]
  refine q_ald_n cx dX12_number_0 rfl (lv_at hl 0 rfl) ?_
  refine q_ild_n cx dX12_number_1 rfl (lv_at hl 1 rfl) ?_
  refine q_ild_n cx dX12_number_2 rfl (lv_at hl 2 rfl) ?_
  refine q_cVi (As := [.int (q_i a0), .int (q_i b0)]) (rest := []) cx hB (fun _ h => h) hN hmo kmo (by decide) rfl (r_looks0 l g hN hB.2.1 mo hmo kmo a0 (by omega) (by omega) b0 (by omega) (by omega) hf0) q_cX12_147 q_dX12_looks (by decide) rfl rfl hl.1 rfl (Nat.le_of_ble_eq_true rfl) dX12_number_3 (fun y35 H locs f34 ry35 h36 hF hB => ?_)
  rcases h36 with h37 | h38
  · obtain ⟨z39, t40, t41⟩ := h37
    have z42 : q_is (q_z f34 mo 4) xp := Eq.trans (hF.z hmo (by rw [kmo]; rfl)) hf1
    have z43 : q_ir (q_r f34 mo 1) bu := Eq.trans (hF.r hmo (by rw [kmo]; rfl)) hr0
    refine lv_istore_n (lv' := [(3, .int (q_i y35)), (0, .ref mo), (1, .int (q_i a0)), (2, .int (q_i b0))]) cx.1 cx.2.1 dX12_number_6 rfl hl (by decide) rfl (fun ls hl => ?_)
    refine q_ald_n cx dX12_number_7 rfl (lv_at hl 1 rfl) ?_
    refine q_cVi (As := []) (rest := []) cx hB (fun _ h => h) hN hmo kmo (by decide) rfl (r_isGood0 l g hN hB.2.1 mo hmo kmo z39) q_cX12_130 q_dX12_isGood (by decide) rfl rfl hl.1 rfl (Nat.le_of_ble_eq_true rfl) dX12_number_8 (fun y45 H locs f44 ry45 h46 hF hB => ?_)
    obtain ⟨rfl, qy45⟩ := h46
    subst qy45
    refine q_ifeq (tgt := 18) cx ⟨by decide, by decide⟩ dX12_number_11 (by decide) (fun c47 => ?_) (fun c47 => ?_)
    · exact absurd c47 (by omega)
    · refine q_ald_n cx dX12_number_14 rfl (lv_at hl 1 rfl) ?_
      obtain ⟨x48, ex48⟩ : ∃ zz, q_is (q_z f34 mo 3) zz := ⟨_, q_isr _⟩
      obtain ⟨lx48, ux48⟩ := q_isb ex48 (q_fib hB.2.1 hmo kmo (by decide) rfl)
      refine q_cVv (As := []) (rest := []) cx hB (fun _ h => h) hN hmo kmo (by decide) rfl (r_goOn l g hN hB.2.1 mo hmo kmo bu hbu kbu xp (by omega) (by omega) x48 (by omega) (by omega) z42 ex48 z43) q_cX12_140 q_dX12_goOn (by decide) rfl rfl hl.1 rfl (Nat.le_of_ble_eq_true rfl) dX12_number_15 (fun H locs f49 h51 hF hB => ?_)
      obtain ⟨t52, t53⟩ := h51
      have z54 : q_is (q_z f49 mo 8) 0 := Eq.trans (hF.z hmo (by rw [kmo]; rfl)) z39
      have z55 : q_is (q_z f49 mo 3) x48 := Eq.trans (hF.z hmo (by rw [kmo]; rfl)) ex48
      have z56 : q_ir (q_r f49 mo 1) bu := Eq.trans (hF.r hmo (by rw [kmo]; rfl)) z43
      obtain ⟨x57, ex57⟩ : ∃ zz, q_is (q_z f49 mo 4) zz := ⟨_, q_isr _⟩
      obtain ⟨lx57, ux57⟩ := q_isb ex57 (q_fib hB.2.1 hmo kmo (by decide) rfl)
      obtain ⟨x58, ex58⟩ : ∃ zz, q_is (q_z f49 mo 6) zz := ⟨_, q_isr _⟩
      obtain ⟨lx58, ux58⟩ := q_isb ex58 (q_fib hB.2.1 hmo kmo (by decide) rfl)
      replace t52 := q_isl9 ex57 t52
      replace t53 := k_po_si ex58 ex57 t53
      refine q_ild_n cx dX12_number_18 rfl (lv_at hl 0 rfl) ?_
      refine q_iret cx hr hlk hB dX12_number_19 ⟨by omega, by omega⟩ ?_
      exact (Or.inl ⟨z54, (q_isl ex57 (by omega)), (k_po_is ex58 ex57 (k_po_mono t53 (by omega))), (by omega), (by omega)⟩)
  · obtain ⟨lz59, uz59⟩ := h38
    have z60 : q_is (q_z f34 mo 4) xp := Eq.trans (hF.z hmo (by rw [kmo]; rfl)) hf1
    have z61 : q_ir (q_r f34 mo 1) bu := Eq.trans (hF.r hmo (by rw [kmo]; rfl)) hr0
    obtain ⟨x62, ex62⟩ : ∃ zz, q_is (q_z f34 mo 8) zz := ⟨_, q_isr _⟩
    obtain ⟨lx62, ux62⟩ := q_isb ex62 ⟨lz59, uz59⟩
    refine lv_istore_n (lv' := [(3, .int (q_i y35)), (0, .ref mo), (1, .int (q_i a0)), (2, .int (q_i b0))]) cx.1 cx.2.1 dX12_number_6 rfl hl (by decide) rfl (fun ls hl => ?_)
    refine q_ald_n cx dX12_number_7 rfl (lv_at hl 1 rfl) ?_
    refine q_cVi (As := []) (rest := []) cx hB (fun _ h => h) hN hmo kmo (by decide) rfl (r_isGood1 l g hN hB.2.1 mo hmo kmo x62 (by omega) (by omega) ex62) q_cX12_130 q_dX12_isGood (by decide) rfl rfl hl.1 rfl (Nat.le_of_ble_eq_true rfl) dX12_number_8 (fun y64 H locs f63 ry64 h65 hF hB => ?_)
    obtain ⟨rfl, qy64⟩ := h65
    subst qy64
    refine q_ifeq (tgt := 18) cx ⟨by decide, by decide⟩ dX12_number_11 (by decide) (fun c66 => ?_) (fun c66 => ?_)
    · refine q_ild_n cx dX12_number_18 rfl (lv_at hl 0 rfl) ?_
      refine q_iret cx hr hlk hB dX12_number_19 ⟨by omega, by omega⟩ ?_
      exact (Or.inr ⟨(q_isl ex62 (by omega)), (q_isu ex62 (by omega))⟩)
    · exact absurd c66 (by omega)
set_option maxHeartbeats 4000000 in
set_option maxRecDepth 100000 in
theorem r_number1 (l : Launch) (g : q_G) {K : Nat → Nat} {L : List Nat} (hN : L.Nodup) {f : Nat → va_E} (hT : q_Ty g K L f) (mo : Nat) (hmo : mo ∈ L) (kmo : K mo = 12) (a0 : Int) (la0 : (-2147483648) ≤ a0) (ua0 : a0 ≤ 2147483647) (b0 : Int) (lb0 : (-2147483648) ≤ b0) (ub0 : b0 ≤ 2147483647) (er : Int) (ler : 1 ≤ er) (uer : er ≤ 5) (hf0 : q_is (q_z f mo 8) er) : q_Ct l g K L yX12_number cX12_number 4 (some .int) 2 42 [.ref mo, .int (q_i a0), .int (q_i b0)] f [] (q_Pi (fun (z : Int) (f1 : Nat → va_E) => f = f1)) := by
  refine q_ofb (by decide +kernel) hN hT (Nat.le_of_ble_eq_true rfl) ?_
  intro p e s m below meth c ls cx hr hlk hB hl
  have hl : lv_has ls 4 [(0, .ref mo), (1, .int (q_i a0)), (2, .int (q_i b0))] := hl
  obtain ⟨H, hH⟩ : ∃ H : Heap, H = s.heap := ⟨_, rfl⟩
  obtain ⟨locs, hlocs⟩ : ∃ z : List Loc, z = [] := ⟨_, rfl⟩
  rw [← hH, ← hlocs] at hB
  rw [← hH, ← hlocs]
  refine q_ald_n cx dX12_number_0 rfl (lv_at hl 0 rfl) ?_
  refine q_ild_n cx dX12_number_1 rfl (lv_at hl 1 rfl) ?_
  refine q_ild_n cx dX12_number_2 rfl (lv_at hl 2 rfl) ?_
  refine q_cVi (As := [.int (q_i a0), .int (q_i b0)]) (rest := []) cx hB (fun _ h => h) hN hmo kmo (by decide) rfl (r_looks1 l g hN hB.2.1 mo hmo kmo a0 (by omega) (by omega) b0 (by omega) (by omega) er (by omega) (by omega) hf0) q_cX12_147 q_dX12_looks (by decide) rfl rfl hl.1 rfl (Nat.le_of_ble_eq_true rfl) dX12_number_3 (fun y9 H locs f8 ry9 h10 hF hB => ?_)
  obtain rfl := h10
  refine lv_istore_n (lv' := [(3, .int (q_i y9)), (0, .ref mo), (1, .int (q_i a0)), (2, .int (q_i b0))]) cx.1 cx.2.1 dX12_number_6 rfl hl (by decide) rfl (fun ls hl => ?_)
  refine q_ald_n cx dX12_number_7 rfl (lv_at hl 1 rfl) ?_
  refine q_cVi (As := []) (rest := []) cx hB (fun _ h => h) hN hmo kmo (by decide) rfl (r_isGood1 l g hN hB.2.1 mo hmo kmo er (by omega) (by omega) hf0) q_cX12_130 q_dX12_isGood (by decide) rfl rfl hl.1 rfl (Nat.le_of_ble_eq_true rfl) dX12_number_8 (fun y12 H locs f11 ry12 h13 hF hB => ?_)
  obtain ⟨rfl, qy12⟩ := h13
  subst qy12
  refine q_ifeq (tgt := 18) cx ⟨by decide, by decide⟩ dX12_number_11 (by decide) (fun c14 => ?_) (fun c14 => ?_)
  · refine q_ild_n cx dX12_number_18 rfl (lv_at hl 0 rfl) ?_
    refine q_iret cx hr hlk hB dX12_number_19 ⟨by omega, by omega⟩ ?_
    exact rfl
  · exact absurd c14 (by omega)
set_option maxHeartbeats 4000000 in
set_option maxRecDepth 100000 in
theorem r_beginsText (l : Launch) (g : q_G) {K : Nat → Nat} {L : List Nat} (hN : L.Nodup) {f : Nat → va_E} (hT : q_Ty g K L f) (mo : Nat) (hmo : mo ∈ L) (kmo : K mo = 12) (bu : Nat) (hbu : bu ∈ L) (kbu : K bu = 150) (hr0 : q_ir (q_r f mo 1) bu) : q_Ct l g K L yX12_beginsText cX12_beginsText 1 none 2 43 [.ref mo] f [(12, 2, 9), (12, 12, 12)] (q_Pv (fun (f1 : Nat → va_E) => q_is (q_z f1 mo 8) 0 ∧ q_is (q_z f1 mo 2) 0)) := by
  refine q_ofb (by decide +kernel) hN hT (Nat.le_of_ble_eq_true rfl) ?_
  intro p e s m below meth c ls cx hr hlk hB hl
  have hl : lv_has ls 1 [(0, .ref mo)] := hl
  obtain ⟨H, hH⟩ : ∃ H : Heap, H = s.heap := ⟨_, rfl⟩
  obtain ⟨locs, hlocs⟩ : ∃ z : List Loc, z = [] := ⟨_, rfl⟩
  rw [← hH, ← hlocs] at hB
  rw [← hH, ← hlocs]
  refine q_ald_n cx dX12_beginsText_0 rfl (lv_at hl 0 rfl) ?_
  refine q_ald_n cx dX12_beginsText_1 rfl (lv_at hl 0 rfl) ?_
  obtain ⟨x41, ex41⟩ : ∃ zz, q_is (q_z f mo 2) zz := ⟨_, q_isr _⟩
  refine q_gX12_82 cx hB hmo kmo ex41 dX12_beginsText_2 (fun lb42 ub42 => ?_)
  refine q_pX12_100 cx hB hmo kmo ⟨by omega, by omega⟩ (by omega) (by omega) rfl dX12_beginsText_5 (fun H locs f43 ef43 z44 hB => ?_)
  have z45 : q_is (q_z f43 mo 2) x41 := by rw [ef43, q_setz (Or.inr (by decide))]; exact ex41
  have z46 : q_ir (q_r f43 mo 1) bu := by rw [ef43, q_setr (Or.inr (by decide))]; exact hr0
  refine q_ald_n cx dX12_beginsText_8 rfl (lv_at hl 0 rfl) ?_
  refine q_iconst cx dX12_beginsText_9 ?_
  refine q_pX12_82 cx hB hmo kmo ⟨by decide, by decide⟩ (by decide) (by decide) rfl dX12_beginsText_10 (fun H locs f47 ef47 z48 hB => ?_)
  have z49 : q_is (q_z f47 mo 3) x41 := by rw [ef47, q_setz (Or.inr (by decide))]; exact z44
  have z50 : q_ir (q_r f47 mo 1) bu := by rw [ef47, q_setr (Or.inr (by decide))]; exact z46
  refine q_ald_n cx dX12_beginsText_13 rfl (lv_at hl 0 rfl) ?_
  refine q_iconst cx dX12_beginsText_14 ?_
  refine q_pX12_97 cx hB hmo kmo ⟨by decide, by decide⟩ (by decide) (by decide) rfl dX12_beginsText_15 (fun H locs f51 ef51 z52 hB => ?_)
  have z53 : q_is (q_z f51 mo 3) x41 := by rw [ef51, q_setz (Or.inr (by decide))]; exact z49
  have z54 : q_is (q_z f51 mo 2) 0 := by rw [ef51, q_setz (Or.inr (by decide))]; exact z48
  have z55 : q_ir (q_r f51 mo 1) bu := by rw [ef51, q_setr (Or.inr (by decide))]; exact z50
  refine q_ald_n cx dX12_beginsText_18 rfl (lv_at hl 0 rfl) ?_
  refine q_iconst cx dX12_beginsText_19 ?_
  refine q_pX12_127 cx hB hmo kmo ⟨by decide, by decide⟩ (by decide) (by decide) rfl dX12_beginsText_20 (fun H locs f56 ef56 z57 hB => ?_)
  have z58 : q_is (q_z f56 mo 3) x41 := by rw [ef56, q_setz (Or.inr (by decide))]; exact z53
  have z59 : q_is (q_z f56 mo 2) 0 := by rw [ef56, q_setz (Or.inr (by decide))]; exact z54
  have z60 : q_is (q_z f56 mo 4) 0 := by rw [ef56, q_setz (Or.inr (by decide))]; exact z52
  have z61 : q_ir (q_r f56 mo 1) bu := by rw [ef56, q_setr (Or.inr (by decide))]; exact z55
  refine q_ald_n cx dX12_beginsText_23 rfl (lv_at hl 0 rfl) ?_
  refine q_iconst cx dX12_beginsText_24 ?_
  refine q_pX12_13 cx hB hmo kmo ⟨by decide, by decide⟩ (by decide) (by decide) rfl dX12_beginsText_25 (fun H locs f62 ef62 z63 hB => ?_)
  have z64 : q_is (q_z f62 mo 3) x41 := by rw [ef62, q_setz (Or.inr (by decide))]; exact z58
  have z65 : q_is (q_z f62 mo 2) 0 := by rw [ef62, q_setz (Or.inr (by decide))]; exact z59
  have z66 : q_is (q_z f62 mo 4) 0 := by rw [ef62, q_setz (Or.inr (by decide))]; exact z60
  have z67 : q_is (q_z f62 mo 8) 0 := by rw [ef62, q_setz (Or.inr (by decide))]; exact z57
  have z68 : q_ir (q_r f62 mo 1) bu := by rw [ef62, q_setr (Or.inr (by decide))]; exact z61
  refine q_ald_n cx dX12_beginsText_28 rfl (lv_at hl 0 rfl) ?_
  refine q_cVv (As := []) (rest := []) cx hB (fun _ h => h) hN hmo kmo (by decide) rfl (r_goOn l g hN hB.2.1 mo hmo kmo bu hbu kbu 0 (by decide) (by decide) x41 (by omega) (by omega) z66 z64 z68) q_cX12_140 q_dX12_goOn (by decide) rfl rfl hl.1 rfl (Nat.le_of_ble_eq_true rfl) dX12_beginsText_29 (fun H locs f69 h71 hF hB => ?_)
  obtain ⟨t72, t73⟩ := h71
  have z74 : q_is (q_z f69 mo 3) x41 := Eq.trans (hF.z hmo (by rw [kmo]; rfl)) z64
  have z75 : q_is (q_z f69 mo 2) 0 := Eq.trans (hF.z hmo (by rw [kmo]; rfl)) z65
  have z76 : q_is (q_z f69 mo 8) 0 := Eq.trans (hF.z hmo (by rw [kmo]; rfl)) z67
  have z77 : q_is (q_z f69 mo 9) (-1) := Eq.trans (hF.z hmo (by rw [kmo]; rfl)) z63
  have z78 : q_ir (q_r f69 mo 1) bu := Eq.trans (hF.r hmo (by rw [kmo]; rfl)) z68
  obtain ⟨x79, ex79⟩ : ∃ zz, q_is (q_z f69 mo 4) zz := ⟨_, q_isr _⟩
  obtain ⟨lx79, ux79⟩ := q_isb ex79 (q_fib hB.2.1 hmo kmo (by decide) rfl)
  obtain ⟨x80, ex80⟩ : ∃ zz, q_is (q_z f69 mo 6) zz := ⟨_, q_isr _⟩
  obtain ⟨lx80, ux80⟩ := q_isb ex80 (q_fib hB.2.1 hmo kmo (by decide) rfl)
  replace t72 := q_isl9 ex79 t72
  replace t73 := k_po_si ex80 ex79 t73
  refine q_vret cx hr hlk hB dX12_beginsText_32 ?_
  exact ⟨z76, z75⟩
set_option maxHeartbeats 4000000 in
set_option maxRecDepth 100000 in
theorem r_endsText0 (l : Launch) (g : q_G) {K : Nat → Nat} {L : List Nat} (hN : L.Nodup) {f : Nat → va_E} (hT : q_Ty g K L f) (mo : Nat) (hmo : mo ∈ L) (kmo : K mo = 12) (hf0 : q_is (q_z f mo 8) 0) : q_Ct l g K L yX12_endsText cX12_endsText 1 (some .boolean) 2 41 [.ref mo] f [(12, 0, 0), (12, 10, 11)] (q_Pi (fun (z : Int) (f1 : Nat → va_E) => z = 1 ∧ q_is (q_z f1 mo 0) 0)) := by
  refine q_ofb (by decide +kernel) hN hT (Nat.le_of_ble_eq_true rfl) ?_
  intro p e s m below meth c ls cx hr hlk hB hl
  have hl : lv_has ls 1 [(0, .ref mo)] := hl
  obtain ⟨H, hH⟩ : ∃ H : Heap, H = s.heap := ⟨_, rfl⟩
  obtain ⟨locs, hlocs⟩ : ∃ z : List Loc, z = [] := ⟨_, rfl⟩
  rw [← hH, ← hlocs] at hB
  rw [← hH, ← hlocs]
  refine q_ald_n cx dX12_endsText_0 rfl (lv_at hl 0 rfl) ?_
  refine q_ald_n cx dX12_endsText_1 rfl (lv_at hl 0 rfl) ?_
  refine q_gX12_127 cx hB hmo kmo hf0 dX12_endsText_2 (fun lb22 ub22 => ?_)
  refine q_pX12_151 cx hB hmo kmo ⟨by decide, by decide⟩ (by decide) (by decide) rfl dX12_endsText_5 (fun H locs f23 ef23 z24 hB => ?_)
  have z25 : q_is (q_z f23 mo 8) 0 := by rw [ef23, q_setz (Or.inr (by decide))]; exact hf0
  refine q_ald_n cx dX12_endsText_8 rfl (lv_at hl 0 rfl) ?_
  refine q_ald_n cx dX12_endsText_9 rfl (lv_at hl 0 rfl) ?_
  obtain ⟨x26, ex26⟩ : ∃ zz, q_is (q_z f23 mo 9) zz := ⟨_, q_isr _⟩
  refine q_gX12_13 cx hB hmo kmo ex26 dX12_endsText_10 (fun lb27 ub27 => ?_)
  refine q_pX12_17 cx hB hmo kmo ⟨by omega, by omega⟩ (by omega) (by omega) rfl dX12_endsText_13 (fun H locs f28 ef28 z29 hB => ?_)
  have z30 : q_is (q_z f28 mo 8) 0 := by rw [ef28, q_setz (Or.inr (by decide))]; exact z25
  have z31 : q_is (q_z f28 mo 10) 0 := by rw [ef28, q_setz (Or.inr (by decide))]; exact z24
  have z32 : q_is (q_z f28 mo 9) x26 := by rw [ef28, q_setz (Or.inr (by decide))]; exact ex26
  refine q_ald_n cx dX12_endsText_16 rfl (lv_at hl 0 rfl) ?_
  refine q_ald_n cx dX12_endsText_17 rfl (lv_at hl 0 rfl) ?_
  refine q_gX12_127 cx hB hmo kmo z30 dX12_endsText_18 (fun lb33 ub33 => ?_)
  refine q_ifne (tgt := 28) cx ⟨by decide, by decide⟩ dX12_endsText_21 (by decide) (fun c34 => ?_) (fun c34 => ?_)
  · exact absurd c34 (by omega)
  · refine q_iconst cx dX12_endsText_24 ?_
    refine lv_goto (tgt := 29) cx.1 cx.2.1 dX12_endsText_25 (by decide) ?_
    refine q_cVi (As := [.int (q_i 1)]) (rest := []) cx hB (fun _ h => h) hN hmo kmo (by decide) rfl (r_goes1 l g hN hB.2.1 mo hmo kmo 1 (by decide) (by decide)) q_cX12_85 q_dX12_goes (by decide) rfl rfl hl.1 rfl (Nat.le_of_ble_eq_true rfl) dX12_endsText_29 (fun y36 H locs f35 ry36 h37 hF hB => ?_)
    obtain ⟨qy36, z38⟩ := h37
    have z39 : q_is (q_z f35 mo 8) 0 := Eq.trans (hF.z hmo (by rw [kmo]; rfl)) z30
    have z40 : q_is (q_z f35 mo 10) 0 := Eq.trans (hF.z hmo (by rw [kmo]; rfl)) z31
    have z41 : q_is (q_z f35 mo 9) x26 := Eq.trans (hF.z hmo (by rw [kmo]; rfl)) z32
    have z42 : q_is (q_z f35 mo 11) x26 := Eq.trans (hF.z hmo (by rw [kmo]; rfl)) z29
    subst qy36
    refine q_zret cx hr hlk hB dX12_endsText_32 (by decide) (by decide) ?_
    exact ⟨rfl, z38⟩
set_option maxHeartbeats 4000000 in
set_option maxRecDepth 100000 in
theorem r_endsText1 (l : Launch) (g : q_G) {K : Nat → Nat} {L : List Nat} (hN : L.Nodup) {f : Nat → va_E} (hT : q_Ty g K L f) (mo : Nat) (hmo : mo ∈ L) (kmo : K mo = 12) (er : Int) (ler : 1 ≤ er) (uer : er ≤ 5) (hf0 : q_is (q_z f mo 8) er) : q_Ct l g K L yX12_endsText cX12_endsText 1 (some .boolean) 2 41 [.ref mo] f [(12, 0, 0), (12, 10, 11)] (q_Pi (fun (z : Int) (f1 : Nat → va_E) => z = 0 ∧ q_is (q_z f1 mo 0) 1)) := by
  refine q_ofb (by decide +kernel) hN hT (Nat.le_of_ble_eq_true rfl) ?_
  intro p e s m below meth c ls cx hr hlk hB hl
  have hl : lv_has ls 1 [(0, .ref mo)] := hl
  obtain ⟨H, hH⟩ : ∃ H : Heap, H = s.heap := ⟨_, rfl⟩
  obtain ⟨locs, hlocs⟩ : ∃ z : List Loc, z = [] := ⟨_, rfl⟩
  rw [← hH, ← hlocs] at hB
  rw [← hH, ← hlocs]
  refine q_ald_n cx dX12_endsText_0 rfl (lv_at hl 0 rfl) ?_
  refine q_ald_n cx dX12_endsText_1 rfl (lv_at hl 0 rfl) ?_
  refine q_gX12_127 cx hB hmo kmo hf0 dX12_endsText_2 (fun lb22 ub22 => ?_)
  refine q_pX12_151 cx hB hmo kmo ⟨by omega, by omega⟩ (by omega) (by omega) rfl dX12_endsText_5 (fun H locs f23 ef23 z24 hB => ?_)
  have z25 : q_is (q_z f23 mo 8) er := by rw [ef23, q_setz (Or.inr (by decide))]; exact hf0
  refine q_ald_n cx dX12_endsText_8 rfl (lv_at hl 0 rfl) ?_
  refine q_ald_n cx dX12_endsText_9 rfl (lv_at hl 0 rfl) ?_
  obtain ⟨x26, ex26⟩ : ∃ zz, q_is (q_z f23 mo 9) zz := ⟨_, q_isr _⟩
  refine q_gX12_13 cx hB hmo kmo ex26 dX12_endsText_10 (fun lb27 ub27 => ?_)
  refine q_pX12_17 cx hB hmo kmo ⟨by omega, by omega⟩ (by omega) (by omega) rfl dX12_endsText_13 (fun H locs f28 ef28 z29 hB => ?_)
  have z30 : q_is (q_z f28 mo 8) er := by rw [ef28, q_setz (Or.inr (by decide))]; exact z25
  have z31 : q_is (q_z f28 mo 10) er := by rw [ef28, q_setz (Or.inr (by decide))]; exact z24
  have z32 : q_is (q_z f28 mo 9) x26 := by rw [ef28, q_setz (Or.inr (by decide))]; exact ex26
  refine q_ald_n cx dX12_endsText_16 rfl (lv_at hl 0 rfl) ?_
  refine q_ald_n cx dX12_endsText_17 rfl (lv_at hl 0 rfl) ?_
  refine q_gX12_127 cx hB hmo kmo z30 dX12_endsText_18 (fun lb33 ub33 => ?_)
  refine q_ifne (tgt := 28) cx ⟨by omega, by omega⟩ dX12_endsText_21 (by decide) (fun c34 => ?_) (fun c34 => ?_)
  · refine q_iconst cx dX12_endsText_28 ?_
    refine q_cVi (As := [.int (q_i 0)]) (rest := []) cx hB (fun _ h => h) hN hmo kmo (by decide) rfl (r_goes0 l g hN hB.2.1 mo hmo kmo 0 (by decide) (by decide)) q_cX12_85 q_dX12_goes (by decide) rfl rfl hl.1 rfl (Nat.le_of_ble_eq_true rfl) dX12_endsText_29 (fun y36 H locs f35 ry36 h37 hF hB => ?_)
    obtain ⟨qy36, z38⟩ := h37
    have z39 : q_is (q_z f35 mo 8) er := Eq.trans (hF.z hmo (by rw [kmo]; rfl)) z30
    have z40 : q_is (q_z f35 mo 10) er := Eq.trans (hF.z hmo (by rw [kmo]; rfl)) z31
    have z41 : q_is (q_z f35 mo 9) x26 := Eq.trans (hF.z hmo (by rw [kmo]; rfl)) z32
    have z42 : q_is (q_z f35 mo 11) x26 := Eq.trans (hF.z hmo (by rw [kmo]; rfl)) z29
    subst qy36
    refine q_zret cx hr hlk hB dX12_endsText_32 (by decide) (by decide) ?_
    exact ⟨rfl, z38⟩
  · exact absurd c34 (by omega)
