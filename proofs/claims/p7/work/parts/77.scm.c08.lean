set_option maxHeartbeats 4000000 in
set_option maxRecDepth 100000 in
theorem f_merrorCode (l : Launch) (g : q_G) {K : Nat → Nat} {L : List Nat} (hN : L.Nodup) {f : Nat → va_E} (hT : q_Ty g K L f) (mo : Nat) (hmo : mo ∈ L) (kmo : K mo = 12) (ek : Int) (lek : (-2147483648) ≤ ek) (uek : ek ≤ 2147483647) (hf0 : q_is (q_z f mo 10) ek) : q_Ct l g K L yX12_errorCode cX12_errorCode 1 (some .int) 0 0 [.ref mo] f [(12, 0, 0)] (q_Pi (fun (z : Int) (f1 : Nat → va_E) => z = ek ∧ q_is (q_z f1 mo 0) 0)) := by
  refine q_ofb (by decide +kernel) hN hT (Nat.le_of_ble_eq_true rfl) ?_
  intro p e s m below meth c ls cx hr hlk hB hl
  have hl : lv_has ls 1 [(0, .ref mo)] := hl
  obtain ⟨H, hH⟩ : ∃ H : Heap, H = s.heap := ⟨_, rfl⟩
  obtain ⟨locs, hlocs⟩ : ∃ z : List Loc, z = [] := ⟨_, rfl⟩
  rw [← hH, ← hlocs] at hB
  rw [← hH, ← hlocs]
  refine q_ald_n cx dX12_errorCode_0 rfl (lv_at hl 0 rfl) ?_
  refine q_iconst cx dX12_errorCode_1 ?_
  refine q_pX12_75 cx hB hmo kmo ⟨by decide, by decide⟩ (by decide) (by decide) rfl dX12_errorCode_2 (fun H locs f5 ef5 z6 hB => ?_)
  have z7 : q_is (q_z f5 mo 10) ek := by rw [ef5, q_setz (Or.inr (by decide))]; exact hf0
  refine q_ald_n cx dX12_errorCode_5 rfl (lv_at hl 0 rfl) ?_
  refine q_gX12_151 cx hB hmo kmo z7 dX12_errorCode_6 (fun lb8 ub8 => ?_)
  refine q_iret cx hr hlk hB dX12_errorCode_9 ⟨by omega, by omega⟩ ?_
  exact ⟨rfl, z6⟩
set_option maxHeartbeats 4000000 in
set_option maxRecDepth 100000 in
theorem f_merrorPosition (l : Launch) (g : q_G) {K : Nat → Nat} {L : List Nat} (hN : L.Nodup) {f : Nat → va_E} (hT : q_Ty g K L f) (mo : Nat) (hmo : mo ∈ L) (kmo : K mo = 12) (ek : Int) (lek : (-2147483648) ≤ ek) (uek : ek ≤ 2147483647) (hf0 : q_is (q_z f mo 11) ek) : q_Ct l g K L yX12_errorPosition cX12_errorPosition 1 (some .int) 0 0 [.ref mo] f [(12, 0, 0)] (q_Pi (fun (z : Int) (f1 : Nat → va_E) => z = ek ∧ q_is (q_z f1 mo 0) 0)) := by
  refine q_ofb (by decide +kernel) hN hT (Nat.le_of_ble_eq_true rfl) ?_
  intro p e s m below meth c ls cx hr hlk hB hl
  have hl : lv_has ls 1 [(0, .ref mo)] := hl
  obtain ⟨H, hH⟩ : ∃ H : Heap, H = s.heap := ⟨_, rfl⟩
  obtain ⟨locs, hlocs⟩ : ∃ z : List Loc, z = [] := ⟨_, rfl⟩
  rw [← hH, ← hlocs] at hB
  rw [← hH, ← hlocs]
  refine q_ald_n cx dX12_errorPosition_0 rfl (lv_at hl 0 rfl) ?_
  refine q_iconst cx dX12_errorPosition_1 ?_
  refine q_pX12_75 cx hB hmo kmo ⟨by decide, by decide⟩ (by decide) (by decide) rfl dX12_errorPosition_2 (fun H locs f5 ef5 z6 hB => ?_)
  have z7 : q_is (q_z f5 mo 11) ek := by rw [ef5, q_setz (Or.inr (by decide))]; exact hf0
  refine q_ald_n cx dX12_errorPosition_5 rfl (lv_at hl 0 rfl) ?_
  refine q_gX12_17 cx hB hmo kmo z7 dX12_errorPosition_6 (fun lb8 ub8 => ?_)
  refine q_iret cx hr hlk hB dX12_errorPosition_9 ⟨by omega, by omega⟩ ?_
  exact ⟨rfl, z6⟩
