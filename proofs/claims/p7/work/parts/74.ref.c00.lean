set_option maxHeartbeats 4000000 in
set_option maxRecDepth 100000 in
theorem f_mhere (l : Launch) (g : q_G) {K : Nat → Nat} {L : List Nat} (hN : L.Nodup) {f : Nat → va_E} (hT : q_Ty g K L f) (B : Nat → Int) (mo : Nat) (hmo : mo ∈ L) (kmo : K mo = 12) (a0 : Int) (la0 : 0 ≤ a0) (ua0 : a0 ≤ 600) (bu : Nat) (hbu : bu ∈ L) (kbu : K bu = 150) (xp : Int) (lxp : 0 ≤ xp) (uxp : xp ≤ 600) (tn : Int) (ltn : 0 ≤ tn) (utn : tn ≤ 600) (hf0 : q_is (q_z f mo 4) xp) (hf1 : q_is (q_z f mo 3) tn) (hr0 : q_ir (q_r f mo 1) bu) (hub : tk_ub f bu B tn) : q_Ct l g K L yX12_here cX12_here 2 (some .int) 0 0 [.ref mo, .int (q_i a0)] f [] (q_Pi (fun (z : Int) (f1 : Nat → va_E) => (f = f1 ∧ 0 ≤ z ∧ z ≤ 255 ∧ (z = tk_u (B (Int.toNat (xp + a0)))) ∧ (xp + a0 < tn)) ∨ (f = f1 ∧ z = (-1) ∧ (tn ≤ xp + a0)))) := by
  refine q_ofb (by decide +kernel) hN hT (Nat.le_of_ble_eq_true rfl) ?_
  intro p e s m below meth c ls cx hr hlk hB hl
  have hl : lv_has ls 2 [(0, .ref mo), (1, .int (q_i a0))] := hl
  obtain ⟨H, hH⟩ : ∃ H : Heap, H = s.heap := ⟨_, rfl⟩
  obtain ⟨locs, hlocs⟩ : ∃ z : List Loc, z = [] := ⟨_, rfl⟩
  rw [← hH, ← hlocs] at hB
  rw [← hH, ← hlocs]
  refine q_ald_n cx dX12_here_0 rfl (lv_at hl 0 rfl) ?_
  refine q_gX12_97 cx hB hmo kmo hf0 dX12_here_1 (fun lb8 ub8 => ?_)
  refine q_ild_n cx dX12_here_4 rfl (lv_at hl 1 rfl) ?_
  refine q_iadd cx dX12_here_5 ?_
  refine q_ald_n cx dX12_here_6 rfl (lv_at hl 0 rfl) ?_
  refine q_gX12_100 cx hB hmo kmo hf1 dX12_here_7 (fun lb9 ub9 => ?_)
  refine q_icge (tgt := 27) cx ⟨by omega, by omega⟩ ⟨by omega, by omega⟩ dX12_here_10 (by decide) (fun c10 => ?_) (fun c10 => ?_)
  · refine q_iconst cx dX12_here_27 ?_
    refine q_iret cx hr hlk hB dX12_here_28 ⟨by decide, by decide⟩ ?_
    exact (Or.inr ⟨rfl, rfl, (by omega)⟩)
  · refine q_ald_n cx dX12_here_13 rfl (lv_at hl 0 rfl) ?_
    refine q_gX12_7 cx hB hmo kmo hr0 dX12_here_14 (fun hb11 kb11 => ?_)
    refine q_ald_n cx dX12_here_17 rfl (lv_at hl 0 rfl) ?_
    refine q_gX12_97 cx hB hmo kmo hf0 dX12_here_18 (fun lb12 ub12 => ?_)
    refine q_ild_n cx dX12_here_21 rfl (lv_at hl 1 rfl) ?_
    refine q_iadd cx dX12_here_22 ?_
    obtain ⟨x13, ex13⟩ : ∃ zz, q_is (q_z f bu (Int.toNat (xp + a0))) zz := ⟨_, q_isr _⟩
    refine q_iald (lo := 0) (hi := 255) (n := 600) cx hB hbu kbu (by decide) rfl rfl (by omega) (by omega) (by decide) rfl ex13 dX12_here_23 (fun lb14 ub14 => ?_)
    refine lv_goto (tgt := 28) cx.1 cx.2.1 dX12_here_24 (by decide) ?_
    refine q_iret cx hr hlk hB dX12_here_28 ⟨by omega, by omega⟩ ?_
    exact (Or.inl ⟨rfl, (by omega), (by omega), (tk_ub_at hub ex13 (by omega) (by omega)), (by omega)⟩)
set_option maxHeartbeats 4000000 in
set_option maxRecDepth 100000 in
theorem f_misLetter (l : Launch) (g : q_G) {K : Nat → Nat} {L : List Nat} (hN : L.Nodup) {f : Nat → va_E} (hT : q_Ty g K L f) (a0 : Int) (la0 : (-2147483648) ≤ a0) (ua0 : a0 ≤ 2147483647) : q_Ct l g K L yX12_isLetter cX12_isLetter 1 (some .boolean) 0 0 [.int (q_i a0)] f [] (q_Pi (fun (z : Int) (f1 : Nat → va_E) => (f = f1 ∧ z = 1 ∧ (97 ≤ a0) ∧ (a0 ≤ 122) ∧ (tk_lt a0 = true)) ∨ (f = f1 ∧ z = 0 ∧ (tk_lt a0 = false)))) := by
  refine q_ofb (by decide +kernel) hN hT (Nat.le_of_ble_eq_true rfl) ?_
  intro p e s m below meth c ls cx hr hlk hB hl
  have hl : lv_has ls 1 [(0, .int (q_i a0))] := hl
  obtain ⟨H, hH⟩ : ∃ H : Heap, H = s.heap := ⟨_, rfl⟩
  obtain ⟨locs, hlocs⟩ : ∃ z : List Loc, z = [] := ⟨_, rfl⟩
  rw [← hH, ← hlocs] at hB
  rw [← hH, ← hlocs]
  refine q_ild_n cx dX12_isLetter_0 rfl (lv_at hl 0 rfl) ?_
  refine q_bipush cx dX12_isLetter_1 rfl ?_
  refine q_iclt (tgt := 16) cx ⟨by omega, by omega⟩ ⟨by decide, by decide⟩ dX12_isLetter_3 (by decide) (fun c3 => ?_) (fun c3 => ?_)
  · refine q_iconst cx dX12_isLetter_16 ?_
    refine q_zret cx hr hlk hB dX12_isLetter_17 (by decide) (by decide) ?_
    exact (Or.inr ⟨rfl, rfl, (tk_lt_no (by omega))⟩)
  · refine q_ild_n cx dX12_isLetter_6 rfl (lv_at hl 0 rfl) ?_
    refine q_bipush cx dX12_isLetter_7 rfl ?_
    refine q_icgt (tgt := 16) cx ⟨by omega, by omega⟩ ⟨by decide, by decide⟩ dX12_isLetter_9 (by decide) (fun c4 => ?_) (fun c4 => ?_)
    · refine q_iconst cx dX12_isLetter_16 ?_
      refine q_zret cx hr hlk hB dX12_isLetter_17 (by decide) (by decide) ?_
      exact (Or.inr ⟨rfl, rfl, (tk_lt_no (by omega))⟩)
    · refine q_iconst cx dX12_isLetter_12 ?_
      refine lv_goto (tgt := 17) cx.1 cx.2.1 dX12_isLetter_13 (by decide) ?_
      refine q_zret cx hr hlk hB dX12_isLetter_17 (by decide) (by decide) ?_
      exact (Or.inl ⟨rfl, rfl, (by omega), (by omega), (tk_lt_iff.mpr ⟨by omega, by omega⟩)⟩)
set_option maxHeartbeats 4000000 in
set_option maxRecDepth 100000 in
theorem f_misDigit (l : Launch) (g : q_G) {K : Nat → Nat} {L : List Nat} (hN : L.Nodup) {f : Nat → va_E} (hT : q_Ty g K L f) (a0 : Int) (la0 : (-2147483648) ≤ a0) (ua0 : a0 ≤ 2147483647) : q_Ct l g K L yX12_isDigit cX12_isDigit 1 (some .boolean) 0 0 [.int (q_i a0)] f [] (q_Pi (fun (z : Int) (f1 : Nat → va_E) => (f = f1 ∧ z = 1 ∧ (48 ≤ a0) ∧ (a0 ≤ 57) ∧ (tk_dg a0 = true)) ∨ (f = f1 ∧ z = 0 ∧ (tk_dg a0 = false)))) := by
  refine q_ofb (by decide +kernel) hN hT (Nat.le_of_ble_eq_true rfl) ?_
  intro p e s m below meth c ls cx hr hlk hB hl
  have hl : lv_has ls 1 [(0, .int (q_i a0))] := hl
  obtain ⟨H, hH⟩ : ∃ H : Heap, H = s.heap := ⟨_, rfl⟩
  obtain ⟨locs, hlocs⟩ : ∃ z : List Loc, z = [] := ⟨_, rfl⟩
  rw [← hH, ← hlocs] at hB
  rw [← hH, ← hlocs]
  refine q_ild_n cx dX12_isDigit_0 rfl (lv_at hl 0 rfl) ?_
  refine q_bipush cx dX12_isDigit_1 rfl ?_
  refine q_iclt (tgt := 16) cx ⟨by omega, by omega⟩ ⟨by decide, by decide⟩ dX12_isDigit_3 (by decide) (fun c3 => ?_) (fun c3 => ?_)
  · refine q_iconst cx dX12_isDigit_16 ?_
    refine q_zret cx hr hlk hB dX12_isDigit_17 (by decide) (by decide) ?_
    exact (Or.inr ⟨rfl, rfl, (tk_dg_no (by omega))⟩)
  · refine q_ild_n cx dX12_isDigit_6 rfl (lv_at hl 0 rfl) ?_
    refine q_bipush cx dX12_isDigit_7 rfl ?_
    refine q_icgt (tgt := 16) cx ⟨by omega, by omega⟩ ⟨by decide, by decide⟩ dX12_isDigit_9 (by decide) (fun c4 => ?_) (fun c4 => ?_)
    · refine q_iconst cx dX12_isDigit_16 ?_
      refine q_zret cx hr hlk hB dX12_isDigit_17 (by decide) (by decide) ?_
      exact (Or.inr ⟨rfl, rfl, (tk_dg_no (by omega))⟩)
    · refine q_iconst cx dX12_isDigit_12 ?_
      refine lv_goto (tgt := 17) cx.1 cx.2.1 dX12_isDigit_13 (by decide) ?_
      refine q_zret cx hr hlk hB dX12_isDigit_17 (by decide) (by decide) ?_
      exact (Or.inl ⟨rfl, rfl, (by omega), (by omega), (tk_dg_iff.mpr ⟨by omega, by omega⟩)⟩)
