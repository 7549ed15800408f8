set_option maxHeartbeats 4000000 in
set_option maxRecDepth 100000 in
theorem r_any0 (l : Launch) (g : q_G) {K : Nat → Nat} {L : List Nat} (hN : L.Nodup) {f : Nat → va_E} (hT : q_Ty g K L f) (mo : Nat) (hmo : mo ∈ L) (kmo : K mo = 12) (bu : Nat) (hbu : bu ∈ L) (kbu : K bu = 150) (xp : Int) (lxp : 0 ≤ xp) (uxp : xp ≤ 600) (hf0 : q_is (q_z f mo 8) 0) (hf1 : q_is (q_z f mo 4) xp) (hr0 : q_ir (q_r f mo 1) bu) : q_Ct l g K L yX12_any cX12_any 1 (some .int) 3 70 [.ref mo] f [(12, 4, 9), (12, 12, 12)] (q_Pi (fun (z : Int) (f1 : Nat → va_E) => (0 ≤ z ∧ z ≤ 999 ∧ q_is (q_z f1 mo 8) 0 ∧ (xp ≤ q_z f1 mo 4) ∧ (k_po (q_z f1 mo 6) (q_z f1 mo 4) xp)) ∨ (1 ≤ q_z f1 mo 8 ∧ q_z f1 mo 8 ≤ 5))) := by
  refine q_ofb (by decide +kernel) hN hT (Nat.le_of_ble_eq_true rfl) ?_
  intro p e s m below meth c ls cx hr hlk hB hl
  have hl : lv_has ls 1 [(0, .ref mo)] := hl
  obtain ⟨H, hH⟩ : ∃ H : Heap, H = s.heap := ⟨_, rfl⟩
  obtain ⟨locs, hlocs⟩ : ∃ z : List Loc, z = [] := ⟨_, rfl⟩
  rw [← hH, ← hlocs] at hB
  rw [← hH, ← hlocs]
  refine q_ald_n cx dX12_any_0 rfl (lv_at hl 0 rfl) ?_
  refine q_iconst cx dX12_any_1 ?_
  refine q_sipush cx dX12_any_2 rfl ?_
  refine q_cVi (As := [.int (q_i 0), .int (q_i 999)]) (rest := []) cx hB (fun _ h => h) hN hmo kmo (by decide) rfl (r_number0 l g hN hB.2.1 mo hmo kmo 0 (by decide) (by decide) 999 (by decide) (by decide) bu hbu kbu xp (by omega) (by omega) hf0 hf1 hr0) q_cX12_193 q_dX12_number (by decide) rfl rfl hl.1 rfl (Nat.le_of_ble_eq_true rfl) dX12_any_5 (fun y20 H locs f19 ry20 h21 hF hB => ?_)
  rcases h21 with h22 | h23
  · obtain ⟨z24, t25, t26, t27, t28⟩ := h22
    have z29 : q_ir (q_r f19 mo 1) bu := Eq.trans (hF.r hmo (by rw [kmo]; rfl)) hr0
    obtain ⟨x30, ex30⟩ : ∃ zz, q_is (q_z f19 mo 4) zz := ⟨_, q_isr _⟩
    obtain ⟨lx30, ux30⟩ := q_isb ex30 (q_fib hB.2.1 hmo kmo (by decide) rfl)
    obtain ⟨x31, ex31⟩ : ∃ zz, q_is (q_z f19 mo 6) zz := ⟨_, q_isr _⟩
    obtain ⟨lx31, ux31⟩ := q_isb ex31 (q_fib hB.2.1 hmo kmo (by decide) rfl)
    replace t25 := q_isl9 ex30 t25
    replace t26 := k_po_si ex31 ex30 t26
    refine q_iret cx hr hlk hB dX12_any_8 ⟨by omega, by omega⟩ ?_
    exact (Or.inl ⟨(by omega), (by omega), z24, (q_isl ex30 (by omega)), (k_po_is ex31 ex30 (k_po_mono t26 (by omega)))⟩)
  · obtain ⟨lz32, uz32⟩ := h23
    have z33 : q_ir (q_r f19 mo 1) bu := Eq.trans (hF.r hmo (by rw [kmo]; rfl)) hr0
    obtain ⟨x34, ex34⟩ : ∃ zz, q_is (q_z f19 mo 8) zz := ⟨_, q_isr _⟩
    obtain ⟨lx34, ux34⟩ := q_isb ex34 ⟨lz32, uz32⟩
    obtain ⟨x35, ex35⟩ : ∃ zz, q_is (q_z f19 mo 4) zz := ⟨_, q_isr _⟩
    obtain ⟨lx35, ux35⟩ := q_isb ex35 (q_fib hB.2.1 hmo kmo (by decide) rfl)
    obtain ⟨x36, ex36⟩ : ∃ zz, q_is (q_z f19 mo 6) zz := ⟨_, q_isr _⟩
    obtain ⟨lx36, ux36⟩ := q_isb ex36 (q_fib hB.2.1 hmo kmo (by decide) rfl)
    refine q_iret cx hr hlk hB dX12_any_8 ⟨by omega, by omega⟩ ?_
    exact (Or.inr ⟨(q_isl ex34 (by omega)), (q_isu ex34 (by omega))⟩)
set_option maxHeartbeats 4000000 in
set_option maxRecDepth 100000 in
theorem r_any1 (l : Launch) (g : q_G) {K : Nat → Nat} {L : List Nat} (hN : L.Nodup) {f : Nat → va_E} (hT : q_Ty g K L f) (mo : Nat) (hmo : mo ∈ L) (kmo : K mo = 12) (er : Int) (ler : 1 ≤ er) (uer : er ≤ 5) (hf0 : q_is (q_z f mo 8) er) : q_Ct l g K L yX12_any cX12_any 1 (some .int) 3 65 [.ref mo] f [] (q_Pi (fun (z : Int) (f1 : Nat → va_E) => f = f1)) := by
  refine q_ofb (by decide +kernel) hN hT (Nat.le_of_ble_eq_true rfl) ?_
  intro p e s m below meth c ls cx hr hlk hB hl
  have hl : lv_has ls 1 [(0, .ref mo)] := hl
  obtain ⟨H, hH⟩ : ∃ H : Heap, H = s.heap := ⟨_, rfl⟩
  obtain ⟨locs, hlocs⟩ : ∃ z : List Loc, z = [] := ⟨_, rfl⟩
  rw [← hH, ← hlocs] at hB
  rw [← hH, ← hlocs]
  refine q_ald_n cx dX12_any_0 rfl (lv_at hl 0 rfl) ?_
  refine q_iconst cx dX12_any_1 ?_
  refine q_sipush cx dX12_any_2 rfl ?_
  refine q_cVi (As := [.int (q_i 0), .int (q_i 999)]) (rest := []) cx hB (fun _ h => h) hN hmo kmo (by decide) rfl (r_number1 l g hN hB.2.1 mo hmo kmo 0 (by decide) (by decide) 999 (by decide) (by decide) er (by omega) (by omega) hf0) q_cX12_193 q_dX12_number (by decide) rfl rfl hl.1 rfl (Nat.le_of_ble_eq_true rfl) dX12_any_5 (fun y5 H locs f4 ry5 h6 hF hB => ?_)
  obtain rfl := h6
  refine q_iret cx hr hlk hB dX12_any_8 ⟨by omega, by omega⟩ ?_
  exact rfl
set_option maxHeartbeats 4000000 in
set_option maxRecDepth 100000 in
theorem r_commandHere0 (l : Launch) (g : q_G) {K : Nat → Nat} {L : List Nat} (hN : L.Nodup) {f : Nat → va_E} (hT : q_Ty g K L f) (mo : Nat) (hmo : mo ∈ L) (kmo : K mo = 12) (hf0 : q_is (q_z f mo 8) 0) : q_Ct l g K L yX12_commandHere cX12_commandHere 1 (some .int) 1 22 [.ref mo] f [] (q_Pi (fun (z : Int) (f1 : Nat → va_E) => (f = f1 ∧ z = 0) ∨ (f = f1 ∧ z = 1) ∨ (f = f1 ∧ z = 2) ∨ (f = f1 ∧ z = 3) ∨ (f = f1 ∧ z = 4) ∨ (f = f1 ∧ z = 5) ∨ (f = f1 ∧ z = 6) ∨ (f = f1 ∧ z = (-1)))) := by
  refine q_ofb (by decide +kernel) hN hT (Nat.le_of_ble_eq_true rfl) ?_
  intro p e s m below meth c ls cx hr hlk hB hl
  have hl : lv_has ls 1 [(0, .ref mo)] := hl
  obtain ⟨H, hH⟩ : ∃ H : Heap, H = s.heap := ⟨_, rfl⟩
  obtain ⟨locs, hlocs⟩ : ∃ z : List Loc, z = [] := ⟨_, rfl⟩
  rw [← hH, ← hlocs] at hB
  rw [← hH, ← hlocs]
  refine q_ald_n cx dX12_commandHere_0 rfl (lv_at hl 0 rfl) ?_
  refine lv_ldc2 (v := q_l 664683) cx.1 cx.2.1 cx.2.2.2.1 (cx.2.2.2.2 _ q_h2220) dX12_commandHere_1 ?_
  refine q_cVi (As := [.long (q_l 664683)]) (rest := []) cx hB (fun _ h => h) hN hmo kmo (by decide) rfl (r_isWord0 l g hN hB.2.1 mo hmo kmo (q_l 664683) hf0) q_cX12_143 q_dX12_isWord (by decide) rfl rfl hl.1 rfl (Nat.le_of_ble_eq_true rfl) dX12_commandHere_4 (fun y58 H locs f57 ry58 h59 hF hB => ?_)
  rcases h59 with h60 | h61
  · obtain ⟨rfl, qy58, t62⟩ := h60
    subst qy58
    refine q_ifeq (tgt := 12) cx ⟨by decide, by decide⟩ dX12_commandHere_7 (by decide) (fun c63 => ?_) (fun c63 => ?_)
    · exact absurd c63 (by omega)
    · refine q_iconst cx dX12_commandHere_10 ?_
      refine q_iret cx hr hlk hB dX12_commandHere_11 ⟨by decide, by decide⟩ ?_
      exact (Or.inl ⟨rfl, rfl⟩)
  · obtain ⟨rfl, qy58⟩ := h61
    subst qy58
    refine q_ifeq (tgt := 12) cx ⟨by decide, by decide⟩ dX12_commandHere_7 (by decide) (fun c64 => ?_) (fun c64 => ?_)
    · refine q_ald_n cx dX12_commandHere_12 rfl (lv_at hl 0 rfl) ?_
      refine lv_ldc2 (v := q_l 628164) cx.1 cx.2.1 cx.2.2.2.1 (cx.2.2.2.2 _ q_h2221) dX12_commandHere_13 ?_
      refine q_cVi (As := [.long (q_l 628164)]) (rest := []) cx hB (fun _ h => h) hN hmo kmo (by decide) rfl (r_isWord0 l g hN hB.2.1 mo hmo kmo (q_l 628164) hf0) q_cX12_143 q_dX12_isWord (by decide) rfl rfl hl.1 rfl (Nat.le_of_ble_eq_true rfl) dX12_commandHere_16 (fun y66 H locs f65 ry66 h67 hF hB => ?_)
      rcases h67 with h68 | h69
      · obtain ⟨rfl, qy66, t70⟩ := h68
        subst qy66
        refine q_ifeq (tgt := 24) cx ⟨by decide, by decide⟩ dX12_commandHere_19 (by decide) (fun c71 => ?_) (fun c71 => ?_)
        · exact absurd c71 (by omega)
        · refine q_iconst cx dX12_commandHere_22 ?_
          refine q_iret cx hr hlk hB dX12_commandHere_23 ⟨by decide, by decide⟩ ?_
          exact (Or.inr (Or.inl ⟨rfl, rfl⟩))
      · obtain ⟨rfl, qy66⟩ := h69
        subst qy66
        refine q_ifeq (tgt := 24) cx ⟨by decide, by decide⟩ dX12_commandHere_19 (by decide) (fun c72 => ?_) (fun c72 => ?_)
        · refine q_ald_n cx dX12_commandHere_24 rfl (lv_at hl 0 rfl) ?_
          refine lv_ldc2 (v := q_l 99724) cx.1 cx.2.1 cx.2.2.2.1 (cx.2.2.2.2 _ q_h2222) dX12_commandHere_25 ?_
          refine q_cVi (As := [.long (q_l 99724)]) (rest := []) cx hB (fun _ h => h) hN hmo kmo (by decide) rfl (r_isWord0 l g hN hB.2.1 mo hmo kmo (q_l 99724) hf0) q_cX12_143 q_dX12_isWord (by decide) rfl rfl hl.1 rfl (Nat.le_of_ble_eq_true rfl) dX12_commandHere_28 (fun y74 H locs f73 ry74 h75 hF hB => ?_)
          rcases h75 with h76 | h77
          · obtain ⟨rfl, qy74, t78⟩ := h76
            subst qy74
            refine q_ifeq (tgt := 36) cx ⟨by decide, by decide⟩ dX12_commandHere_31 (by decide) (fun c79 => ?_) (fun c79 => ?_)
            · exact absurd c79 (by omega)
            · refine q_iconst cx dX12_commandHere_34 ?_
              refine q_iret cx hr hlk hB dX12_commandHere_35 ⟨by decide, by decide⟩ ?_
              exact (Or.inr (Or.inr (Or.inl ⟨rfl, rfl⟩)))
          · obtain ⟨rfl, qy74⟩ := h77
            subst qy74
            refine q_ifeq (tgt := 36) cx ⟨by decide, by decide⟩ dX12_commandHere_31 (by decide) (fun c80 => ?_) (fun c80 => ?_)
            · refine q_ald_n cx dX12_commandHere_36 rfl (lv_at hl 0 rfl) ?_
              refine lv_ldc2 (v := q_l 20194516) cx.1 cx.2.1 cx.2.2.2.1 (cx.2.2.2.2 _ q_h1812) dX12_commandHere_37 ?_
              refine q_cVi (As := [.long (q_l 20194516)]) (rest := []) cx hB (fun _ h => h) hN hmo kmo (by decide) rfl (r_isWord0 l g hN hB.2.1 mo hmo kmo (q_l 20194516) hf0) q_cX12_143 q_dX12_isWord (by decide) rfl rfl hl.1 rfl (Nat.le_of_ble_eq_true rfl) dX12_commandHere_40 (fun y82 H locs f81 ry82 h83 hF hB => ?_)
              rcases h83 with h84 | h85
              · obtain ⟨rfl, qy82, t86⟩ := h84
                subst qy82
                refine q_ifeq (tgt := 48) cx ⟨by decide, by decide⟩ dX12_commandHere_43 (by decide) (fun c87 => ?_) (fun c87 => ?_)
                · exact absurd c87 (by omega)
                · refine q_iconst cx dX12_commandHere_46 ?_
                  refine q_iret cx hr hlk hB dX12_commandHere_47 ⟨by decide, by decide⟩ ?_
                  exact (Or.inr (Or.inr (Or.inr (Or.inl ⟨rfl, rfl⟩))))
              · obtain ⟨rfl, qy82⟩ := h85
                subst qy82
                refine q_ifeq (tgt := 48) cx ⟨by decide, by decide⟩ dX12_commandHere_43 (by decide) (fun c88 => ?_) (fun c88 => ?_)
                · refine q_ald_n cx dX12_commandHere_48 rfl (lv_at hl 0 rfl) ?_
                  refine lv_ldc2 (v := q_l 24170600) cx.1 cx.2.1 cx.2.2.2.1 (cx.2.2.2.2 _ q_h2223) dX12_commandHere_49 ?_
                  refine q_cVi (As := [.long (q_l 24170600)]) (rest := []) cx hB (fun _ h => h) hN hmo kmo (by decide) rfl (r_isWord0 l g hN hB.2.1 mo hmo kmo (q_l 24170600) hf0) q_cX12_143 q_dX12_isWord (by decide) rfl rfl hl.1 rfl (Nat.le_of_ble_eq_true rfl) dX12_commandHere_52 (fun y90 H locs f89 ry90 h91 hF hB => ?_)
                  rcases h91 with h92 | h93
                  · obtain ⟨rfl, qy90, t94⟩ := h92
                    subst qy90
                    refine q_ifeq (tgt := 60) cx ⟨by decide, by decide⟩ dX12_commandHere_55 (by decide) (fun c95 => ?_) (fun c95 => ?_)
                    · exact absurd c95 (by omega)
                    · refine q_iconst cx dX12_commandHere_58 ?_
                      refine q_iret cx hr hlk hB dX12_commandHere_59 ⟨by decide, by decide⟩ ?_
                      exact (Or.inr (Or.inr (Or.inr (Or.inr (Or.inl ⟨rfl, rfl⟩)))))
                  · obtain ⟨rfl, qy90⟩ := h93
                    subst qy90
                    refine q_ifeq (tgt := 60) cx ⟨by decide, by decide⟩ dX12_commandHere_55 (by decide) (fun c96 => ?_) (fun c96 => ?_)
                    · refine q_ald_n cx dX12_commandHere_60 rfl (lv_at hl 0 rfl) ?_
                      refine lv_ldc2 (v := q_l 109103333) cx.1 cx.2.1 cx.2.2.2.1 (cx.2.2.2.2 _ q_h2224) dX12_commandHere_61 ?_
                      refine q_cVi (As := [.long (q_l 109103333)]) (rest := []) cx hB (fun _ h => h) hN hmo kmo (by decide) rfl (r_isWord0 l g hN hB.2.1 mo hmo kmo (q_l 109103333) hf0) q_cX12_143 q_dX12_isWord (by decide) rfl rfl hl.1 rfl (Nat.le_of_ble_eq_true rfl) dX12_commandHere_64 (fun y98 H locs f97 ry98 h99 hF hB => ?_)
                      rcases h99 with h100 | h101
                      · obtain ⟨rfl, qy98, t102⟩ := h100
                        subst qy98
                        refine q_ifeq (tgt := 72) cx ⟨by decide, by decide⟩ dX12_commandHere_67 (by decide) (fun c103 => ?_) (fun c103 => ?_)
                        · exact absurd c103 (by omega)
                        · refine q_iconst cx dX12_commandHere_70 ?_
                          refine q_iret cx hr hlk hB dX12_commandHere_71 ⟨by decide, by decide⟩ ?_
                          exact (Or.inr (Or.inr (Or.inr (Or.inr (Or.inr (Or.inl ⟨rfl, rfl⟩))))))
                      · obtain ⟨rfl, qy98⟩ := h101
                        subst qy98
                        refine q_ifeq (tgt := 72) cx ⟨by decide, by decide⟩ dX12_commandHere_67 (by decide) (fun c104 => ?_) (fun c104 => ?_)
                        · refine q_ald_n cx dX12_commandHere_72 rfl (lv_at hl 0 rfl) ?_
                          refine lv_ldc2 (v := q_l 609752116) cx.1 cx.2.1 cx.2.2.2.1 (cx.2.2.2.2 _ q_h2225) dX12_commandHere_73 ?_
                          refine q_cVi (As := [.long (q_l 609752116)]) (rest := []) cx hB (fun _ h => h) hN hmo kmo (by decide) rfl (r_isWord0 l g hN hB.2.1 mo hmo kmo (q_l 609752116) hf0) q_cX12_143 q_dX12_isWord (by decide) rfl rfl hl.1 rfl (Nat.le_of_ble_eq_true rfl) dX12_commandHere_76 (fun y106 H locs f105 ry106 h107 hF hB => ?_)
                          rcases h107 with h108 | h109
                          · obtain ⟨rfl, qy106, t110⟩ := h108
                            subst qy106
                            refine q_ifeq (tgt := 87) cx ⟨by decide, by decide⟩ dX12_commandHere_79 (by decide) (fun c111 => ?_) (fun c111 => ?_)
                            · exact absurd c111 (by omega)
                            · refine q_bipush cx dX12_commandHere_82 rfl ?_
                              refine lv_goto (tgt := 88) cx.1 cx.2.1 dX12_commandHere_84 (by decide) ?_
                              refine q_iret cx hr hlk hB dX12_commandHere_88 ⟨by decide, by decide⟩ ?_
                              exact (Or.inr (Or.inr (Or.inr (Or.inr (Or.inr (Or.inr (Or.inl ⟨rfl, rfl⟩)))))))
                          · obtain ⟨rfl, qy106⟩ := h109
                            subst qy106
                            refine q_ifeq (tgt := 87) cx ⟨by decide, by decide⟩ dX12_commandHere_79 (by decide) (fun c112 => ?_) (fun c112 => ?_)
                            · refine q_iconst cx dX12_commandHere_87 ?_
                              refine q_iret cx hr hlk hB dX12_commandHere_88 ⟨by decide, by decide⟩ ?_
                              exact (Or.inr (Or.inr (Or.inr (Or.inr (Or.inr (Or.inr (Or.inr ⟨rfl, rfl⟩)))))))
                            · exact absurd c112 (by omega)
                        · exact absurd c104 (by omega)
                    · exact absurd c96 (by omega)
                · exact absurd c88 (by omega)
            · exact absurd c80 (by omega)
        · exact absurd c72 (by omega)
    · exact absurd c64 (by omega)
set_option maxHeartbeats 4000000 in
set_option maxRecDepth 100000 in
theorem r_readsNumbers0 (l : Launch) (g : q_G) {K : Nat → Nat} {L : List Nat} (hN : L.Nodup) {f : Nat → va_E} (hT : q_Ty g K L f) (mo : Nat) (hmo : mo ∈ L) (kmo : K mo = 12) (a0 : Int) (la0 : 0 ≤ a0) (ua0 : a0 ≤ 58) (b0 : Int) (lb0 : 0 ≤ b0) (ub0 : b0 ≤ 0) (sr : Nat) (hsr : sr ∈ L) (ksr : K sr = 151) (nm : Nat) (hnm : nm ∈ L) (knm : K nm = 156) (bu : Nat) (hbu : bu ∈ L) (kbu : K bu = 150) (c1 : Nat) (hc1 : c1 ∈ L) (kc1 : K c1 = 162) (c2 : Nat) (hc2 : c2 ∈ L) (kc2 : K c2 = 163) (c3 : Nat) (hc3 : c3 ∈ L) (kc3 : K c3 = 164) (xp : Int) (lxp : 0 ≤ xp) (uxp : xp ≤ 600) (hf0 : q_is (q_z f mo 8) 0) (hf1 : q_is (q_z f mo 4) xp) (hr0 : q_ir (q_r f mo 13) sr) (hr1 : q_ir (q_r f mo 18) nm) (hr2 : q_ir (q_r f mo 1) bu) (hr3 : q_ir (q_r f mo 30) c1) (hr4 : q_ir (q_r f mo 31) c2) (hr5 : q_ir (q_r f mo 32) c3) : q_Ct l g K L yX12_readsNumbers cX12_readsNumbers 3 none 4 90 [.ref mo, .int (q_i a0), .int (q_i b0)] f [(12, 4, 9), (12, 12, 12), (162, 0, 58)] (q_Pv (fun (f1 : Nat → va_E) => (q_is (q_z f1 mo 8) 0 ∧ (xp ≤ q_z f1 mo 4) ∧ (k_po (q_z f1 mo 6) (q_z f1 mo 4) xp) ∧ (k_cc b0 f1 c1 c2 (Int.toNat a0)) ∧ (k_bl f f1 c1 c2 a0)) ∨ (1 ≤ q_z f1 mo 8 ∧ q_z f1 mo 8 ≤ 5))) := by
  obtain rfl : b0 = 0 := by omega
  refine q_ofb (by decide +kernel) hN hT (Nat.le_of_ble_eq_true rfl) ?_
  intro p e s m below meth c ls cx hr hlk hB hl
  have hl : lv_has ls 3 [(0, .ref mo), (1, .int (q_i a0)), (2, .int (q_i 0))] := hl
  obtain ⟨H, hH⟩ : ∃ H : Heap, H = s.heap := ⟨_, rfl⟩
  obtain ⟨locs, hlocs⟩ : ∃ z : List Loc, z = [] := ⟨_, rfl⟩
  rw [← hH, ← hlocs] at hB
  rw [← hH, ← hlocs]
  have hbl : k_bl f f c1 c2 a0 := k_bl_rf _ _ _ _
  refine q_ild_n cx dX12_readsNumbers_0 rfl (lv_at hl 2 rfl) ?_
  refine q_ifne (tgt := 14) cx ⟨by decide, by decide⟩ dX12_readsNumbers_1 (by decide) (fun c71 => ?_) (fun c71 => ?_)
  · exact absurd c71 (by omega)
  · refine q_ald_n cx dX12_readsNumbers_4 rfl (lv_at hl 0 rfl) ?_
    refine q_gX12_54 cx hB hmo kmo hr3 dX12_readsNumbers_5 (fun hb72 kb72 => ?_)
    refine q_ild_n cx dX12_readsNumbers_8 rfl (lv_at hl 1 rfl) ?_
    refine q_ald_n cx dX12_readsNumbers_9 rfl (lv_at hl 0 rfl) ?_
    refine q_cVi (As := []) (rest := [.int (q_i a0), .ref c1]) cx hB (fun _ h => h) hN hmo kmo (by decide) rfl (r_any0 l g hN hB.2.1 mo hmo kmo bu hbu kbu xp (by omega) (by omega) hf0 hf1 hr2) q_cX12_482 q_dX12_any (by decide) rfl rfl hl.1 rfl (Nat.le_of_ble_eq_true rfl) dX12_readsNumbers_10 (fun y74 H locs f73 ry74 h75 hF hB => ?_)
    rcases h75 with h76 | h77
    · obtain ⟨ly74, uy74, z78, t79, t80⟩ := h76
      have z81 : q_ir (q_r f73 mo 13) sr := Eq.trans (hF.r hmo (by rw [kmo]; rfl)) hr0
      have z82 : q_ir (q_r f73 mo 18) nm := Eq.trans (hF.r hmo (by rw [kmo]; rfl)) hr1
      have z83 : q_ir (q_r f73 mo 1) bu := Eq.trans (hF.r hmo (by rw [kmo]; rfl)) hr2
      have z84 : q_ir (q_r f73 mo 30) c1 := Eq.trans (hF.r hmo (by rw [kmo]; rfl)) hr3
      have z85 : q_ir (q_r f73 mo 31) c2 := Eq.trans (hF.r hmo (by rw [kmo]; rfl)) hr4
      have z86 : q_ir (q_r f73 mo 32) c3 := Eq.trans (hF.r hmo (by rw [kmo]; rfl)) hr5
      have g87 : k_bl f f73 c1 c2 a0 := k_bl_tr hbl (fun i9 => hF.z hc1 (by rw [kc1]; rfl)) (fun i9 => hF.z hc2 (by rw [kc2]; rfl))
      obtain ⟨x88, ex88⟩ : ∃ zz, q_is (q_z f73 mo 4) zz := ⟨_, q_isr _⟩
      obtain ⟨lx88, ux88⟩ := q_isb ex88 (q_fib hB.2.1 hmo kmo (by decide) rfl)
      obtain ⟨x89, ex89⟩ : ∃ zz, q_is (q_z f73 mo 6) zz := ⟨_, q_isr _⟩
      obtain ⟨lx89, ux89⟩ := q_isb ex89 (q_fib hB.2.1 hmo kmo (by decide) rfl)
      replace t79 := q_isl9 ex88 t79
      replace t80 := k_po_si ex89 ex88 t80
      refine q_iast (lo := (-2147483648)) (hi := 2147483647) (n := 60) cx hB hc1 kc1 (by decide) rfl rfl (by omega) (by omega) (by decide) rfl ⟨by omega, by omega⟩ (by omega) (by omega) (q_inWi (lo := 0) (hi := 58) (by decide) (by omega) (by omega)) dX12_readsNumbers_13 (fun H locs f90 ef90 z91 hB => ?_)
      have z92 : q_is (q_z f90 mo 8) 0 := by rw [ef90, q_setz (Or.inl (fun q => by rw [q, kc1] at kmo; exact absurd kmo (by decide)))]; exact z78
      have z93 : q_is (q_z f90 mo 4) x88 := by rw [ef90, q_setz (Or.inl (fun q => by rw [q, kc1] at kmo; exact absurd kmo (by decide)))]; exact ex88
      have z94 : q_is (q_z f90 mo 6) x89 := by rw [ef90, q_setz (Or.inl (fun q => by rw [q, kc1] at kmo; exact absurd kmo (by decide)))]; exact ex89
      have z95 : q_ir (q_r f90 mo 13) sr := by rw [ef90, q_setr (Or.inl (fun q => by rw [q, kc1] at kmo; exact absurd kmo (by decide)))]; exact z81
      have z96 : q_ir (q_r f90 mo 18) nm := by rw [ef90, q_setr (Or.inl (fun q => by rw [q, kc1] at kmo; exact absurd kmo (by decide)))]; exact z82
      have z97 : q_ir (q_r f90 mo 1) bu := by rw [ef90, q_setr (Or.inl (fun q => by rw [q, kc1] at kmo; exact absurd kmo (by decide)))]; exact z83
      have z98 : q_ir (q_r f90 mo 30) c1 := by rw [ef90, q_setr (Or.inl (fun q => by rw [q, kc1] at kmo; exact absurd kmo (by decide)))]; exact z84
      have z99 : q_ir (q_r f90 mo 31) c2 := by rw [ef90, q_setr (Or.inl (fun q => by rw [q, kc1] at kmo; exact absurd kmo (by decide)))]; exact z85
      have z100 : q_ir (q_r f90 mo 32) c3 := by rw [ef90, q_setr (Or.inl (fun q => by rw [q, kc1] at kmo; exact absurd kmo (by decide)))]; exact z86
      have g101 : k_bl f f90 c1 c2 a0 := k_bl_s1 g87 ef90 (by omega) (fun q => q_kne (k := 163) (k2 := 162) (by decide) kc2 kc1 q)
      refine q_ild_n cx dX12_readsNumbers_14 rfl (lv_at hl 2 rfl) ?_
      refine q_iconst cx dX12_readsNumbers_15 ?_
      refine q_iclt (tgt := 34) cx ⟨by decide, by decide⟩ ⟨by decide, by decide⟩ dX12_readsNumbers_16 (by decide) (fun c102 => ?_) (fun c102 => ?_)
      · refine q_ild_n cx dX12_readsNumbers_34 rfl (lv_at hl 2 rfl) ?_
        refine q_iconst cx dX12_readsNumbers_35 ?_
        refine q_iceq (tgt := 44) cx ⟨by decide, by decide⟩ ⟨by decide, by decide⟩ dX12_readsNumbers_36 (by decide) (fun c103 => ?_) (fun c103 => ?_)
        · exact absurd c103 (by omega)
        · refine q_ild_n cx dX12_readsNumbers_39 rfl (lv_at hl 2 rfl) ?_
          refine q_iconst cx dX12_readsNumbers_40 ?_
          refine q_icne (tgt := 54) cx ⟨by decide, by decide⟩ ⟨by decide, by decide⟩ dX12_readsNumbers_41 (by decide) (fun c104 => ?_) (fun c104 => ?_)
          · refine q_ild_n cx dX12_readsNumbers_54 rfl (lv_at hl 2 rfl) ?_
            refine q_iconst cx dX12_readsNumbers_55 ?_
            refine q_iclt (tgt := 74) cx ⟨by decide, by decide⟩ ⟨by decide, by decide⟩ dX12_readsNumbers_56 (by decide) (fun c105 => ?_) (fun c105 => ?_)
            · refine q_ild_n cx dX12_readsNumbers_74 rfl (lv_at hl 2 rfl) ?_
              refine q_iconst cx dX12_readsNumbers_75 ?_
              refine q_iceq (tgt := 84) cx ⟨by decide, by decide⟩ ⟨by decide, by decide⟩ dX12_readsNumbers_76 (by decide) (fun c106 => ?_) (fun c106 => ?_)
              · exact absurd c106 (by omega)
              · refine q_ild_n cx dX12_readsNumbers_79 rfl (lv_at hl 2 rfl) ?_
                refine q_iconst cx dX12_readsNumbers_80 ?_
                refine q_icne (tgt := 94) cx ⟨by decide, by decide⟩ ⟨by decide, by decide⟩ dX12_readsNumbers_81 (by decide) (fun c107 => ?_) (fun c107 => ?_)
                · refine q_ild_n cx dX12_readsNumbers_94 rfl (lv_at hl 2 rfl) ?_
                  refine q_bipush cx dX12_readsNumbers_95 rfl ?_
                  refine q_icne (tgt := 113) cx ⟨by decide, by decide⟩ ⟨by decide, by decide⟩ dX12_readsNumbers_97 (by decide) (fun c108 => ?_) (fun c108 => ?_)
                  · refine q_ild_n cx dX12_readsNumbers_113 rfl (lv_at hl 2 rfl) ?_
                    refine q_bipush cx dX12_readsNumbers_114 rfl ?_
                    refine q_icne (tgt := 125) cx ⟨by decide, by decide⟩ ⟨by decide, by decide⟩ dX12_readsNumbers_116 (by decide) (fun c109 => ?_) (fun c109 => ?_)
                    · refine q_vret cx hr hlk hB dX12_readsNumbers_125 ?_
                      exact (Or.inl ⟨z92, (q_isl z93 (by omega)), (k_po_is z94 z93 (k_po_mono t80 (by omega))), (by have h70 : _ = _ := z91; unfold k_cc; omega), g101⟩)
                    · exact absurd c109 (by omega)
                  · exact absurd c108 (by omega)
                · exact absurd c107 (by omega)
            · exact absurd c105 (by omega)
          · exact absurd c104 (by omega)
      · exact absurd c102 (by omega)
    · obtain ⟨lz110, uz110⟩ := h77
      have z111 : q_ir (q_r f73 mo 13) sr := Eq.trans (hF.r hmo (by rw [kmo]; rfl)) hr0
      have z112 : q_ir (q_r f73 mo 18) nm := Eq.trans (hF.r hmo (by rw [kmo]; rfl)) hr1
      have z113 : q_ir (q_r f73 mo 1) bu := Eq.trans (hF.r hmo (by rw [kmo]; rfl)) hr2
      have z114 : q_ir (q_r f73 mo 30) c1 := Eq.trans (hF.r hmo (by rw [kmo]; rfl)) hr3
      have z115 : q_ir (q_r f73 mo 31) c2 := Eq.trans (hF.r hmo (by rw [kmo]; rfl)) hr4
      have z116 : q_ir (q_r f73 mo 32) c3 := Eq.trans (hF.r hmo (by rw [kmo]; rfl)) hr5
      have g117 : k_bl f f73 c1 c2 a0 := k_bl_tr hbl (fun i9 => hF.z hc1 (by rw [kc1]; rfl)) (fun i9 => hF.z hc2 (by rw [kc2]; rfl))
      obtain ⟨x118, ex118⟩ : ∃ zz, q_is (q_z f73 mo 8) zz := ⟨_, q_isr _⟩
      obtain ⟨lx118, ux118⟩ := q_isb ex118 ⟨lz110, uz110⟩
      obtain ⟨x119, ex119⟩ : ∃ zz, q_is (q_z f73 mo 4) zz := ⟨_, q_isr _⟩
      obtain ⟨lx119, ux119⟩ := q_isb ex119 (q_fib hB.2.1 hmo kmo (by decide) rfl)
      obtain ⟨x120, ex120⟩ : ∃ zz, q_is (q_z f73 mo 6) zz := ⟨_, q_isr _⟩
      obtain ⟨lx120, ux120⟩ := q_isb ex120 (q_fib hB.2.1 hmo kmo (by decide) rfl)
      refine q_iast (lo := (-2147483648)) (hi := 2147483647) (n := 60) cx hB hc1 kc1 (by decide) rfl rfl (by omega) (by omega) (by decide) rfl ⟨by omega, by omega⟩ (by omega) (by omega) (q_inWi (lo := 0) (hi := 58) (by decide) (by omega) (by omega)) dX12_readsNumbers_13 (fun H locs f121 ef121 z122 hB => ?_)
      have z123 : q_is (q_z f121 mo 8) x118 := by rw [ef121, q_setz (Or.inl (fun q => by rw [q, kc1] at kmo; exact absurd kmo (by decide)))]; exact ex118
      have z124 : q_is (q_z f121 mo 4) x119 := by rw [ef121, q_setz (Or.inl (fun q => by rw [q, kc1] at kmo; exact absurd kmo (by decide)))]; exact ex119
      have z125 : q_is (q_z f121 mo 6) x120 := by rw [ef121, q_setz (Or.inl (fun q => by rw [q, kc1] at kmo; exact absurd kmo (by decide)))]; exact ex120
      have z126 : q_ir (q_r f121 mo 13) sr := by rw [ef121, q_setr (Or.inl (fun q => by rw [q, kc1] at kmo; exact absurd kmo (by decide)))]; exact z111
      have z127 : q_ir (q_r f121 mo 18) nm := by rw [ef121, q_setr (Or.inl (fun q => by rw [q, kc1] at kmo; exact absurd kmo (by decide)))]; exact z112
      have z128 : q_ir (q_r f121 mo 1) bu := by rw [ef121, q_setr (Or.inl (fun q => by rw [q, kc1] at kmo; exact absurd kmo (by decide)))]; exact z113
      have z129 : q_ir (q_r f121 mo 30) c1 := by rw [ef121, q_setr (Or.inl (fun q => by rw [q, kc1] at kmo; exact absurd kmo (by decide)))]; exact z114
      have z130 : q_ir (q_r f121 mo 31) c2 := by rw [ef121, q_setr (Or.inl (fun q => by rw [q, kc1] at kmo; exact absurd kmo (by decide)))]; exact z115
      have z131 : q_ir (q_r f121 mo 32) c3 := by rw [ef121, q_setr (Or.inl (fun q => by rw [q, kc1] at kmo; exact absurd kmo (by decide)))]; exact z116
      have g132 : k_bl f f121 c1 c2 a0 := k_bl_s1 g117 ef121 (by omega) (fun q => q_kne (k := 163) (k2 := 162) (by decide) kc2 kc1 q)
      refine q_ild_n cx dX12_readsNumbers_14 rfl (lv_at hl 2 rfl) ?_
      refine q_iconst cx dX12_readsNumbers_15 ?_
      refine q_iclt (tgt := 34) cx ⟨by decide, by decide⟩ ⟨by decide, by decide⟩ dX12_readsNumbers_16 (by decide) (fun c133 => ?_) (fun c133 => ?_)
      · refine q_ild_n cx dX12_readsNumbers_34 rfl (lv_at hl 2 rfl) ?_
        refine q_iconst cx dX12_readsNumbers_35 ?_
        refine q_iceq (tgt := 44) cx ⟨by decide, by decide⟩ ⟨by decide, by decide⟩ dX12_readsNumbers_36 (by decide) (fun c134 => ?_) (fun c134 => ?_)
        · exact absurd c134 (by omega)
        · refine q_ild_n cx dX12_readsNumbers_39 rfl (lv_at hl 2 rfl) ?_
          refine q_iconst cx dX12_readsNumbers_40 ?_
          refine q_icne (tgt := 54) cx ⟨by decide, by decide⟩ ⟨by decide, by decide⟩ dX12_readsNumbers_41 (by decide) (fun c135 => ?_) (fun c135 => ?_)
          · refine q_ild_n cx dX12_readsNumbers_54 rfl (lv_at hl 2 rfl) ?_
            refine q_iconst cx dX12_readsNumbers_55 ?_
            refine q_iclt (tgt := 74) cx ⟨by decide, by decide⟩ ⟨by decide, by decide⟩ dX12_readsNumbers_56 (by decide) (fun c136 => ?_) (fun c136 => ?_)
            · refine q_ild_n cx dX12_readsNumbers_74 rfl (lv_at hl 2 rfl) ?_
              refine q_iconst cx dX12_readsNumbers_75 ?_
              refine q_iceq (tgt := 84) cx ⟨by decide, by decide⟩ ⟨by decide, by decide⟩ dX12_readsNumbers_76 (by decide) (fun c137 => ?_) (fun c137 => ?_)
              · exact absurd c137 (by omega)
              · refine q_ild_n cx dX12_readsNumbers_79 rfl (lv_at hl 2 rfl) ?_
                refine q_iconst cx dX12_readsNumbers_80 ?_
                refine q_icne (tgt := 94) cx ⟨by decide, by decide⟩ ⟨by decide, by decide⟩ dX12_readsNumbers_81 (by decide) (fun c138 => ?_) (fun c138 => ?_)
                · refine q_ild_n cx dX12_readsNumbers_94 rfl (lv_at hl 2 rfl) ?_
                  refine q_bipush cx dX12_readsNumbers_95 rfl ?_
                  refine q_icne (tgt := 113) cx ⟨by decide, by decide⟩ ⟨by decide, by decide⟩ dX12_readsNumbers_97 (by decide) (fun c139 => ?_) (fun c139 => ?_)
                  · refine q_ild_n cx dX12_readsNumbers_113 rfl (lv_at hl 2 rfl) ?_
                    refine q_bipush cx dX12_readsNumbers_114 rfl ?_
                    refine q_icne (tgt := 125) cx ⟨by decide, by decide⟩ ⟨by decide, by decide⟩ dX12_readsNumbers_116 (by decide) (fun c140 => ?_) (fun c140 => ?_)
                    · refine q_vret cx hr hlk hB dX12_readsNumbers_125 ?_
                      exact (Or.inr ⟨(q_isl z123 (by omega)), (q_isu z123 (by omega))⟩)
                    · exact absurd c140 (by omega)
                  · exact absurd c139 (by omega)
                · exact absurd c138 (by omega)
            · exact absurd c136 (by omega)
          · exact absurd c135 (by omega)
      · exact absurd c133 (by omega)
set_option maxHeartbeats 4000000 in
set_option maxRecDepth 100000 in
theorem r_readsNumbers1 (l : Launch) (g : q_G) {K : Nat → Nat} {L : List Nat} (hN : L.Nodup) {f : Nat → va_E} (hT : q_Ty g K L f) (mo : Nat) (hmo : mo ∈ L) (kmo : K mo = 12) (a0 : Int) (la0 : 0 ≤ a0) (ua0 : a0 ≤ 58) (b0 : Int) (lb0 : 1 ≤ b0) (ub0 : b0 ≤ 1) (sr : Nat) (hsr : sr ∈ L) (ksr : K sr = 151) (nm : Nat) (hnm : nm ∈ L) (knm : K nm = 156) (bu : Nat) (hbu : bu ∈ L) (kbu : K bu = 150) (c1 : Nat) (hc1 : c1 ∈ L) (kc1 : K c1 = 162) (c2 : Nat) (hc2 : c2 ∈ L) (kc2 : K c2 = 163) (c3 : Nat) (hc3 : c3 ∈ L) (kc3 : K c3 = 164) (xp : Int) (lxp : 0 ≤ xp) (uxp : xp ≤ 600) (hf0 : q_is (q_z f mo 8) 0) (hf1 : q_is (q_z f mo 4) xp) (hr0 : q_ir (q_r f mo 13) sr) (hr1 : q_ir (q_r f mo 18) nm) (hr2 : q_ir (q_r f mo 1) bu) (hr3 : q_ir (q_r f mo 30) c1) (hr4 : q_ir (q_r f mo 31) c2) (hr5 : q_ir (q_r f mo 32) c3) : q_Ct l g K L yX12_readsNumbers cX12_readsNumbers 3 none 4 90 [.ref mo, .int (q_i a0), .int (q_i b0)] f [(12, 4, 9), (12, 12, 12), (162, 0, 58), (163, 0, 58), (164, 0, 58)] (q_Pv (fun (f1 : Nat → va_E) => (q_is (q_z f1 mo 8) 0 ∧ (xp ≤ q_z f1 mo 4) ∧ (k_po (q_z f1 mo 6) (q_z f1 mo 4) xp) ∧ (k_cc b0 f1 c1 c2 (Int.toNat a0)) ∧ (k_bl f f1 c1 c2 a0)) ∨ (1 ≤ q_z f1 mo 8 ∧ q_z f1 mo 8 ≤ 5))) := by
  obtain rfl : b0 = 1 := by omega
  refine q_ofb (by decide +kernel) hN hT (Nat.le_of_ble_eq_true rfl) ?_
  intro p e s m below meth c ls cx hr hlk hB hl
  have hl : lv_has ls 3 [(0, .ref mo), (1, .int (q_i a0)), (2, .int (q_i 1))] := hl
  obtain ⟨H, hH⟩ : ∃ H : Heap, H = s.heap := ⟨_, rfl⟩
  obtain ⟨locs, hlocs⟩ : ∃ z : List Loc, z = [] := ⟨_, rfl⟩
  rw [← hH, ← hlocs] at hB
  rw [← hH, ← hlocs]
  have hbl : k_bl f f c1 c2 a0 := k_bl_rf _ _ _ _
  refine q_ild_n cx dX12_readsNumbers_0 rfl (lv_at hl 2 rfl) ?_
  refine q_ifne (tgt := 14) cx ⟨by decide, by decide⟩ dX12_readsNumbers_1 (by decide) (fun c244 => ?_) (fun c244 => ?_)
  · refine q_ild_n cx dX12_readsNumbers_14 rfl (lv_at hl 2 rfl) ?_
    refine q_iconst cx dX12_readsNumbers_15 ?_
    refine q_iclt (tgt := 34) cx ⟨by decide, by decide⟩ ⟨by decide, by decide⟩ dX12_readsNumbers_16 (by decide) (fun c245 => ?_) (fun c245 => ?_)
    · exact absurd c245 (by omega)
    · refine q_ild_n cx dX12_readsNumbers_19 rfl (lv_at hl 2 rfl) ?_
      refine q_iconst cx dX12_readsNumbers_20 ?_
      refine q_icgt (tgt := 34) cx ⟨by decide, by decide⟩ ⟨by decide, by decide⟩ dX12_readsNumbers_21 (by decide) (fun c246 => ?_) (fun c246 => ?_)
      · exact absurd c246 (by omega)
      · refine q_ald_n cx dX12_readsNumbers_24 rfl (lv_at hl 0 rfl) ?_
        refine q_gX12_54 cx hB hmo kmo hr3 dX12_readsNumbers_25 (fun hb247 kb247 => ?_)
        refine q_ild_n cx dX12_readsNumbers_28 rfl (lv_at hl 1 rfl) ?_
        refine q_ald_n cx dX12_readsNumbers_29 rfl (lv_at hl 0 rfl) ?_
        refine q_cVi (As := []) (rest := [.int (q_i a0), .ref c1]) cx hB (fun _ h => h) hN hmo kmo (by decide) rfl (r_told0 l g hN hB.2.1 mo hmo kmo sr hsr ksr nm hnm knm bu hbu kbu xp (by omega) (by omega) hf0 hf1 hr0 hr1 hr2) q_cX12_213 q_dX12_told (by decide) rfl rfl hl.1 rfl (Nat.le_of_ble_eq_true rfl) dX12_readsNumbers_30 (fun y249 H locs f248 ry249 h250 hF hB => ?_)
        rcases h250 with h251 | h252
        · obtain ⟨ly249, uy249, z253, t254, t255⟩ := h251
          have z256 : q_ir (q_r f248 mo 13) sr := Eq.trans (hF.r hmo (by rw [kmo]; rfl)) hr0
          have z257 : q_ir (q_r f248 mo 18) nm := Eq.trans (hF.r hmo (by rw [kmo]; rfl)) hr1
          have z258 : q_ir (q_r f248 mo 1) bu := Eq.trans (hF.r hmo (by rw [kmo]; rfl)) hr2
          have z259 : q_ir (q_r f248 mo 30) c1 := Eq.trans (hF.r hmo (by rw [kmo]; rfl)) hr3
          have z260 : q_ir (q_r f248 mo 31) c2 := Eq.trans (hF.r hmo (by rw [kmo]; rfl)) hr4
          have z261 : q_ir (q_r f248 mo 32) c3 := Eq.trans (hF.r hmo (by rw [kmo]; rfl)) hr5
          have g262 : k_bl f f248 c1 c2 a0 := k_bl_tr hbl (fun i9 => hF.z hc1 (by rw [kc1]; rfl)) (fun i9 => hF.z hc2 (by rw [kc2]; rfl))
          obtain ⟨x263, ex263⟩ : ∃ zz, q_is (q_z f248 mo 4) zz := ⟨_, q_isr _⟩
          obtain ⟨lx263, ux263⟩ := q_isb ex263 (q_fib hB.2.1 hmo kmo (by decide) rfl)
          obtain ⟨x264, ex264⟩ : ∃ zz, q_is (q_z f248 mo 6) zz := ⟨_, q_isr _⟩
          obtain ⟨lx264, ux264⟩ := q_isb ex264 (q_fib hB.2.1 hmo kmo (by decide) rfl)
          replace t254 := q_isl9 ex263 t254
          replace t255 := k_po_si ex264 ex263 t255
          refine q_iast (lo := (-2147483648)) (hi := 2147483647) (n := 60) cx hB hc1 kc1 (by decide) rfl rfl (by omega) (by omega) (by decide) rfl ⟨by omega, by omega⟩ (by omega) (by omega) (q_inWi (lo := 0) (hi := 58) (by decide) (by omega) (by omega)) dX12_readsNumbers_33 (fun H locs f265 ef265 z266 hB => ?_)
          have z267 : q_is (q_z f265 mo 8) 0 := by rw [ef265, q_setz (Or.inl (fun q => by rw [q, kc1] at kmo; exact absurd kmo (by decide)))]; exact z253
          have z268 : q_is (q_z f265 mo 4) x263 := by rw [ef265, q_setz (Or.inl (fun q => by rw [q, kc1] at kmo; exact absurd kmo (by decide)))]; exact ex263
          have z269 : q_is (q_z f265 mo 6) x264 := by rw [ef265, q_setz (Or.inl (fun q => by rw [q, kc1] at kmo; exact absurd kmo (by decide)))]; exact ex264
          have z270 : q_ir (q_r f265 mo 13) sr := by rw [ef265, q_setr (Or.inl (fun q => by rw [q, kc1] at kmo; exact absurd kmo (by decide)))]; exact z256
          have z271 : q_ir (q_r f265 mo 18) nm := by rw [ef265, q_setr (Or.inl (fun q => by rw [q, kc1] at kmo; exact absurd kmo (by decide)))]; exact z257
          have z272 : q_ir (q_r f265 mo 1) bu := by rw [ef265, q_setr (Or.inl (fun q => by rw [q, kc1] at kmo; exact absurd kmo (by decide)))]; exact z258
          have z273 : q_ir (q_r f265 mo 30) c1 := by rw [ef265, q_setr (Or.inl (fun q => by rw [q, kc1] at kmo; exact absurd kmo (by decide)))]; exact z259
          have z274 : q_ir (q_r f265 mo 31) c2 := by rw [ef265, q_setr (Or.inl (fun q => by rw [q, kc1] at kmo; exact absurd kmo (by decide)))]; exact z260
          have z275 : q_ir (q_r f265 mo 32) c3 := by rw [ef265, q_setr (Or.inl (fun q => by rw [q, kc1] at kmo; exact absurd kmo (by decide)))]; exact z261
          have g276 : k_bl f f265 c1 c2 a0 := k_bl_s1 g262 ef265 (by omega) (fun q => q_kne (k := 163) (k2 := 162) (by decide) kc2 kc1 q)
          refine q_ild_n cx dX12_readsNumbers_34 rfl (lv_at hl 2 rfl) ?_
          refine q_iconst cx dX12_readsNumbers_35 ?_
          refine q_iceq (tgt := 44) cx ⟨by decide, by decide⟩ ⟨by decide, by decide⟩ dX12_readsNumbers_36 (by decide) (fun c277 => ?_) (fun c277 => ?_)
          · refine q_ald_n cx dX12_readsNumbers_44 rfl (lv_at hl 0 rfl) ?_
            refine q_gX12_57 cx hB hmo kmo z274 dX12_readsNumbers_45 (fun hb278 kb278 => ?_)
            refine q_ild_n cx dX12_readsNumbers_48 rfl (lv_at hl 1 rfl) ?_
            refine q_ald_n cx dX12_readsNumbers_49 rfl (lv_at hl 0 rfl) ?_
            refine q_cVi (As := []) (rest := [.int (q_i a0), .ref c2]) cx hB (fun _ h => h) hN hmo kmo (by decide) rfl (r_told0 l g hN hB.2.1 mo hmo kmo sr hsr ksr nm hnm knm bu hbu kbu x263 (by omega) (by omega) z267 z268 z270 z271 z272) q_cX12_213 q_dX12_told (by decide) rfl rfl hl.1 rfl (Nat.le_of_ble_eq_true rfl) dX12_readsNumbers_50 (fun y280 H locs f279 ry280 h281 hF hB => ?_)
            rcases h281 with h282 | h283
            · obtain ⟨ly280, uy280, z284, t285, t286⟩ := h282
              have z287 : q_is (q_z f279 c1 (Int.toNat a0)) y249 := Eq.trans (hF.z hc1 (by rw [kc1]; rfl)) z266
              have z288 : q_ir (q_r f279 mo 13) sr := Eq.trans (hF.r hmo (by rw [kmo]; rfl)) z270
              have z289 : q_ir (q_r f279 mo 18) nm := Eq.trans (hF.r hmo (by rw [kmo]; rfl)) z271
              have z290 : q_ir (q_r f279 mo 1) bu := Eq.trans (hF.r hmo (by rw [kmo]; rfl)) z272
              have z291 : q_ir (q_r f279 mo 30) c1 := Eq.trans (hF.r hmo (by rw [kmo]; rfl)) z273
              have z292 : q_ir (q_r f279 mo 31) c2 := Eq.trans (hF.r hmo (by rw [kmo]; rfl)) z274
              have z293 : q_ir (q_r f279 mo 32) c3 := Eq.trans (hF.r hmo (by rw [kmo]; rfl)) z275
              have g294 : k_bl f f279 c1 c2 a0 := k_bl_tr g276 (fun i9 => hF.z hc1 (by rw [kc1]; rfl)) (fun i9 => hF.z hc2 (by rw [kc2]; rfl))
              obtain ⟨x295, ex295⟩ : ∃ zz, q_is (q_z f279 mo 4) zz := ⟨_, q_isr _⟩
              obtain ⟨lx295, ux295⟩ := q_isb ex295 (q_fib hB.2.1 hmo kmo (by decide) rfl)
              obtain ⟨x296, ex296⟩ : ∃ zz, q_is (q_z f279 mo 6) zz := ⟨_, q_isr _⟩
              obtain ⟨lx296, ux296⟩ := q_isb ex296 (q_fib hB.2.1 hmo kmo (by decide) rfl)
              replace t285 := q_isl9 ex295 t285
              replace t286 := k_po_si ex296 ex295 t286
              refine q_iast (lo := (-2147483648)) (hi := 2147483647) (n := 60) cx hB hc2 kc2 (by decide) rfl rfl (by omega) (by omega) (by decide) rfl ⟨by omega, by omega⟩ (by omega) (by omega) (q_inWi (lo := 0) (hi := 58) (by decide) (by omega) (by omega)) dX12_readsNumbers_53 (fun H locs f297 ef297 z298 hB => ?_)
              have z299 : q_is (q_z f297 c1 (Int.toNat a0)) y249 := by rw [ef297, q_setz (Or.inl (fun q => by rw [q, kc2] at kc1; exact absurd kc1 (by decide)))]; exact z287
              have z300 : q_is (q_z f297 mo 8) 0 := by rw [ef297, q_setz (Or.inl (fun q => by rw [q, kc2] at kmo; exact absurd kmo (by decide)))]; exact z284
              have z301 : q_is (q_z f297 mo 4) x295 := by rw [ef297, q_setz (Or.inl (fun q => by rw [q, kc2] at kmo; exact absurd kmo (by decide)))]; exact ex295
              have z302 : q_is (q_z f297 mo 6) x296 := by rw [ef297, q_setz (Or.inl (fun q => by rw [q, kc2] at kmo; exact absurd kmo (by decide)))]; exact ex296
              have z303 : q_ir (q_r f297 mo 13) sr := by rw [ef297, q_setr (Or.inl (fun q => by rw [q, kc2] at kmo; exact absurd kmo (by decide)))]; exact z288
              have z304 : q_ir (q_r f297 mo 18) nm := by rw [ef297, q_setr (Or.inl (fun q => by rw [q, kc2] at kmo; exact absurd kmo (by decide)))]; exact z289
              have z305 : q_ir (q_r f297 mo 1) bu := by rw [ef297, q_setr (Or.inl (fun q => by rw [q, kc2] at kmo; exact absurd kmo (by decide)))]; exact z290
              have z306 : q_ir (q_r f297 mo 30) c1 := by rw [ef297, q_setr (Or.inl (fun q => by rw [q, kc2] at kmo; exact absurd kmo (by decide)))]; exact z291
              have z307 : q_ir (q_r f297 mo 31) c2 := by rw [ef297, q_setr (Or.inl (fun q => by rw [q, kc2] at kmo; exact absurd kmo (by decide)))]; exact z292
              have z308 : q_ir (q_r f297 mo 32) c3 := by rw [ef297, q_setr (Or.inl (fun q => by rw [q, kc2] at kmo; exact absurd kmo (by decide)))]; exact z293
              have g309 : k_bl f f297 c1 c2 a0 := k_bl_s2 g294 ef297 (by omega) (fun q => q_kne (k := 162) (k2 := 163) (by decide) kc1 kc2 q)
              refine q_ild_n cx dX12_readsNumbers_54 rfl (lv_at hl 2 rfl) ?_
              refine q_iconst cx dX12_readsNumbers_55 ?_
              refine q_iclt (tgt := 74) cx ⟨by decide, by decide⟩ ⟨by decide, by decide⟩ dX12_readsNumbers_56 (by decide) (fun c310 => ?_) (fun c310 => ?_)
              · refine q_ild_n cx dX12_readsNumbers_74 rfl (lv_at hl 2 rfl) ?_
                refine q_iconst cx dX12_readsNumbers_75 ?_
                refine q_iceq (tgt := 84) cx ⟨by decide, by decide⟩ ⟨by decide, by decide⟩ dX12_readsNumbers_76 (by decide) (fun c311 => ?_) (fun c311 => ?_)
                · refine q_ald_n cx dX12_readsNumbers_84 rfl (lv_at hl 0 rfl) ?_
                  refine q_gX12_60 cx hB hmo kmo z308 dX12_readsNumbers_85 (fun hb312 kb312 => ?_)
                  refine q_ild_n cx dX12_readsNumbers_88 rfl (lv_at hl 1 rfl) ?_
                  refine q_ald_n cx dX12_readsNumbers_89 rfl (lv_at hl 0 rfl) ?_
                  refine q_cVi (As := []) (rest := [.int (q_i a0), .ref c3]) cx hB (fun _ h => h) hN hmo kmo (by decide) rfl (r_any0 l g hN hB.2.1 mo hmo kmo bu hbu kbu x295 (by omega) (by omega) z300 z301 z305) q_cX12_482 q_dX12_any (by decide) rfl rfl hl.1 rfl (Nat.le_of_ble_eq_true rfl) dX12_readsNumbers_90 (fun y314 H locs f313 ry314 h315 hF hB => ?_)
                  rcases h315 with h316 | h317
                  · obtain ⟨ly314, uy314, z318, t319, t320⟩ := h316
                    have z321 : q_is (q_z f313 c1 (Int.toNat a0)) y249 := Eq.trans (hF.z hc1 (by rw [kc1]; rfl)) z299
                    have z322 : q_is (q_z f313 c2 (Int.toNat a0)) y280 := Eq.trans (hF.z hc2 (by rw [kc2]; rfl)) z298
                    have z323 : q_ir (q_r f313 mo 13) sr := Eq.trans (hF.r hmo (by rw [kmo]; rfl)) z303
                    have z324 : q_ir (q_r f313 mo 18) nm := Eq.trans (hF.r hmo (by rw [kmo]; rfl)) z304
                    have z325 : q_ir (q_r f313 mo 1) bu := Eq.trans (hF.r hmo (by rw [kmo]; rfl)) z305
                    have z326 : q_ir (q_r f313 mo 30) c1 := Eq.trans (hF.r hmo (by rw [kmo]; rfl)) z306
                    have z327 : q_ir (q_r f313 mo 31) c2 := Eq.trans (hF.r hmo (by rw [kmo]; rfl)) z307
                    have z328 : q_ir (q_r f313 mo 32) c3 := Eq.trans (hF.r hmo (by rw [kmo]; rfl)) z308
                    have g329 : k_bl f f313 c1 c2 a0 := k_bl_tr g309 (fun i9 => hF.z hc1 (by rw [kc1]; rfl)) (fun i9 => hF.z hc2 (by rw [kc2]; rfl))
                    obtain ⟨x330, ex330⟩ : ∃ zz, q_is (q_z f313 mo 4) zz := ⟨_, q_isr _⟩
                    obtain ⟨lx330, ux330⟩ := q_isb ex330 (q_fib hB.2.1 hmo kmo (by decide) rfl)
                    obtain ⟨x331, ex331⟩ : ∃ zz, q_is (q_z f313 mo 6) zz := ⟨_, q_isr _⟩
                    obtain ⟨lx331, ux331⟩ := q_isb ex331 (q_fib hB.2.1 hmo kmo (by decide) rfl)
                    replace t319 := q_isl9 ex330 t319
                    replace t320 := k_po_si ex331 ex330 t320
                    refine q_iast (lo := (-2147483648)) (hi := 2147483647) (n := 60) cx hB hc3 kc3 (by decide) rfl rfl (by omega) (by omega) (by decide) rfl ⟨by omega, by omega⟩ (by omega) (by omega) (q_inWi (lo := 0) (hi := 58) (by decide) (by omega) (by omega)) dX12_readsNumbers_93 (fun H locs f332 ef332 z333 hB => ?_)
                    have z334 : q_is (q_z f332 c1 (Int.toNat a0)) y249 := by rw [ef332, q_setz (Or.inl (fun q => by rw [q, kc3] at kc1; exact absurd kc1 (by decide)))]; exact z321
                    have z335 : q_is (q_z f332 c2 (Int.toNat a0)) y280 := by rw [ef332, q_setz (Or.inl (fun q => by rw [q, kc3] at kc2; exact absurd kc2 (by decide)))]; exact z322
                    have z336 : q_is (q_z f332 mo 8) 0 := by rw [ef332, q_setz (Or.inl (fun q => by rw [q, kc3] at kmo; exact absurd kmo (by decide)))]; exact z318
                    have z337 : q_is (q_z f332 mo 4) x330 := by rw [ef332, q_setz (Or.inl (fun q => by rw [q, kc3] at kmo; exact absurd kmo (by decide)))]; exact ex330
                    have z338 : q_is (q_z f332 mo 6) x331 := by rw [ef332, q_setz (Or.inl (fun q => by rw [q, kc3] at kmo; exact absurd kmo (by decide)))]; exact ex331
                    have z339 : q_ir (q_r f332 mo 13) sr := by rw [ef332, q_setr (Or.inl (fun q => by rw [q, kc3] at kmo; exact absurd kmo (by decide)))]; exact z323
                    have z340 : q_ir (q_r f332 mo 18) nm := by rw [ef332, q_setr (Or.inl (fun q => by rw [q, kc3] at kmo; exact absurd kmo (by decide)))]; exact z324
                    have z341 : q_ir (q_r f332 mo 1) bu := by rw [ef332, q_setr (Or.inl (fun q => by rw [q, kc3] at kmo; exact absurd kmo (by decide)))]; exact z325
                    have z342 : q_ir (q_r f332 mo 30) c1 := by rw [ef332, q_setr (Or.inl (fun q => by rw [q, kc3] at kmo; exact absurd kmo (by decide)))]; exact z326
                    have z343 : q_ir (q_r f332 mo 31) c2 := by rw [ef332, q_setr (Or.inl (fun q => by rw [q, kc3] at kmo; exact absurd kmo (by decide)))]; exact z327
                    have z344 : q_ir (q_r f332 mo 32) c3 := by rw [ef332, q_setr (Or.inl (fun q => by rw [q, kc3] at kmo; exact absurd kmo (by decide)))]; exact z328
                    have g345 : k_bl f f332 c1 c2 a0 := k_bl_tr g329 (fun i9 => by rw [ef332, q_setz (Or.inl (fun q => by rw [q, kc3] at kc1; exact absurd kc1 (by decide)))]) (fun i9 => by rw [ef332, q_setz (Or.inl (fun q => by rw [q, kc3] at kc2; exact absurd kc2 (by decide)))])
                    refine q_ild_n cx dX12_readsNumbers_94 rfl (lv_at hl 2 rfl) ?_
                    refine q_bipush cx dX12_readsNumbers_95 rfl ?_
                    refine q_icne (tgt := 113) cx ⟨by decide, by decide⟩ ⟨by decide, by decide⟩ dX12_readsNumbers_97 (by decide) (fun c346 => ?_) (fun c346 => ?_)
                    · refine q_ild_n cx dX12_readsNumbers_113 rfl (lv_at hl 2 rfl) ?_
                      refine q_bipush cx dX12_readsNumbers_114 rfl ?_
                      refine q_icne (tgt := 125) cx ⟨by decide, by decide⟩ ⟨by decide, by decide⟩ dX12_readsNumbers_116 (by decide) (fun c347 => ?_) (fun c347 => ?_)
                      · refine q_vret cx hr hlk hB dX12_readsNumbers_125 ?_
                        exact (Or.inl ⟨z336, (q_isl z337 (by omega)), (k_po_is z338 z337 (k_po_mono t320 (by omega))), (by have h70 : _ = _ := z334; have h71 : _ = _ := z335; unfold k_cc; omega), g345⟩)
                      · exact absurd c347 (by omega)
                    · exact absurd c346 (by omega)
                  · obtain ⟨lz348, uz348⟩ := h317
                    have z349 : q_is (q_z f313 c1 (Int.toNat a0)) y249 := Eq.trans (hF.z hc1 (by rw [kc1]; rfl)) z299
                    have z350 : q_is (q_z f313 c2 (Int.toNat a0)) y280 := Eq.trans (hF.z hc2 (by rw [kc2]; rfl)) z298
                    have z351 : q_ir (q_r f313 mo 13) sr := Eq.trans (hF.r hmo (by rw [kmo]; rfl)) z303
                    have z352 : q_ir (q_r f313 mo 18) nm := Eq.trans (hF.r hmo (by rw [kmo]; rfl)) z304
                    have z353 : q_ir (q_r f313 mo 1) bu := Eq.trans (hF.r hmo (by rw [kmo]; rfl)) z305
                    have z354 : q_ir (q_r f313 mo 30) c1 := Eq.trans (hF.r hmo (by rw [kmo]; rfl)) z306
                    have z355 : q_ir (q_r f313 mo 31) c2 := Eq.trans (hF.r hmo (by rw [kmo]; rfl)) z307
                    have z356 : q_ir (q_r f313 mo 32) c3 := Eq.trans (hF.r hmo (by rw [kmo]; rfl)) z308
                    have g357 : k_bl f f313 c1 c2 a0 := k_bl_tr g309 (fun i9 => hF.z hc1 (by rw [kc1]; rfl)) (fun i9 => hF.z hc2 (by rw [kc2]; rfl))
                    obtain ⟨x358, ex358⟩ : ∃ zz, q_is (q_z f313 mo 8) zz := ⟨_, q_isr _⟩
                    obtain ⟨lx358, ux358⟩ := q_isb ex358 ⟨lz348, uz348⟩
                    obtain ⟨x359, ex359⟩ : ∃ zz, q_is (q_z f313 mo 4) zz := ⟨_, q_isr _⟩
                    obtain ⟨lx359, ux359⟩ := q_isb ex359 (q_fib hB.2.1 hmo kmo (by decide) rfl)
                    obtain ⟨x360, ex360⟩ : ∃ zz, q_is (q_z f313 mo 6) zz := ⟨_, q_isr _⟩
                    obtain ⟨lx360, ux360⟩ := q_isb ex360 (q_fib hB.2.1 hmo kmo (by decide) rfl)
                    refine q_iast (lo := (-2147483648)) (hi := 2147483647) (n := 60) cx hB hc3 kc3 (by decide) rfl rfl (by omega) (by omega) (by decide) rfl ⟨by omega, by omega⟩ (by omega) (by omega) (q_inWi (lo := 0) (hi := 58) (by decide) (by omega) (by omega)) dX12_readsNumbers_93 (fun H locs f361 ef361 z362 hB => ?_)
                    have z363 : q_is (q_z f361 c1 (Int.toNat a0)) y249 := by rw [ef361, q_setz (Or.inl (fun q => by rw [q, kc3] at kc1; exact absurd kc1 (by decide)))]; exact z349
                    have z364 : q_is (q_z f361 c2 (Int.toNat a0)) y280 := by rw [ef361, q_setz (Or.inl (fun q => by rw [q, kc3] at kc2; exact absurd kc2 (by decide)))]; exact z350
                    have z365 : q_is (q_z f361 mo 8) x358 := by rw [ef361, q_setz (Or.inl (fun q => by rw [q, kc3] at kmo; exact absurd kmo (by decide)))]; exact ex358
                    have z366 : q_is (q_z f361 mo 4) x359 := by rw [ef361, q_setz (Or.inl (fun q => by rw [q, kc3] at kmo; exact absurd kmo (by decide)))]; exact ex359
                    have z367 : q_is (q_z f361 mo 6) x360 := by rw [ef361, q_setz (Or.inl (fun q => by rw [q, kc3] at kmo; exact absurd kmo (by decide)))]; exact ex360
                    have z368 : q_ir (q_r f361 mo 13) sr := by rw [ef361, q_setr (Or.inl (fun q => by rw [q, kc3] at kmo; exact absurd kmo (by decide)))]; exact z351
                    have z369 : q_ir (q_r f361 mo 18) nm := by rw [ef361, q_setr (Or.inl (fun q => by rw [q, kc3] at kmo; exact absurd kmo (by decide)))]; exact z352
                    have z370 : q_ir (q_r f361 mo 1) bu := by rw [ef361, q_setr (Or.inl (fun q => by rw [q, kc3] at kmo; exact absurd kmo (by decide)))]; exact z353
                    have z371 : q_ir (q_r f361 mo 30) c1 := by rw [ef361, q_setr (Or.inl (fun q => by rw [q, kc3] at kmo; exact absurd kmo (by decide)))]; exact z354
                    have z372 : q_ir (q_r f361 mo 31) c2 := by rw [ef361, q_setr (Or.inl (fun q => by rw [q, kc3] at kmo; exact absurd kmo (by decide)))]; exact z355
                    have z373 : q_ir (q_r f361 mo 32) c3 := by rw [ef361, q_setr (Or.inl (fun q => by rw [q, kc3] at kmo; exact absurd kmo (by decide)))]; exact z356
                    have g374 : k_bl f f361 c1 c2 a0 := k_bl_tr g357 (fun i9 => by rw [ef361, q_setz (Or.inl (fun q => by rw [q, kc3] at kc1; exact absurd kc1 (by decide)))]) (fun i9 => by rw [ef361, q_setz (Or.inl (fun q => by rw [q, kc3] at kc2; exact absurd kc2 (by decide)))])
                    refine q_ild_n cx dX12_readsNumbers_94 rfl (lv_at hl 2 rfl) ?_
                    refine q_bipush cx dX12_readsNumbers_95 rfl ?_
                    refine q_icne (tgt := 113) cx ⟨by decide, by decide⟩ ⟨by decide, by decide⟩ dX12_readsNumbers_97 (by decide) (fun c375 => ?_) (fun c375 => ?_)
                    · refine q_ild_n cx dX12_readsNumbers_113 rfl (lv_at hl 2 rfl) ?_
                      refine q_bipush cx dX12_readsNumbers_114 rfl ?_
                      refine q_icne (tgt := 125) cx ⟨by decide, by decide⟩ ⟨by decide, by decide⟩ dX12_readsNumbers_116 (by decide) (fun c376 => ?_) (fun c376 => ?_)
                      · refine q_vret cx hr hlk hB dX12_readsNumbers_125 ?_
                        exact (Or.inr ⟨(q_isl z365 (by omega)), (q_isu z365 (by omega))⟩)
                      · exact absurd c376 (by omega)
                    · exact absurd c375 (by omega)
                · exact absurd c311 (by omega)
              · exact absurd c310 (by omega)
            · obtain ⟨ly280, uy280, lz377, uz377⟩ := h283
              have z378 : q_is (q_z f279 c1 (Int.toNat a0)) y249 := Eq.trans (hF.z hc1 (by rw [kc1]; rfl)) z266
              have z379 : q_ir (q_r f279 mo 13) sr := Eq.trans (hF.r hmo (by rw [kmo]; rfl)) z270
              have z380 : q_ir (q_r f279 mo 18) nm := Eq.trans (hF.r hmo (by rw [kmo]; rfl)) z271
              have z381 : q_ir (q_r f279 mo 1) bu := Eq.trans (hF.r hmo (by rw [kmo]; rfl)) z272
              have z382 : q_ir (q_r f279 mo 30) c1 := Eq.trans (hF.r hmo (by rw [kmo]; rfl)) z273
              have z383 : q_ir (q_r f279 mo 31) c2 := Eq.trans (hF.r hmo (by rw [kmo]; rfl)) z274
              have z384 : q_ir (q_r f279 mo 32) c3 := Eq.trans (hF.r hmo (by rw [kmo]; rfl)) z275
              have g385 : k_bl f f279 c1 c2 a0 := k_bl_tr g276 (fun i9 => hF.z hc1 (by rw [kc1]; rfl)) (fun i9 => hF.z hc2 (by rw [kc2]; rfl))
              obtain ⟨x386, ex386⟩ : ∃ zz, q_is (q_z f279 mo 8) zz := ⟨_, q_isr _⟩
              obtain ⟨lx386, ux386⟩ := q_isb ex386 ⟨lz377, uz377⟩
              obtain ⟨x387, ex387⟩ : ∃ zz, q_is (q_z f279 mo 4) zz := ⟨_, q_isr _⟩
              obtain ⟨lx387, ux387⟩ := q_isb ex387 (q_fib hB.2.1 hmo kmo (by decide) rfl)
              obtain ⟨x388, ex388⟩ : ∃ zz, q_is (q_z f279 mo 6) zz := ⟨_, q_isr _⟩
              obtain ⟨lx388, ux388⟩ := q_isb ex388 (q_fib hB.2.1 hmo kmo (by decide) rfl)
              refine q_iast (lo := (-2147483648)) (hi := 2147483647) (n := 60) cx hB hc2 kc2 (by decide) rfl rfl (by omega) (by omega) (by decide) rfl ⟨by omega, by omega⟩ (by omega) (by omega) (q_inWi (lo := 0) (hi := 58) (by decide) (by omega) (by omega)) dX12_readsNumbers_53 (fun H locs f389 ef389 z390 hB => ?_)
              have z391 : q_is (q_z f389 c1 (Int.toNat a0)) y249 := by rw [ef389, q_setz (Or.inl (fun q => by rw [q, kc2] at kc1; exact absurd kc1 (by decide)))]; exact z378
              have z392 : q_is (q_z f389 mo 8) x386 := by rw [ef389, q_setz (Or.inl (fun q => by rw [q, kc2] at kmo; exact absurd kmo (by decide)))]; exact ex386
              have z393 : q_is (q_z f389 mo 4) x387 := by rw [ef389, q_setz (Or.inl (fun q => by rw [q, kc2] at kmo; exact absurd kmo (by decide)))]; exact ex387
              have z394 : q_is (q_z f389 mo 6) x388 := by rw [ef389, q_setz (Or.inl (fun q => by rw [q, kc2] at kmo; exact absurd kmo (by decide)))]; exact ex388
              have z395 : q_ir (q_r f389 mo 13) sr := by rw [ef389, q_setr (Or.inl (fun q => by rw [q, kc2] at kmo; exact absurd kmo (by decide)))]; exact z379
              have z396 : q_ir (q_r f389 mo 18) nm := by rw [ef389, q_setr (Or.inl (fun q => by rw [q, kc2] at kmo; exact absurd kmo (by decide)))]; exact z380
              have z397 : q_ir (q_r f389 mo 1) bu := by rw [ef389, q_setr (Or.inl (fun q => by rw [q, kc2] at kmo; exact absurd kmo (by decide)))]; exact z381
              have z398 : q_ir (q_r f389 mo 30) c1 := by rw [ef389, q_setr (Or.inl (fun q => by rw [q, kc2] at kmo; exact absurd kmo (by decide)))]; exact z382
              have z399 : q_ir (q_r f389 mo 31) c2 := by rw [ef389, q_setr (Or.inl (fun q => by rw [q, kc2] at kmo; exact absurd kmo (by decide)))]; exact z383
              have z400 : q_ir (q_r f389 mo 32) c3 := by rw [ef389, q_setr (Or.inl (fun q => by rw [q, kc2] at kmo; exact absurd kmo (by decide)))]; exact z384
              have g401 : k_bl f f389 c1 c2 a0 := k_bl_s2 g385 ef389 (by omega) (fun q => q_kne (k := 162) (k2 := 163) (by decide) kc1 kc2 q)
              refine q_ild_n cx dX12_readsNumbers_54 rfl (lv_at hl 2 rfl) ?_
              refine q_iconst cx dX12_readsNumbers_55 ?_
              refine q_iclt (tgt := 74) cx ⟨by decide, by decide⟩ ⟨by decide, by decide⟩ dX12_readsNumbers_56 (by decide) (fun c402 => ?_) (fun c402 => ?_)
              · refine q_ild_n cx dX12_readsNumbers_74 rfl (lv_at hl 2 rfl) ?_
                refine q_iconst cx dX12_readsNumbers_75 ?_
                refine q_iceq (tgt := 84) cx ⟨by decide, by decide⟩ ⟨by decide, by decide⟩ dX12_readsNumbers_76 (by decide) (fun c403 => ?_) (fun c403 => ?_)
                · refine q_ald_n cx dX12_readsNumbers_84 rfl (lv_at hl 0 rfl) ?_
                  refine q_gX12_60 cx hB hmo kmo z400 dX12_readsNumbers_85 (fun hb404 kb404 => ?_)
                  refine q_ild_n cx dX12_readsNumbers_88 rfl (lv_at hl 1 rfl) ?_
                  refine q_ald_n cx dX12_readsNumbers_89 rfl (lv_at hl 0 rfl) ?_
                  refine q_cVi (As := []) (rest := [.int (q_i a0), .ref c3]) cx hB (fun _ h => h) hN hmo kmo (by decide) rfl (r_any1 l g hN hB.2.1 mo hmo kmo x386 (by omega) (by omega) z392) q_cX12_482 q_dX12_any (by decide) rfl rfl hl.1 rfl (Nat.le_of_ble_eq_true rfl) dX12_readsNumbers_90 (fun y406 H locs f405 ry406 h407 hF hB => ?_)
                  obtain rfl := h407
                  refine q_iast (lo := (-2147483648)) (hi := 2147483647) (n := 60) cx hB hc3 kc3 (by decide) rfl rfl (by omega) (by omega) (by decide) rfl ⟨by omega, by omega⟩ (by omega) (by omega) (q_inWi (lo := 0) (hi := 58) (by decide) (by omega) (by omega)) dX12_readsNumbers_93 (fun H locs f408 ef408 z409 hB => ?_)
                  have z410 : q_is (q_z f408 c1 (Int.toNat a0)) y249 := by rw [ef408, q_setz (Or.inl (fun q => by rw [q, kc3] at kc1; exact absurd kc1 (by decide)))]; exact z391
                  have z411 : q_is (q_z f408 mo 8) x386 := by rw [ef408, q_setz (Or.inl (fun q => by rw [q, kc3] at kmo; exact absurd kmo (by decide)))]; exact z392
                  have z412 : q_is (q_z f408 mo 4) x387 := by rw [ef408, q_setz (Or.inl (fun q => by rw [q, kc3] at kmo; exact absurd kmo (by decide)))]; exact z393
                  have z413 : q_is (q_z f408 mo 6) x388 := by rw [ef408, q_setz (Or.inl (fun q => by rw [q, kc3] at kmo; exact absurd kmo (by decide)))]; exact z394
                  have z414 : q_is (q_z f408 c2 (Int.toNat a0)) y280 := by rw [ef408, q_setz (Or.inl (fun q => by rw [q, kc3] at kc2; exact absurd kc2 (by decide)))]; exact z390
                  have z415 : q_ir (q_r f408 mo 13) sr := by rw [ef408, q_setr (Or.inl (fun q => by rw [q, kc3] at kmo; exact absurd kmo (by decide)))]; exact z395
                  have z416 : q_ir (q_r f408 mo 18) nm := by rw [ef408, q_setr (Or.inl (fun q => by rw [q, kc3] at kmo; exact absurd kmo (by decide)))]; exact z396
                  have z417 : q_ir (q_r f408 mo 1) bu := by rw [ef408, q_setr (Or.inl (fun q => by rw [q, kc3] at kmo; exact absurd kmo (by decide)))]; exact z397
                  have z418 : q_ir (q_r f408 mo 30) c1 := by rw [ef408, q_setr (Or.inl (fun q => by rw [q, kc3] at kmo; exact absurd kmo (by decide)))]; exact z398
                  have z419 : q_ir (q_r f408 mo 31) c2 := by rw [ef408, q_setr (Or.inl (fun q => by rw [q, kc3] at kmo; exact absurd kmo (by decide)))]; exact z399
                  have z420 : q_ir (q_r f408 mo 32) c3 := by rw [ef408, q_setr (Or.inl (fun q => by rw [q, kc3] at kmo; exact absurd kmo (by decide)))]; exact z400
                  have g421 : k_bl f f408 c1 c2 a0 := k_bl_tr g401 (fun i9 => by rw [ef408, q_setz (Or.inl (fun q => by rw [q, kc3] at kc1; exact absurd kc1 (by decide)))]) (fun i9 => by rw [ef408, q_setz (Or.inl (fun q => by rw [q, kc3] at kc2; exact absurd kc2 (by decide)))])
                  refine q_ild_n cx dX12_readsNumbers_94 rfl (lv_at hl 2 rfl) ?_
                  refine q_bipush cx dX12_readsNumbers_95 rfl ?_
                  refine q_icne (tgt := 113) cx ⟨by decide, by decide⟩ ⟨by decide, by decide⟩ dX12_readsNumbers_97 (by decide) (fun c422 => ?_) (fun c422 => ?_)
                  · refine q_ild_n cx dX12_readsNumbers_113 rfl (lv_at hl 2 rfl) ?_
                    refine q_bipush cx dX12_readsNumbers_114 rfl ?_
                    refine q_icne (tgt := 125) cx ⟨by decide, by decide⟩ ⟨by decide, by decide⟩ dX12_readsNumbers_116 (by decide) (fun c423 => ?_) (fun c423 => ?_)
                    · refine q_vret cx hr hlk hB dX12_readsNumbers_125 ?_
                      exact (Or.inr ⟨(q_isl z411 (by omega)), (q_isu z411 (by omega))⟩)
                    · exact absurd c423 (by omega)
                  · exact absurd c422 (by omega)
                · exact absurd c403 (by omega)
              · exact absurd c402 (by omega)
          · exact absurd c277 (by omega)
        · obtain ⟨ly249, uy249, lz424, uz424⟩ := h252
          have z425 : q_ir (q_r f248 mo 13) sr := Eq.trans (hF.r hmo (by rw [kmo]; rfl)) hr0
          have z426 : q_ir (q_r f248 mo 18) nm := Eq.trans (hF.r hmo (by rw [kmo]; rfl)) hr1
          have z427 : q_ir (q_r f248 mo 1) bu := Eq.trans (hF.r hmo (by rw [kmo]; rfl)) hr2
          have z428 : q_ir (q_r f248 mo 30) c1 := Eq.trans (hF.r hmo (by rw [kmo]; rfl)) hr3
          have z429 : q_ir (q_r f248 mo 31) c2 := Eq.trans (hF.r hmo (by rw [kmo]; rfl)) hr4
          have z430 : q_ir (q_r f248 mo 32) c3 := Eq.trans (hF.r hmo (by rw [kmo]; rfl)) hr5
          have g431 : k_bl f f248 c1 c2 a0 := k_bl_tr hbl (fun i9 => hF.z hc1 (by rw [kc1]; rfl)) (fun i9 => hF.z hc2 (by rw [kc2]; rfl))
          obtain ⟨x432, ex432⟩ : ∃ zz, q_is (q_z f248 mo 8) zz := ⟨_, q_isr _⟩
          obtain ⟨lx432, ux432⟩ := q_isb ex432 ⟨lz424, uz424⟩
          obtain ⟨x433, ex433⟩ : ∃ zz, q_is (q_z f248 mo 4) zz := ⟨_, q_isr _⟩
          obtain ⟨lx433, ux433⟩ := q_isb ex433 (q_fib hB.2.1 hmo kmo (by decide) rfl)
          obtain ⟨x434, ex434⟩ : ∃ zz, q_is (q_z f248 mo 6) zz := ⟨_, q_isr _⟩
          obtain ⟨lx434, ux434⟩ := q_isb ex434 (q_fib hB.2.1 hmo kmo (by decide) rfl)
          refine q_iast (lo := (-2147483648)) (hi := 2147483647) (n := 60) cx hB hc1 kc1 (by decide) rfl rfl (by omega) (by omega) (by decide) rfl ⟨by omega, by omega⟩ (by omega) (by omega) (q_inWi (lo := 0) (hi := 58) (by decide) (by omega) (by omega)) dX12_readsNumbers_33 (fun H locs f435 ef435 z436 hB => ?_)
          have z437 : q_is (q_z f435 mo 8) x432 := by rw [ef435, q_setz (Or.inl (fun q => by rw [q, kc1] at kmo; exact absurd kmo (by decide)))]; exact ex432
          have z438 : q_is (q_z f435 mo 4) x433 := by rw [ef435, q_setz (Or.inl (fun q => by rw [q, kc1] at kmo; exact absurd kmo (by decide)))]; exact ex433
          have z439 : q_is (q_z f435 mo 6) x434 := by rw [ef435, q_setz (Or.inl (fun q => by rw [q, kc1] at kmo; exact absurd kmo (by decide)))]; exact ex434
          have z440 : q_ir (q_r f435 mo 13) sr := by rw [ef435, q_setr (Or.inl (fun q => by rw [q, kc1] at kmo; exact absurd kmo (by decide)))]; exact z425
          have z441 : q_ir (q_r f435 mo 18) nm := by rw [ef435, q_setr (Or.inl (fun q => by rw [q, kc1] at kmo; exact absurd kmo (by decide)))]; exact z426
          have z442 : q_ir (q_r f435 mo 1) bu := by rw [ef435, q_setr (Or.inl (fun q => by rw [q, kc1] at kmo; exact absurd kmo (by decide)))]; exact z427
          have z443 : q_ir (q_r f435 mo 30) c1 := by rw [ef435, q_setr (Or.inl (fun q => by rw [q, kc1] at kmo; exact absurd kmo (by decide)))]; exact z428
          have z444 : q_ir (q_r f435 mo 31) c2 := by rw [ef435, q_setr (Or.inl (fun q => by rw [q, kc1] at kmo; exact absurd kmo (by decide)))]; exact z429
          have z445 : q_ir (q_r f435 mo 32) c3 := by rw [ef435, q_setr (Or.inl (fun q => by rw [q, kc1] at kmo; exact absurd kmo (by decide)))]; exact z430
          have g446 : k_bl f f435 c1 c2 a0 := k_bl_s1 g431 ef435 (by omega) (fun q => q_kne (k := 163) (k2 := 162) (by decide) kc2 kc1 q)
          refine q_ild_n cx dX12_readsNumbers_34 rfl (lv_at hl 2 rfl) ?_
          refine q_iconst cx dX12_readsNumbers_35 ?_
          refine q_iceq (tgt := 44) cx ⟨by decide, by decide⟩ ⟨by decide, by decide⟩ dX12_readsNumbers_36 (by decide) (fun c447 => ?_) (fun c447 => ?_)
          · refine q_ald_n cx dX12_readsNumbers_44 rfl (lv_at hl 0 rfl) ?_
            refine q_gX12_57 cx hB hmo kmo z444 dX12_readsNumbers_45 (fun hb448 kb448 => ?_)
            refine q_ild_n cx dX12_readsNumbers_48 rfl (lv_at hl 1 rfl) ?_
            refine q_ald_n cx dX12_readsNumbers_49 rfl (lv_at hl 0 rfl) ?_
            refine q_cVi (As := []) (rest := [.int (q_i a0), .ref c2]) cx hB (fun _ h => h) hN hmo kmo (by decide) rfl (r_told1 l g hN hB.2.1 mo hmo kmo x432 (by omega) (by omega) z437) q_cX12_213 q_dX12_told (by decide) rfl rfl hl.1 rfl (Nat.le_of_ble_eq_true rfl) dX12_readsNumbers_50 (fun y450 H locs f449 ry450 h451 hF hB => ?_)
            obtain ⟨rfl, qy450⟩ := h451
            subst qy450
            refine q_iast (lo := (-2147483648)) (hi := 2147483647) (n := 60) cx hB hc2 kc2 (by decide) rfl rfl (by omega) (by omega) (by decide) rfl ⟨by decide, by decide⟩ (by decide) (by decide) (q_inWi (lo := 0) (hi := 58) (by decide) (by omega) (by omega)) dX12_readsNumbers_53 (fun H locs f452 ef452 z453 hB => ?_)
            have z454 : q_is (q_z f452 mo 8) x432 := by rw [ef452, q_setz (Or.inl (fun q => by rw [q, kc2] at kmo; exact absurd kmo (by decide)))]; exact z437
            have z455 : q_is (q_z f452 mo 4) x433 := by rw [ef452, q_setz (Or.inl (fun q => by rw [q, kc2] at kmo; exact absurd kmo (by decide)))]; exact z438
            have z456 : q_is (q_z f452 mo 6) x434 := by rw [ef452, q_setz (Or.inl (fun q => by rw [q, kc2] at kmo; exact absurd kmo (by decide)))]; exact z439
            have z457 : q_is (q_z f452 c1 (Int.toNat a0)) y249 := by rw [ef452, q_setz (Or.inl (fun q => by rw [q, kc2] at kc1; exact absurd kc1 (by decide)))]; exact z436
            have z458 : q_ir (q_r f452 mo 13) sr := by rw [ef452, q_setr (Or.inl (fun q => by rw [q, kc2] at kmo; exact absurd kmo (by decide)))]; exact z440
            have z459 : q_ir (q_r f452 mo 18) nm := by rw [ef452, q_setr (Or.inl (fun q => by rw [q, kc2] at kmo; exact absurd kmo (by decide)))]; exact z441
            have z460 : q_ir (q_r f452 mo 1) bu := by rw [ef452, q_setr (Or.inl (fun q => by rw [q, kc2] at kmo; exact absurd kmo (by decide)))]; exact z442
            have z461 : q_ir (q_r f452 mo 30) c1 := by rw [ef452, q_setr (Or.inl (fun q => by rw [q, kc2] at kmo; exact absurd kmo (by decide)))]; exact z443
            have z462 : q_ir (q_r f452 mo 31) c2 := by rw [ef452, q_setr (Or.inl (fun q => by rw [q, kc2] at kmo; exact absurd kmo (by decide)))]; exact z444
            have z463 : q_ir (q_r f452 mo 32) c3 := by rw [ef452, q_setr (Or.inl (fun q => by rw [q, kc2] at kmo; exact absurd kmo (by decide)))]; exact z445
            have g464 : k_bl f f452 c1 c2 a0 := k_bl_s2 g446 ef452 (by omega) (fun q => q_kne (k := 162) (k2 := 163) (by decide) kc1 kc2 q)
            refine q_ild_n cx dX12_readsNumbers_54 rfl (lv_at hl 2 rfl) ?_
            refine q_iconst cx dX12_readsNumbers_55 ?_
            refine q_iclt (tgt := 74) cx ⟨by decide, by decide⟩ ⟨by decide, by decide⟩ dX12_readsNumbers_56 (by decide) (fun c465 => ?_) (fun c465 => ?_)
            · refine q_ild_n cx dX12_readsNumbers_74 rfl (lv_at hl 2 rfl) ?_
              refine q_iconst cx dX12_readsNumbers_75 ?_
              refine q_iceq (tgt := 84) cx ⟨by decide, by decide⟩ ⟨by decide, by decide⟩ dX12_readsNumbers_76 (by decide) (fun c466 => ?_) (fun c466 => ?_)
              · refine q_ald_n cx dX12_readsNumbers_84 rfl (lv_at hl 0 rfl) ?_
                refine q_gX12_60 cx hB hmo kmo z463 dX12_readsNumbers_85 (fun hb467 kb467 => ?_)
                refine q_ild_n cx dX12_readsNumbers_88 rfl (lv_at hl 1 rfl) ?_
                refine q_ald_n cx dX12_readsNumbers_89 rfl (lv_at hl 0 rfl) ?_
                refine q_cVi (As := []) (rest := [.int (q_i a0), .ref c3]) cx hB (fun _ h => h) hN hmo kmo (by decide) rfl (r_any1 l g hN hB.2.1 mo hmo kmo x432 (by omega) (by omega) z454) q_cX12_482 q_dX12_any (by decide) rfl rfl hl.1 rfl (Nat.le_of_ble_eq_true rfl) dX12_readsNumbers_90 (fun y469 H locs f468 ry469 h470 hF hB => ?_)
                obtain rfl := h470
                refine q_iast (lo := (-2147483648)) (hi := 2147483647) (n := 60) cx hB hc3 kc3 (by decide) rfl rfl (by omega) (by omega) (by decide) rfl ⟨by omega, by omega⟩ (by omega) (by omega) (q_inWi (lo := 0) (hi := 58) (by decide) (by omega) (by omega)) dX12_readsNumbers_93 (fun H locs f471 ef471 z472 hB => ?_)
                have z473 : q_is (q_z f471 mo 8) x432 := by rw [ef471, q_setz (Or.inl (fun q => by rw [q, kc3] at kmo; exact absurd kmo (by decide)))]; exact z454
                have z474 : q_is (q_z f471 mo 4) x433 := by rw [ef471, q_setz (Or.inl (fun q => by rw [q, kc3] at kmo; exact absurd kmo (by decide)))]; exact z455
                have z475 : q_is (q_z f471 mo 6) x434 := by rw [ef471, q_setz (Or.inl (fun q => by rw [q, kc3] at kmo; exact absurd kmo (by decide)))]; exact z456
                have z476 : q_is (q_z f471 c1 (Int.toNat a0)) y249 := by rw [ef471, q_setz (Or.inl (fun q => by rw [q, kc3] at kc1; exact absurd kc1 (by decide)))]; exact z457
                have z477 : q_is (q_z f471 c2 (Int.toNat a0)) (-1) := by rw [ef471, q_setz (Or.inl (fun q => by rw [q, kc3] at kc2; exact absurd kc2 (by decide)))]; exact z453
                have z478 : q_ir (q_r f471 mo 13) sr := by rw [ef471, q_setr (Or.inl (fun q => by rw [q, kc3] at kmo; exact absurd kmo (by decide)))]; exact z458
                have z479 : q_ir (q_r f471 mo 18) nm := by rw [ef471, q_setr (Or.inl (fun q => by rw [q, kc3] at kmo; exact absurd kmo (by decide)))]; exact z459
                have z480 : q_ir (q_r f471 mo 1) bu := by rw [ef471, q_setr (Or.inl (fun q => by rw [q, kc3] at kmo; exact absurd kmo (by decide)))]; exact z460
                have z481 : q_ir (q_r f471 mo 30) c1 := by rw [ef471, q_setr (Or.inl (fun q => by rw [q, kc3] at kmo; exact absurd kmo (by decide)))]; exact z461
                have z482 : q_ir (q_r f471 mo 31) c2 := by rw [ef471, q_setr (Or.inl (fun q => by rw [q, kc3] at kmo; exact absurd kmo (by decide)))]; exact z462
                have z483 : q_ir (q_r f471 mo 32) c3 := by rw [ef471, q_setr (Or.inl (fun q => by rw [q, kc3] at kmo; exact absurd kmo (by decide)))]; exact z463
                have g484 : k_bl f f471 c1 c2 a0 := k_bl_tr g464 (fun i9 => by rw [ef471, q_setz (Or.inl (fun q => by rw [q, kc3] at kc1; exact absurd kc1 (by decide)))]) (fun i9 => by rw [ef471, q_setz (Or.inl (fun q => by rw [q, kc3] at kc2; exact absurd kc2 (by decide)))])
                refine q_ild_n cx dX12_readsNumbers_94 rfl (lv_at hl 2 rfl) ?_
                refine q_bipush cx dX12_readsNumbers_95 rfl ?_
                refine q_icne (tgt := 113) cx ⟨by decide, by decide⟩ ⟨by decide, by decide⟩ dX12_readsNumbers_97 (by decide) (fun c485 => ?_) (fun c485 => ?_)
                · refine q_ild_n cx dX12_readsNumbers_113 rfl (lv_at hl 2 rfl) ?_
                  refine q_bipush cx dX12_readsNumbers_114 rfl ?_
                  refine q_icne (tgt := 125) cx ⟨by decide, by decide⟩ ⟨by decide, by decide⟩ dX12_readsNumbers_116 (by decide) (fun c486 => ?_) (fun c486 => ?_)
                  · refine q_vret cx hr hlk hB dX12_readsNumbers_125 ?_
                    exact (Or.inr ⟨(q_isl z473 (by omega)), (q_isu z473 (by omega))⟩)
                  · exact absurd c486 (by omega)
                · exact absurd c485 (by omega)
              · exact absurd c466 (by omega)
            · exact absurd c465 (by omega)
          · exact absurd c447 (by omega)
  · exact absurd c244 (by omega)
