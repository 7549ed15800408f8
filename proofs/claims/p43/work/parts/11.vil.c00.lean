set_option maxHeartbeats 4000000 in
set_option maxRecDepth 100000 in
theorem f_nodeAt0 (l : Launch) (g : q_G) {K : Nat → Nat} {L : List Nat} (hN : L.Nodup) {f : Nat → va_E} (hT : q_Ty g K L f) (d0 : Nat → Nat) (s0 : tw_S) (v0 : Nat) (hv0 : v0 ∈ L) (kv0 : K v0 = 10) (p0 : Int) (lp0 : 0 ≤ p0) (up0 : p0 ≤ 9) (n0 : Nat) (hn0 : n0 ∈ L) (kn0 : K n0 = 110) (l0 : Nat) (hl0 : l0 ∈ L) (kl0 : K l0 = 120) (m0 : Nat) (hm0 : m0 ∈ L) (km0 : K m0 = 130) (hr0 : q_ir (q_r f v0 0) n0) (hr1 : q_ir (q_r f v0 1) l0) (hr2 : q_ir (q_r f v0 2) m0) (hw0 : tw_vw K L 10 5 3 4 f v0 n0 l0 m0 d0 s0) : q_Ct l g K L yX10_nodeAt cX10_nodeAt 2 (some (.object "WakeVillage$Node")) 0 0 [.ref v0, .int (q_i p0)] f [] (q_Pr (fun (z : Nat) (f1 : Nat → va_E) => f = f1 ∧ z ∈ L ∧ K z = 5 ∧ (z = d0 (1 + Int.toNat p0)))) := by
  refine q_ofb (by decide +kernel) hN hT (Nat.le_of_ble_eq_true rfl) ?_
  intro p e s m below meth c ls cx hr hlk hB hl
  have hl : lv_has ls 2 [(0, .ref v0), (1, .int (q_i p0))] := hl
  obtain ⟨H, hH⟩ : ∃ H : Heap, H = s.heap := ⟨_, rfl⟩
  obtain ⟨locs, hlocs⟩ : ∃ z : List Loc, z = [] := ⟨_, rfl⟩
  rw [← hH, ← hlocs] at hB
  rw [← hH, ← hlocs]
  refine q_ald_n cx dX10_nodeAt_0 rfl (lv_at hl 0 rfl) ?_
  refine q_gX10_13 cx hB hv0 kv0 hr0 dX10_nodeAt_1 (fun hb7 kb7 => ?_)
  refine q_ild_n cx dX10_nodeAt_4 rfl (lv_at hl 1 rfl) ?_
  refine q_iflt (tgt := 21) cx ⟨by omega, by omega⟩ dX10_nodeAt_5 (by decide) (fun c8 => ?_) (fun c8 => ?_)
  · exact absurd c8 (by omega)
  · refine q_ild_n cx dX10_nodeAt_8 rfl (lv_at hl 1 rfl) ?_
    refine q_ald_n cx dX10_nodeAt_9 rfl (lv_at hl 0 rfl) ?_
    refine q_gX10_13 cx hB hv0 kv0 hr0 dX10_nodeAt_10 (fun hb9 kb9 => ?_)
    refine q_alen (n := 10) cx hB hn0 kn0 (by decide) rfl 7 rfl rfl dX10_nodeAt_13 ?_
    refine q_icge (tgt := 21) cx ⟨by omega, by omega⟩ ⟨by decide, by decide⟩ dX10_nodeAt_14 (by decide) (fun c10 => ?_) (fun c10 => ?_)
    · exact absurd c10 (by omega)
    · refine q_ild_n cx dX10_nodeAt_17 rfl (lv_at hl 1 rfl) ?_
      refine lv_goto (tgt := 22) cx.1 cx.2.1 dX10_nodeAt_18 (by decide) ?_
      obtain ⟨p11, ep11⟩ : ∃ zz, q_ir (q_r f n0 (Int.toNat p0)) zz := ⟨_, q_irr _⟩
      refine q_aald (k2 := 5) (n := 10) cx hB hn0 kn0 (by decide) rfl 7 rfl (by decide) rfl (by omega) (by omega) (by decide) rfl ep11 dX10_nodeAt_22 (fun hb12 kb12 => ?_)
      refine q_aret cx hr (Or.inl ⟨_, rfl⟩) hlk hB dX10_nodeAt_23 ?_
      exact ⟨rfl, hb12, kb12, (tw_at1 hw0 lp0 up0 ep11)⟩
set_option maxHeartbeats 4000000 in
set_option maxRecDepth 100000 in
theorem f_linkAt0 (l : Launch) (g : q_G) {K : Nat → Nat} {L : List Nat} (hN : L.Nodup) {f : Nat → va_E} (hT : q_Ty g K L f) (d0 : Nat → Nat) (s0 : tw_S) (v0 : Nat) (hv0 : v0 ∈ L) (kv0 : K v0 = 10) (p0 : Int) (lp0 : 0 ≤ p0) (up0 : p0 ≤ 15) (n0 : Nat) (hn0 : n0 ∈ L) (kn0 : K n0 = 110) (l0 : Nat) (hl0 : l0 ∈ L) (kl0 : K l0 = 120) (m0 : Nat) (hm0 : m0 ∈ L) (km0 : K m0 = 130) (hr0 : q_ir (q_r f v0 0) n0) (hr1 : q_ir (q_r f v0 1) l0) (hr2 : q_ir (q_r f v0 2) m0) (hw0 : tw_vw K L 10 5 3 4 f v0 n0 l0 m0 d0 s0) : q_Ct l g K L yX10_linkAt cX10_linkAt 2 (some (.object "WakeVillage$Link")) 0 0 [.ref v0, .int (q_i p0)] f [] (q_Pr (fun (z : Nat) (f1 : Nat → va_E) => f = f1 ∧ z ∈ L ∧ K z = 3 ∧ (z = d0 (11 + Int.toNat p0)))) := by
  refine q_ofb (by decide +kernel) hN hT (Nat.le_of_ble_eq_true rfl) ?_
  intro p e s m below meth c ls cx hr hlk hB hl
  have hl : lv_has ls 2 [(0, .ref v0), (1, .int (q_i p0))] := hl
  obtain ⟨H, hH⟩ : ∃ H : Heap, H = s.heap := ⟨_, rfl⟩
  obtain ⟨locs, hlocs⟩ : ∃ z : List Loc, z = [] := ⟨_, rfl⟩
  rw [← hH, ← hlocs] at hB
  rw [← hH, ← hlocs]
  refine q_ald_n cx dX10_linkAt_0 rfl (lv_at hl 0 rfl) ?_
  refine q_gX10_19 cx hB hv0 kv0 hr1 dX10_linkAt_1 (fun hb7 kb7 => ?_)
  refine q_ild_n cx dX10_linkAt_4 rfl (lv_at hl 1 rfl) ?_
  refine q_iflt (tgt := 21) cx ⟨by omega, by omega⟩ dX10_linkAt_5 (by decide) (fun c8 => ?_) (fun c8 => ?_)
  · exact absurd c8 (by omega)
  · refine q_ild_n cx dX10_linkAt_8 rfl (lv_at hl 1 rfl) ?_
    refine q_ald_n cx dX10_linkAt_9 rfl (lv_at hl 0 rfl) ?_
    refine q_gX10_19 cx hB hv0 kv0 hr1 dX10_linkAt_10 (fun hb9 kb9 => ?_)
    refine q_alen (n := 16) cx hB hl0 kl0 (by decide) rfl 5 rfl rfl dX10_linkAt_13 ?_
    refine q_icge (tgt := 21) cx ⟨by omega, by omega⟩ ⟨by decide, by decide⟩ dX10_linkAt_14 (by decide) (fun c10 => ?_) (fun c10 => ?_)
    · exact absurd c10 (by omega)
    · refine q_ild_n cx dX10_linkAt_17 rfl (lv_at hl 1 rfl) ?_
      refine lv_goto (tgt := 22) cx.1 cx.2.1 dX10_linkAt_18 (by decide) ?_
      obtain ⟨p11, ep11⟩ : ∃ zz, q_ir (q_r f l0 (Int.toNat p0)) zz := ⟨_, q_irr _⟩
      refine q_aald (k2 := 3) (n := 16) cx hB hl0 kl0 (by decide) rfl 5 rfl (by decide) rfl (by omega) (by omega) (by decide) rfl ep11 dX10_linkAt_22 (fun hb12 kb12 => ?_)
      refine q_aret cx hr (Or.inl ⟨_, rfl⟩) hlk hB dX10_linkAt_23 ?_
      exact ⟨rfl, hb12, kb12, (tw_at2 hw0 lp0 up0 ep11)⟩
set_option maxHeartbeats 4000000 in
set_option maxRecDepth 100000 in
theorem f_messageAt0 (l : Launch) (g : q_G) {K : Nat → Nat} {L : List Nat} (hN : L.Nodup) {f : Nat → va_E} (hT : q_Ty g K L f) (d0 : Nat → Nat) (s0 : tw_S) (v0 : Nat) (hv0 : v0 ∈ L) (kv0 : K v0 = 10) (p0 : Int) (lp0 : 0 ≤ p0) (up0 : p0 ≤ 60) (n0 : Nat) (hn0 : n0 ∈ L) (kn0 : K n0 = 110) (l0 : Nat) (hl0 : l0 ∈ L) (kl0 : K l0 = 120) (m0 : Nat) (hm0 : m0 ∈ L) (km0 : K m0 = 130) (hr0 : q_ir (q_r f v0 0) n0) (hr1 : q_ir (q_r f v0 1) l0) (hr2 : q_ir (q_r f v0 2) m0) (hw0 : tw_vw K L 10 5 3 4 f v0 n0 l0 m0 d0 s0) : q_Ct l g K L yX10_messageAt cX10_messageAt 2 (some (.object "WakeVillage$Message")) 0 0 [.ref v0, .int (q_i p0)] f [] (q_Pr (fun (z : Nat) (f1 : Nat → va_E) => f = f1 ∧ z ∈ L ∧ K z = 4 ∧ (z = d0 (27 + Int.toNat p0)))) := by
  refine q_ofb (by decide +kernel) hN hT (Nat.le_of_ble_eq_true rfl) ?_
  intro p e s m below meth c ls cx hr hlk hB hl
  have hl : lv_has ls 2 [(0, .ref v0), (1, .int (q_i p0))] := hl
  obtain ⟨H, hH⟩ : ∃ H : Heap, H = s.heap := ⟨_, rfl⟩
  obtain ⟨locs, hlocs⟩ : ∃ z : List Loc, z = [] := ⟨_, rfl⟩
  rw [← hH, ← hlocs] at hB
  rw [← hH, ← hlocs]
  refine q_ald_n cx dX10_messageAt_0 rfl (lv_at hl 0 rfl) ?_
  refine q_gX10_25 cx hB hv0 kv0 hr2 dX10_messageAt_1 (fun hb7 kb7 => ?_)
  refine q_ild_n cx dX10_messageAt_4 rfl (lv_at hl 1 rfl) ?_
  refine q_iflt (tgt := 21) cx ⟨by omega, by omega⟩ dX10_messageAt_5 (by decide) (fun c8 => ?_) (fun c8 => ?_)
  · exact absurd c8 (by omega)
  · refine q_ild_n cx dX10_messageAt_8 rfl (lv_at hl 1 rfl) ?_
    refine q_ald_n cx dX10_messageAt_9 rfl (lv_at hl 0 rfl) ?_
    refine q_gX10_25 cx hB hv0 kv0 hr2 dX10_messageAt_10 (fun hb9 kb9 => ?_)
    refine q_alen (n := 61) cx hB hm0 km0 (by decide) rfl 6 rfl rfl dX10_messageAt_13 ?_
    refine q_icge (tgt := 21) cx ⟨by omega, by omega⟩ ⟨by decide, by decide⟩ dX10_messageAt_14 (by decide) (fun c10 => ?_) (fun c10 => ?_)
    · exact absurd c10 (by omega)
    · refine q_ild_n cx dX10_messageAt_17 rfl (lv_at hl 1 rfl) ?_
      refine lv_goto (tgt := 22) cx.1 cx.2.1 dX10_messageAt_18 (by decide) ?_
      obtain ⟨p11, ep11⟩ : ∃ zz, q_ir (q_r f m0 (Int.toNat p0)) zz := ⟨_, q_irr _⟩
      refine q_aald (k2 := 4) (n := 61) cx hB hm0 km0 (by decide) rfl 6 rfl (by decide) rfl (by omega) (by omega) (by decide) rfl ep11 dX10_messageAt_22 (fun hb12 kb12 => ?_)
      refine q_aret cx hr (Or.inl ⟨_, rfl⟩) hlk hB dX10_messageAt_23 ?_
      exact ⟨rfl, hb12, kb12, (tw_at3 hw0 lp0 up0 ep11)⟩
set_option maxHeartbeats 4000000 in
set_option maxRecDepth 100000 in
theorem f_isOut0 (l : Launch) (g : q_G) {K : Nat → Nat} {L : List Nat} (hN : L.Nodup) {f : Nat → va_E} (hT : q_Ty g K L f) (d0 : Nat → Nat) (s0 : tw_S) (v0 : Nat) (hv0 : v0 ∈ L) (kv0 : K v0 = 10) (p0 : Int) (lp0 : 0 ≤ p0) (up0 : p0 ≤ 9) (n0 : Nat) (hn0 : n0 ∈ L) (kn0 : K n0 = 110) (l0 : Nat) (hl0 : l0 ∈ L) (kl0 : K l0 = 120) (m0 : Nat) (hm0 : m0 ∈ L) (km0 : K m0 = 130) (hr0 : q_ir (q_r f v0 0) n0) (hr1 : q_ir (q_r f v0 1) l0) (hr2 : q_ir (q_r f v0 2) m0) (hw0 : tw_vw K L 10 5 3 4 f v0 n0 l0 m0 d0 s0) : q_Ct l g K L yX10_isOut cX10_isOut 2 (some .boolean) 1 21 [.ref v0, .int (q_i p0)] f [] (q_Pi (fun (z : Int) (f1 : Nat → va_E) => (f = f1 ∧ z = 1 ∧ (tw_ou s0 p0 = 1)) ∨ (f = f1 ∧ z = 0 ∧ (tw_ou s0 p0 = 0)))) := by
  refine q_ofb (by decide +kernel) hN hT (Nat.le_of_ble_eq_true rfl) ?_
  intro p e s m below meth c ls cx hr hlk hB hl
  have hl : lv_has ls 2 [(0, .ref v0), (1, .int (q_i p0))] := hl
  obtain ⟨H, hH⟩ : ∃ H : Heap, H = s.heap := ⟨_, rfl⟩
  obtain ⟨locs, hlocs⟩ : ∃ z : List Loc, z = [] := ⟨_, rfl⟩
  rw [← hH, ← hlocs] at hB
  rw [← hH, ← hlocs]
  refine q_ald_n cx dX10_isOut_0 rfl (lv_at hl 0 rfl) ?_
  refine q_ild_n cx dX10_isOut_1 rfl (lv_at hl 1 rfl) ?_
  refine q_cVr (As := [.int (q_i p0)]) (rest := []) cx hB (fun _ h => h) hN hv0 kv0 (by decide) rfl (f_nodeAt0 l g hN hB.2.1 d0 s0 v0 hv0 kv0 p0 (by omega) (by omega) n0 hn0 kn0 l0 hl0 kl0 m0 hm0 km0 hr0 hr1 hr2 hw0) q_cX10_66 q_dX10_nodeAt (by decide) rfl rfl hl.1 rfl (Nat.le_of_ble_eq_true rfl) dX10_isOut_2 (fun y10 H locs f9 h11 hF hB => ?_)
  obtain ⟨rfl, hy10, ky10, t12⟩ := h11
  obtain ⟨x13, ex13⟩ : ∃ zz, q_is (q_z f y10 4) zz := ⟨_, q_isr _⟩
  obtain ⟨lx13, ux13⟩ := q_isb ex13 (q_fib hB.2.1 hy10 ky10 (by decide) rfl)
  obtain ⟨x14, ex14, nx14⟩ : ∃ zz, q_is (q_z f y10 4) zz ∧ zz = x13 := ⟨_, ex13, rfl⟩
  have sx14 : q_is x14 (s0 (1 + Int.toNat p0) 4) := tw_g hw0 t12 (by omega) (by omega) ex14
  refine q_gX10_101 cx hB hy10 ky10 ex14 dX10_isOut_5 (fun lb15 ub15 => ?_)
  refine q_ifne (tgt := 15) cx ⟨by omega, by omega⟩ dX10_isOut_8 (by decide) (fun c16 => ?_) (fun c16 => ?_)
  · refine q_iconst cx dX10_isOut_15 ?_
    refine q_zret cx hr hlk hB dX10_isOut_16 (by decide) (by decide) ?_
    exact (Or.inr ⟨rfl, rfl, (by have t0_ : x14 = s0 (1 + Int.toNat p0) 4 := sx14; (try simp only [t0_]); unfold tw_ou; (repeat' split) <;> first | rfl | (exfalso; omega))⟩)
  · refine q_iconst cx dX10_isOut_11 ?_
    refine lv_goto (tgt := 16) cx.1 cx.2.1 dX10_isOut_12 (by decide) ?_
    refine q_zret cx hr hlk hB dX10_isOut_16 (by decide) (by decide) ?_
    exact (Or.inl ⟨rfl, rfl, (by have t0_ : x14 = s0 (1 + Int.toNat p0) 4 := sx14; (try simp only [t0_]); unfold tw_ou; (repeat' split) <;> first | rfl | (exfalso; omega))⟩)
set_option maxHeartbeats 4000000 in
set_option maxRecDepth 100000 in
theorem f_dayOfYear0 (l : Launch) (g : q_G) {K : Nat → Nat} {L : List Nat} (hN : L.Nodup) {f : Nat → va_E} (hT : q_Ty g K L f) (d0 : Nat → Nat) (s0 : tw_S) (v0 : Nat) (hv0 : v0 ∈ L) (kv0 : K v0 = 10) (p0 : Int) (lp0 : 0 ≤ p0) (up0 : p0 ≤ 1000000) (n0 : Nat) (hn0 : n0 ∈ L) (kn0 : K n0 = 110) (l0 : Nat) (hl0 : l0 ∈ L) (kl0 : K l0 = 120) (m0 : Nat) (hm0 : m0 ∈ L) (km0 : K m0 = 130) (hr0 : q_ir (q_r f v0 0) n0) (hr1 : q_ir (q_r f v0 1) l0) (hr2 : q_ir (q_r f v0 2) m0) (hw0 : tw_vw K L 10 5 3 4 f v0 n0 l0 m0 d0 s0) : q_Ct l g K L yX10_dayOfYear cX10_dayOfYear 2 (some .int) 0 0 [.ref v0, .int (q_i p0)] f [] (q_Pi (fun (z : Int) (f1 : Nat → va_E) => f = f1 ∧ 0 ≤ z ∧ z ≤ 59 ∧ (z = tw_dy s0 p0))) := by
  refine q_ofb (by decide +kernel) hN hT (Nat.le_of_ble_eq_true rfl) ?_
  intro p e s m below meth c ls cx hr hlk hB hl
  have hl : lv_has ls 2 [(0, .ref v0), (1, .int (q_i p0))] := hl
  obtain ⟨H, hH⟩ : ∃ H : Heap, H = s.heap := ⟨_, rfl⟩
  obtain ⟨locs, hlocs⟩ : ∃ z : List Loc, z = [] := ⟨_, rfl⟩
  rw [← hH, ← hlocs] at hB
  rw [← hH, ← hlocs]
  refine q_ald_n cx dX10_dayOfYear_0 rfl (lv_at hl 0 rfl) ?_
  obtain ⟨x8, ex8⟩ : ∃ zz, q_is (q_z f v0 6) zz := ⟨_, q_isr _⟩
  obtain ⟨lx8, ux8⟩ := q_isb ex8 (q_fib hB.2.1 hv0 kv0 (by decide) rfl)
  obtain ⟨x9, ex9, nx9⟩ : ∃ zz, q_is (q_z f v0 6) zz ∧ zz = x8 := ⟨_, ex8, rfl⟩
  have sx9 : q_is x9 (s0 0 6) := tw_g hw0 (tw_v0 hw0) (by omega) (by omega) ex9
  refine q_gX10_45 cx hB hv0 kv0 ex9 dX10_dayOfYear_1 (fun lb10 ub10 => ?_)
  refine q_ifle (tgt := 16) cx ⟨by omega, by omega⟩ dX10_dayOfYear_4 (by decide) (fun c11 => ?_) (fun c11 => ?_)
  · exact absurd c11 (by omega)
  · refine q_ild_n cx dX10_dayOfYear_7 rfl (lv_at hl 1 rfl) ?_
    refine q_ald_n cx dX10_dayOfYear_8 rfl (lv_at hl 0 rfl) ?_
    obtain ⟨x12, ex12, nx12⟩ : ∃ zz, q_is (q_z f v0 6) zz ∧ zz = x8 := ⟨_, ex8, rfl⟩
    have sx12 : q_is x12 (s0 0 6) := tw_g hw0 (tw_v0 hw0) (by omega) (by omega) ex12
    refine q_gX10_45 cx hB hv0 kv0 ex12 dX10_dayOfYear_9 (fun lb13 ub13 => ?_)
    refine q_irem cx ⟨by omega, by omega⟩ ⟨by omega, by omega⟩ (by omega) dX10_dayOfYear_12 (fun y14 ey14 ay14 by14 ny14 => ?_)
    refine lv_goto (tgt := 17) cx.1 cx.2.1 dX10_dayOfYear_13 (by decide) ?_
    refine q_iret cx hr hlk hB dX10_dayOfYear_17 ⟨by omega, by omega⟩ ?_
    exact ⟨rfl, (by omega), (by omega), (by have t0_ : x9 = s0 0 6 := sx9; have t1_ : x12 = s0 0 6 := sx12; have t2_ : y14 = Int.tmod p0 (s0 0 6) := Eq.trans ey14 (by simp only [t1_]); (try simp only [t0_, t1_, t2_]); unfold tw_dy; (repeat' split) <;> first | rfl | (exfalso; omega))⟩
set_option maxHeartbeats 4000000 in
set_option maxRecDepth 100000 in
theorem f_dayOf0 (l : Launch) (g : q_G) {K : Nat → Nat} {L : List Nat} (hN : L.Nodup) {f : Nat → va_E} (hT : q_Ty g K L f) (d0 : Nat → Nat) (s0 : tw_S) (v0 : Nat) (hv0 : v0 ∈ L) (kv0 : K v0 = 10) (p0 : Int) (lp0 : 0 ≤ p0) (up0 : p0 ≤ 9) (n0 : Nat) (hn0 : n0 ∈ L) (kn0 : K n0 = 110) (l0 : Nat) (hl0 : l0 ∈ L) (kl0 : K l0 = 120) (m0 : Nat) (hm0 : m0 ∈ L) (km0 : K m0 = 130) (tm : Int) (ltm : 0 ≤ tm) (utm : tm ≤ 20000) (hf0 : q_is (q_z f v0 11) tm) (hr0 : q_ir (q_r f v0 0) n0) (hr1 : q_ir (q_r f v0 1) l0) (hr2 : q_ir (q_r f v0 2) m0) (hw0 : tw_vw K L 10 5 3 4 f v0 n0 l0 m0 d0 s0) : q_Ct l g K L yX10_dayOf cX10_dayOf 2 (some .int) 1 21 [.ref v0, .int (q_i p0)] f [] (q_Pi (fun (z : Int) (f1 : Nat → va_E) => f = f1 ∧ 0 ≤ z ∧ z ≤ 59 ∧ (z = tw_do s0 p0))) := by
  refine q_ofb (by decide +kernel) hN hT (Nat.le_of_ble_eq_true rfl) ?_
  intro p e s m below meth c ls cx hr hlk hB hl
  have hl : lv_has ls 2 [(0, .ref v0), (1, .int (q_i p0))] := hl
  obtain ⟨H, hH⟩ : ∃ H : Heap, H = s.heap := ⟨_, rfl⟩
  obtain ⟨locs, hlocs⟩ : ∃ z : List Loc, z = [] := ⟨_, rfl⟩
  rw [← hH, ← hlocs] at hB
  rw [← hH, ← hlocs]
  refine q_ald_n cx dX10_dayOf_0 rfl (lv_at hl 0 rfl) ?_
  refine q_ald_n cx dX10_dayOf_1 rfl (lv_at hl 0 rfl) ?_
  obtain ⟨x14, ex14, nx14⟩ : ∃ zz, q_is (q_z f v0 11) zz ∧ zz = tm := ⟨_, hf0, rfl⟩
  have sx14 : q_is x14 (s0 0 11) := tw_g hw0 (tw_v0 hw0) (by omega) (by omega) ex14
  refine q_gX10_60 cx hB hv0 kv0 ex14 dX10_dayOf_2 (fun lb15 ub15 => ?_)
  refine q_ald_n cx dX10_dayOf_5 rfl (lv_at hl 0 rfl) ?_
  refine q_ild_n cx dX10_dayOf_6 rfl (lv_at hl 1 rfl) ?_
  refine q_cVr (As := [.int (q_i p0)]) (rest := [.int (q_i x14), .ref v0]) cx hB (fun _ h => h) hN hv0 kv0 (by decide) rfl (f_nodeAt0 l g hN hB.2.1 d0 s0 v0 hv0 kv0 p0 (by omega) (by omega) n0 hn0 kn0 l0 hl0 kl0 m0 hm0 km0 hr0 hr1 hr2 hw0) q_cX10_66 q_dX10_nodeAt (by decide) rfl rfl hl.1 rfl (Nat.le_of_ble_eq_true rfl) dX10_dayOf_7 (fun y17 H locs f16 h18 hF hB => ?_)
  obtain ⟨rfl, hy17, ky17, t19⟩ := h18
  obtain ⟨x20, ex20⟩ : ∃ zz, q_is (q_z f y17 3) zz := ⟨_, q_isr _⟩
  obtain ⟨lx20, ux20⟩ := q_isb ex20 (q_fib hB.2.1 hy17 ky17 (by decide) rfl)
  obtain ⟨x21, ex21, nx21⟩ : ∃ zz, q_is (q_z f y17 3) zz ∧ zz = x20 := ⟨_, ex20, rfl⟩
  have sx21 : q_is x21 (s0 (1 + Int.toNat p0) 3) := tw_g hw0 t19 (by omega) (by omega) ex21
  refine q_gX10_98 cx hB hy17 ky17 ex21 dX10_dayOf_10 (fun lb22 ub22 => ?_)
  refine q_iadd cx dX10_dayOf_13 ?_
  refine q_cVi (As := [.int (q_i (x14 + x21))]) (rest := []) cx hB (fun _ h => h) hN hv0 kv0 (by decide) rfl (f_dayOfYear0 l g hN hB.2.1 d0 s0 v0 hv0 kv0 (x14 + x21) (by omega) (by omega) n0 hn0 kn0 l0 hl0 kl0 m0 hm0 km0 hr0 hr1 hr2 hw0) q_cX10_156 q_dX10_dayOfYear (by decide) rfl rfl hl.1 rfl (Nat.le_of_ble_eq_true rfl) dX10_dayOf_14 (fun y24 H locs f23 ry24 h25 hF hB => ?_)
  obtain ⟨rfl, ly24, uy24, t26⟩ := h25
  refine q_iret cx hr hlk hB dX10_dayOf_17 ⟨by omega, by omega⟩ ?_
  exact ⟨rfl, (by omega), (by omega), (by have t0_ : x14 = s0 0 11 := sx14; have t1_ : x21 = s0 (1 + Int.toNat p0) 3 := sx21; have t2_ : y24 = tw_dy s0 ((s0 0 11) + (s0 (1 + Int.toNat p0) 3)) := Eq.trans t26 (by simp only [t0_, t1_]); (try simp only [t0_, t1_, t2_]); unfold tw_do; (repeat' split) <;> first | rfl | (exfalso; omega))⟩
set_option maxHeartbeats 4000000 in
set_option maxRecDepth 100000 in
theorem f_tableOf0 (l : Launch) (g : q_G) {K : Nat → Nat} {L : List Nat} (hN : L.Nodup) {f : Nat → va_E} (hT : q_Ty g K L f) (d0 : Nat → Nat) (s0 : tw_S) (v0 : Nat) (hv0 : v0 ∈ L) (kv0 : K v0 = 10) (p0 : Int) (lp0 : 0 ≤ p0) (up0 : p0 ≤ 9) (n0 : Nat) (hn0 : n0 ∈ L) (kn0 : K n0 = 110) (l0 : Nat) (hl0 : l0 ∈ L) (kl0 : K l0 = 120) (m0 : Nat) (hm0 : m0 ∈ L) (km0 : K m0 = 130) (nn : Int) (lnn : 0 ≤ nn) (unn : nn ≤ 10) (hf0 : q_is (q_z f v0 3) nn) (hr0 : q_ir (q_r f v0 0) n0) (hr1 : q_ir (q_r f v0 1) l0) (hr2 : q_ir (q_r f v0 2) m0) (hw0 : tw_vw K L 10 5 3 4 f v0 n0 l0 m0 d0 s0) (hz0 : tw_nw K L 5 f) : q_Ct l g K L yX10_tableOf cX10_tableOf 6 (some .long) 1 21 [.ref v0, .int (q_i p0)] f [] (q_Pl (fun (z : Int64) (f1 : Nat → va_E) => f = f1 ∧ (z = tw_tb s0 p0))) := by
  refine q_ofb (by decide +kernel) hN hT (Nat.le_of_ble_eq_true rfl) ?_
  intro p e s m below meth c ls cx hr hlk hB hl
  have hl : lv_has ls 6 [(0, .ref v0), (1, .int (q_i p0))] := hl
  have J21 : ∀ (n : Nat) (v21_2 : Nat) (hv21_2 : v21_2 ∈ L) (kv21_2 : K v21_2 = 5) (v21_3 : Int64) (v21_5 : Int) (lv21_5 : 0 ≤ v21_5) (uv21_5 : v21_5 ≤ 10) (hj_v0_3 : q_is (q_z f v0 3) nn) (hq_v0_0 : q_ir (q_r f v0 0) n0) (hq_v0_1 : q_ir (q_r f v0 1) l0) (hq_v0_2 : q_ir (q_r f v0 2) m0) (hw021 : tw_vw K L 10 5 3 4 f v0 n0 l0 m0 d0 s0) (hz021 : tw_nw K L 5 f) (hrl21_0 : 0 ≤ 1 * nn + -1 * v21_5 + 0) (hpv : v21_2 = d0 (1 + Int.toNat p0)) (hac : v21_3 = tw_tl s0 p0 (Int.toNat v21_5)) (hmu : (Int.toNat (2147483647 - v21_5)) < n) (H : Heap) (locs : List Loc) (hB : q_B g K L (fun q => q ∈ L) [] f f s H locs) (ls : Array Slot) (hl : lv_has ls 6 [(0, .ref v0), (2, .ref v21_2), (3, .long v21_3), (5, .int (q_i v21_5))]), W p l e { frames := 1, cells := 0, slots := 0, locals := 21 } s m ([.ref v0, .int (q_i p0)] : List Value).toArray below meth c H locs 0 0 (MQ below (q_Q g K L [] f (q_Pl (fun (z : Int64) (f1 : Nat → va_E) => f = f1 ∧ (z = tw_tb s0 p0)))) ([.ref v0, .int (q_i p0)] : List Value).toArray s 0 0 (fun q => q ∈ L)) (F0 m 21 ls []) := by
    intro n
    induction n with
    | zero =>
      intro v21_2 hv21_2 kv21_2 v21_3 v21_5 lv21_5 uv21_5 hj_v0_3 hq_v0_0 hq_v0_1 hq_v0_2 hw021 hz021 hrl21_0 hpv hac hmu
      exact absurd hmu (Nat.not_lt_zero _)
    | succ n ih21 =>
      intro v21_2 hv21_2 kv21_2 v21_3 v21_5 lv21_5 uv21_5 hj_v0_3 hq_v0_0 hq_v0_1 hq_v0_2 hw021 hz021 hrl21_0 hpv hac hmu H locs hB ls hl
      refine lv_iload cx.1 cx.2.1 dX10_tableOf_21 (lv_at hl 3 rfl) ?_
      refine q_ald_n cx dX10_tableOf_23 rfl (lv_at hl 0 rfl) ?_
      obtain ⟨x250, ex250, nx250⟩ : ∃ zz, q_is (q_z f v0 3) zz ∧ zz = nn := ⟨_, hj_v0_3, rfl⟩
      have sx250 : q_is x250 (s0 0 3) := tw_g hw021 (tw_v0 hw0) (by omega) (by omega) ex250
      refine q_gX10_35 cx hB hv0 kv0 ex250 dX10_tableOf_24 (fun lb251 ub251 => ?_)
      refine q_icge (tgt := 62) cx ⟨by omega, by omega⟩ ⟨by omega, by omega⟩ dX10_tableOf_27 (by decide) (fun c252 => ?_) (fun c252 => ?_)
      · refine q_lld_n cx dX10_tableOf_62 rfl (lv_at hl 2 rfl) ?_
        refine q_lret cx hr hlk hB dX10_tableOf_63 ?_
        exact ⟨rfl, (by have t0_ : v21_3 = tw_tl s0 p0 (Int.toNat v21_5) := hac; have t1_ : x250 = s0 0 3 := sx250; have e9 : v21_5 = s0 0 3 := by omega; rw [hac, e9]; rfl)⟩
      · refine q_ald_n cx dX10_tableOf_30 rfl (lv_at hl 1 rfl) ?_
        obtain ⟨x253, ex253⟩ : ∃ zz, q_is (q_z f v21_2 5) zz := ⟨_, q_isr _⟩
        obtain ⟨lx253, ux253⟩ := q_isb ex253 (q_fib hB.2.1 hv21_2 kv21_2 (by decide) rfl)
        obtain ⟨x254, ex254, nx254⟩ : ∃ zz, q_is (q_z f v21_2 5) zz ∧ zz = x253 := ⟨_, ex253, rfl⟩
        have sx254 : q_is x254 (s0 (1 + Int.toNat p0) 5) := tw_g hw021 hpv (by omega) (by omega) ex254
        refine q_gX10_104 cx hB hv21_2 kv21_2 ex254 dX10_tableOf_31 (fun lb255 ub255 => ?_)
        refine lv_iload cx.1 cx.2.1 dX10_tableOf_34 (lv_at hl 3 rfl) ?_
        refine q_cSi (As := [.int (q_i x254), .int (q_i v21_5)]) (rest := []) cx hB (fun _ h => h) hN (f_has l g hN hB.2.1 x254 (by omega) (by omega) v21_5 (by omega) (by omega)) q_cX10_181 q_dX10_has (by decide) rfl rfl hl.1 rfl (Nat.le_of_ble_eq_true rfl) dX10_tableOf_36 (fun y257 H locs f256 ry257 h258 hF hB => ?_)
        rcases h258 with h259 | h260
        · obtain ⟨rfl, qy257, t261⟩ := h259
          subst qy257
          refine q_ifeq (tgt := 56) cx ⟨by decide, by decide⟩ dX10_tableOf_39 (by decide) (fun c262 => ?_) (fun c262 => ?_)
          · exact absurd c262 (by omega)
          · refine q_lld_n cx dX10_tableOf_42 rfl (lv_at hl 2 rfl) ?_
            refine q_lconst (z := 1) cx (by decide) dX10_tableOf_43 ?_
            refine q_ald_n cx dX10_tableOf_44 rfl (lv_at hl 0 rfl) ?_
            refine lv_iload cx.1 cx.2.1 dX10_tableOf_45 (lv_at hl 3 rfl) ?_
            refine q_cVr (As := [.int (q_i v21_5)]) (rest := [.long (q_l 1), .long v21_3]) cx hB (fun _ h => h) hN hv0 kv0 (by decide) rfl (f_nodeAt0 l g hN hB.2.1 d0 s0 v0 hv0 kv0 v21_5 (by omega) (by omega) n0 hn0 kn0 l0 hl0 kl0 m0 hm0 km0 hq_v0_0 hq_v0_1 hq_v0_2 hw021) q_cX10_66 q_dX10_nodeAt (by decide) rfl rfl hl.1 rfl (Nat.le_of_ble_eq_true rfl) dX10_tableOf_47 (fun y264 H locs f263 h265 hF hB => ?_)
            obtain ⟨rfl, hy264, ky264, t266⟩ := h265
            obtain ⟨x267, ex267⟩ : ∃ zz, q_is (q_z f y264 2) zz := ⟨_, q_isr _⟩
            obtain ⟨lx267, ux267⟩ := q_isb ex267 (q_fib hB.2.1 hy264 ky264 (by decide) rfl)
            obtain ⟨x268, ex268, nx268⟩ : ∃ zz, q_is (q_z f y264 2) zz ∧ zz = x267 := ⟨_, ex267, rfl⟩
            have sx268 : q_is x268 (s0 (1 + Int.toNat v21_5) 2) := tw_g hw021 t266 (by omega) (by omega) ex268
            refine q_gX10_95 cx hB hy264 ky264 ex268 dX10_tableOf_50 (fun lb269 ub269 => ?_)
            refine lv_lshl cx.1 cx.2.1 dX10_tableOf_53 rfl ?_
            refine lv_topl (fun j270 ej270 => ?_)
            refine lv_lor cx.1 cx.2.1 dX10_tableOf_54 ?_
            refine lv_topl (fun j271 ej271 => ?_)
            refine lv_lstore_n (lv' := [(3, .long j271), (0, .ref v0), (2, .ref v21_2), (5, .int (q_i v21_5))]) cx.1 cx.2.1 dX10_tableOf_55 rfl hl (by decide) rfl (fun ls hl => ?_)
            refine q_iinc (lv' := [(5, .int (q_i (v21_5 + 1))), (3, .long j271), (0, .ref v0), (2, .ref v21_2)]) cx dX10_tableOf_56 hl (k := 3) rfl (by decide) rfl (fun ls hl => ?_)
            refine lv_goto (tgt := 21) cx.1 cx.2.1 dX10_tableOf_59 (by decide) ?_
            exact ih21 v21_2 hv21_2 kv21_2 j271 (v21_5 + 1) (by omega) (by omega) hj_v0_3 hq_v0_0 hq_v0_1 hq_v0_2 hw021 hz021 (by omega) hpv (by have t0_ : v21_3 = tw_tl s0 p0 (Int.toNat v21_5) := hac; have t1_ : x250 = s0 0 3 := sx250; have t2_ : x254 = s0 (1 + Int.toNat p0) 5 := sx254; have t3_ : x268 = s0 (1 + Int.toNat v21_5) 2 := sx268; have t4_ : j270 = (q_l 1) <<< ((q_i (s0 (1 + Int.toNat v21_5) 2)).toInt64 &&& 63) := Eq.trans ej270.symm (by simp only [t3_]); have t5_ : j271 = (tw_tl s0 p0 (Int.toNat v21_5)) ||| ((q_l 1) <<< ((q_i (s0 (1 + Int.toNat v21_5) 2)).toInt64 &&& 63)) := Eq.trans ej271.symm (by simp only [t0_, t4_]); have u0_ : tw_hz (s0 (1 + Int.toNat p0) 5) v21_5 = 1 := (by have e9 := t261; simp only [t2_] at e9; exact e9); (try simp only [t0_, t1_, t2_, t3_, t4_, t5_]); rw [tw_tl_s (by omega)]; (repeat' split) <;> first | rfl | (exfalso; omega)) (by omega) H locs hB ls (lv_sub hl [2, 3, 1, 0] rfl)
        · obtain ⟨rfl, qy257, t272⟩ := h260
          subst qy257
          refine q_ifeq (tgt := 56) cx ⟨by decide, by decide⟩ dX10_tableOf_39 (by decide) (fun c273 => ?_) (fun c273 => ?_)
          · refine q_iinc (lv' := [(5, .int (q_i (v21_5 + 1))), (0, .ref v0), (2, .ref v21_2), (3, .long v21_3)]) cx dX10_tableOf_56 hl (k := 3) rfl (by decide) rfl (fun ls hl => ?_)
            refine lv_goto (tgt := 21) cx.1 cx.2.1 dX10_tableOf_59 (by decide) ?_
            exact ih21 v21_2 hv21_2 kv21_2 v21_3 (v21_5 + 1) (by omega) (by omega) hj_v0_3 hq_v0_0 hq_v0_1 hq_v0_2 hw021 hz021 (by omega) hpv (by have t0_ : v21_3 = tw_tl s0 p0 (Int.toNat v21_5) := hac; have t1_ : x250 = s0 0 3 := sx250; have t2_ : x254 = s0 (1 + Int.toNat p0) 5 := sx254; have u0_ : tw_hz (s0 (1 + Int.toNat p0) 5) v21_5 = 0 := (by have e9 := t272; simp only [t2_] at e9; exact e9); (try simp only [t0_, t1_, t2_]); rw [tw_tl_s (by omega)]; (repeat' split) <;> first | rfl | (exfalso; omega)) (by omega) H locs hB ls (lv_sub hl [1, 2, 3, 0] rfl)
          · exact absurd c273 (by omega)
  obtain ⟨H, hH⟩ : ∃ H : Heap, H = s.heap := ⟨_, rfl⟩
  obtain ⟨locs, hlocs⟩ : ∃ z : List Loc, z = [] := ⟨_, rfl⟩
  rw [← hH, ← hlocs] at hB
  rw [← hH, ← hlocs]
  refine q_ald_n cx dX10_tableOf_0 rfl (lv_at hl 0 rfl) ?_
  refine q_ild_n cx dX10_tableOf_1 rfl (lv_at hl 1 rfl) ?_
  refine q_cVr (As := [.int (q_i p0)]) (rest := []) cx hB (fun _ h => h) hN hv0 kv0 (by decide) rfl (f_nodeAt0 l g hN hB.2.1 d0 s0 v0 hv0 kv0 p0 (by omega) (by omega) n0 hn0 kn0 l0 hl0 kl0 m0 hm0 km0 hr0 hr1 hr2 hw0) q_cX10_66 q_dX10_nodeAt (by decide) rfl rfl hl.1 rfl (Nat.le_of_ble_eq_true rfl) dX10_tableOf_2 (fun y275 H locs f274 h276 hF hB => ?_)
  obtain ⟨rfl, hy275, ky275, t277⟩ := h276
  refine lv_astore_n (lv' := [(2, .ref y275), (0, .ref v0), (1, .int (q_i p0))]) cx.1 cx.2.1 dX10_tableOf_5 rfl hl (by decide) rfl (fun ls hl => ?_)
  refine q_ald_n cx dX10_tableOf_6 rfl (lv_at hl 0 rfl) ?_
  refine q_gX10_92 cx hB hy275 ky275 (hz0 y275 hy275 ky275) dX10_tableOf_7 ?_
  refine q_lconst (z := 1) cx (by decide) dX10_tableOf_10 ?_
  refine q_ald_n cx dX10_tableOf_11 rfl (lv_at hl 0 rfl) ?_
  obtain ⟨x278, ex278⟩ : ∃ zz, q_is (q_z f y275 2) zz := ⟨_, q_isr _⟩
  obtain ⟨lx278, ux278⟩ := q_isb ex278 (q_fib hB.2.1 hy275 ky275 (by decide) rfl)
  obtain ⟨x279, ex279, nx279⟩ : ∃ zz, q_is (q_z f y275 2) zz ∧ zz = x278 := ⟨_, ex278, rfl⟩
  have sx279 : q_is x279 (s0 (1 + Int.toNat p0) 2) := tw_g hw0 t277 (by omega) (by omega) ex279
  refine q_gX10_95 cx hB hy275 ky275 ex279 dX10_tableOf_12 (fun lb280 ub280 => ?_)
  refine lv_lshl cx.1 cx.2.1 dX10_tableOf_15 rfl ?_
  refine lv_topl (fun j281 ej281 => ?_)
  refine lv_lor cx.1 cx.2.1 dX10_tableOf_16 ?_
  refine lv_topl (fun j282 ej282 => ?_)
  refine lv_lstore_n (lv' := [(3, .long j282), (2, .ref y275), (0, .ref v0), (1, .int (q_i p0))]) cx.1 cx.2.1 dX10_tableOf_17 rfl hl (by decide) rfl (fun ls hl => ?_)
  refine q_iconst cx dX10_tableOf_18 ?_
  refine lv_istore (lv' := [(5, .int (q_i 0)), (3, .long j282), (2, .ref y275), (0, .ref v0), (1, .int (q_i p0))]) cx.1 cx.2.1 dX10_tableOf_19 hl (by decide) rfl (fun ls hl => ?_)
  exact J21 ((Int.toNat (2147483647 - 0)) + 1) y275 hy275 ky275 j282 0 (by decide) (by decide) hf0 hr0 hr1 hr2 hw0 hz0 (by omega) t277 (by have t0_ : x279 = s0 (1 + Int.toNat p0) 2 := sx279; have t1_ : j281 = (q_l 1) <<< ((q_i (s0 (1 + Int.toNat p0) 2)).toInt64 &&& 63) := Eq.trans ej281.symm (by simp only [t0_]); have t2_ : j282 = (q_l 0) ||| ((q_l 1) <<< ((q_i (s0 (1 + Int.toNat p0) 2)).toInt64 &&& 63)) := Eq.trans ej282.symm (by simp only [t1_]); (try simp only [t0_, t1_, t2_]); unfold tw_tl tw_l1; (repeat' split) <;> first | rfl | (exfalso; omega)) (Nat.lt_succ_self _) H locs hB ls (lv_sub hl [3, 2, 1, 0] rfl)
set_option maxHeartbeats 4000000 in
set_option maxRecDepth 100000 in
theorem f_isAwake0 (l : Launch) (g : q_G) {K : Nat → Nat} {L : List Nat} (hN : L.Nodup) {f : Nat → va_E} (hT : q_Ty g K L f) (d0 : Nat → Nat) (s0 : tw_S) (v0 : Nat) (hv0 : v0 ∈ L) (kv0 : K v0 = 10) (p0 : Int) (lp0 : 0 ≤ p0) (up0 : p0 ≤ 9) (n0 : Nat) (hn0 : n0 ∈ L) (kn0 : K n0 = 110) (l0 : Nat) (hl0 : l0 ∈ L) (kl0 : K l0 = 120) (m0 : Nat) (hm0 : m0 ∈ L) (km0 : K m0 = 130) (tm : Int) (ltm : 0 ≤ tm) (utm : tm ≤ 20000) (nn : Int) (lnn : 0 ≤ nn) (unn : nn ≤ 10) (hf0 : q_is (q_z f v0 11) tm) (hf1 : q_is (q_z f v0 3) nn) (hr0 : q_ir (q_r f v0 0) n0) (hr1 : q_ir (q_r f v0 1) l0) (hr2 : q_ir (q_r f v0 2) m0) (hw0 : tw_vw K L 10 5 3 4 f v0 n0 l0 m0 d0 s0) (hz0 : tw_nw K L 5 f) : q_Ct l g K L yX10_isAwake cX10_isAwake 2 (some .boolean) 2 46 [.ref v0, .int (q_i p0)] f [] (q_Pi (fun (z : Int) (f1 : Nat → va_E) => (f = f1 ∧ z = 1 ∧ (tw_aw s0 p0 = 1)) ∨ (f = f1 ∧ z = 0 ∧ (tw_aw s0 p0 = 0)))) := by
  refine q_ofb (by decide +kernel) hN hT (Nat.le_of_ble_eq_true rfl) ?_
  intro p e s m below meth c ls cx hr hlk hB hl
  have hl : lv_has ls 2 [(0, .ref v0), (1, .int (q_i p0))] := hl
  obtain ⟨H, hH⟩ : ∃ H : Heap, H = s.heap := ⟨_, rfl⟩
  obtain ⟨locs, hlocs⟩ : ∃ z : List Loc, z = [] := ⟨_, rfl⟩
  rw [← hH, ← hlocs] at hB
  rw [← hH, ← hlocs]
  refine q_ald_n cx dX10_isAwake_0 rfl (lv_at hl 0 rfl) ?_
  refine q_ild_n cx dX10_isAwake_1 rfl (lv_at hl 1 rfl) ?_
  refine q_cVi (As := [.int (q_i p0)]) (rest := []) cx hB (fun _ h => h) hN hv0 kv0 (by decide) rfl (f_isOut0 l g hN hB.2.1 d0 s0 v0 hv0 kv0 p0 (by omega) (by omega) n0 hn0 kn0 l0 hl0 kl0 m0 hm0 km0 hr0 hr1 hr2 hw0) q_cX10_160 q_dX10_isOut (by decide) rfl rfl hl.1 rfl (Nat.le_of_ble_eq_true rfl) dX10_isAwake_2 (fun y28 H locs f27 ry28 h29 hF hB => ?_)
  rcases h29 with h30 | h31
  · obtain ⟨rfl, qy28, t32⟩ := h30
    subst qy28
    refine q_ifne (tgt := 28) cx ⟨by decide, by decide⟩ dX10_isAwake_5 (by decide) (fun c33 => ?_) (fun c33 => ?_)
    · refine q_iconst cx dX10_isAwake_28 ?_
      refine q_zret cx hr hlk hB dX10_isAwake_29 (by decide) (by decide) ?_
      exact (Or.inr ⟨rfl, rfl, (by have u0_ : tw_ou s0 p0 = 1 := t32; unfold tw_aw; (repeat' split) <;> first | rfl | (exfalso; omega))⟩)
    · exact absurd c33 (by omega)
  · obtain ⟨rfl, qy28, t34⟩ := h31
    subst qy28
    refine q_ifne (tgt := 28) cx ⟨by decide, by decide⟩ dX10_isAwake_5 (by decide) (fun c35 => ?_) (fun c35 => ?_)
    · exact absurd c35 (by omega)
    · refine q_ald_n cx dX10_isAwake_8 rfl (lv_at hl 0 rfl) ?_
      refine q_ild_n cx dX10_isAwake_9 rfl (lv_at hl 1 rfl) ?_
      refine q_cVl (As := [.int (q_i p0)]) (rest := []) cx hB (fun _ h => h) hN hv0 kv0 (by decide) rfl (f_tableOf0 l g hN hB.2.1 d0 s0 v0 hv0 kv0 p0 (by omega) (by omega) n0 hn0 kn0 l0 hl0 kl0 m0 hm0 km0 nn (by omega) (by omega) hf1 hr0 hr1 hr2 hw0 hz0) q_cX10_174 q_dX10_tableOf (by decide) rfl rfl hl.1 rfl (Nat.le_of_ble_eq_true rfl) dX10_isAwake_10 (fun y37 H locs f36 h38 hF hB => ?_)
      obtain ⟨rfl, t39⟩ := h38
      refine q_ald_n cx dX10_isAwake_13 rfl (lv_at hl 0 rfl) ?_
      refine q_ild_n cx dX10_isAwake_14 rfl (lv_at hl 1 rfl) ?_
      refine q_cVi (As := [.int (q_i p0)]) (rest := [.long y37]) cx hB (fun _ h => h) hN hv0 kv0 (by decide) rfl (f_dayOf0 l g hN hB.2.1 d0 s0 v0 hv0 kv0 p0 (by omega) (by omega) n0 hn0 kn0 l0 hl0 kl0 m0 hm0 km0 tm (by omega) (by omega) hf0 hr0 hr1 hr2 hw0) q_cX10_178 q_dX10_dayOf (by decide) rfl rfl hl.1 rfl (Nat.le_of_ble_eq_true rfl) dX10_isAwake_15 (fun y41 H locs f40 ry41 h42 hF hB => ?_)
      obtain ⟨rfl, ly41, uy41, t43⟩ := h42
      refine q_cSi (As := [.long y37, .int (q_i y41)]) (rest := []) cx hB (fun _ h => h) hN (f_hasDay l g hN hB.2.1 y37 y41 (by omega) (by omega)) q_cX10_170 q_dX10_hasDay (by decide) rfl rfl hl.1 rfl (Nat.le_of_ble_eq_true rfl) dX10_isAwake_18 (fun y45 H locs f44 ry45 h46 hF hB => ?_)
      rcases h46 with h47 | h48
      · obtain ⟨rfl, qy45, t49⟩ := h47
        subst qy45
        refine q_ifeq (tgt := 28) cx ⟨by decide, by decide⟩ dX10_isAwake_21 (by decide) (fun c50 => ?_) (fun c50 => ?_)
        · exact absurd c50 (by omega)
        · refine q_iconst cx dX10_isAwake_24 ?_
          refine lv_goto (tgt := 29) cx.1 cx.2.1 dX10_isAwake_25 (by decide) ?_
          refine q_zret cx hr hlk hB dX10_isAwake_29 (by decide) (by decide) ?_
          exact (Or.inl ⟨rfl, rfl, (by have t0_ : y37 = tw_tb s0 p0 := t39; have t1_ : y41 = tw_do s0 p0 := t43; have u0_ : tw_ou s0 p0 = 0 := t34; have u1_ : tw_hd (tw_tb s0 p0) (tw_do s0 p0) = 1 := (by have e9 := t49; simp only [t0_, t1_] at e9; exact e9); (try simp only [t0_, t1_]); unfold tw_aw; (repeat' split) <;> first | rfl | (exfalso; omega))⟩)
      · obtain ⟨rfl, qy45, t51⟩ := h48
        subst qy45
        refine q_ifeq (tgt := 28) cx ⟨by decide, by decide⟩ dX10_isAwake_21 (by decide) (fun c52 => ?_) (fun c52 => ?_)
        · refine q_iconst cx dX10_isAwake_28 ?_
          refine q_zret cx hr hlk hB dX10_isAwake_29 (by decide) (by decide) ?_
          exact (Or.inr ⟨rfl, rfl, (by have t0_ : y37 = tw_tb s0 p0 := t39; have t1_ : y41 = tw_do s0 p0 := t43; have u0_ : tw_ou s0 p0 = 0 := t34; have u1_ : tw_hd (tw_tb s0 p0) (tw_do s0 p0) = 0 := (by have e9 := t51; simp only [t0_, t1_] at e9; exact e9); (try simp only [t0_, t1_]); unfold tw_aw; (repeat' split) <;> first | rfl | (exfalso; omega))⟩)
        · exact absurd c52 (by omega)
set_option maxHeartbeats 4000000 in
set_option maxRecDepth 100000 in
theorem f_wakesAfter0 (l : Launch) (g : q_G) {K : Nat → Nat} {L : List Nat} (hN : L.Nodup) {f : Nat → va_E} (hT : q_Ty g K L f) (d0 : Nat → Nat) (s0 : tw_S) (v0 : Nat) (hv0 : v0 ∈ L) (kv0 : K v0 = 10) (p0 : Int) (lp0 : 0 ≤ p0) (up0 : p0 ≤ 9) (p1 : Int) (lp1 : 0 ≤ p1) (up1 : p1 ≤ 59) (p2 : Int) (lp2 : 0 ≤ p2) (up2 : p2 ≤ 400) (n0 : Nat) (hn0 : n0 ∈ L) (kn0 : K n0 = 110) (l0 : Nat) (hl0 : l0 ∈ L) (kl0 : K l0 = 120) (m0 : Nat) (hm0 : m0 ∈ L) (km0 : K m0 = 130) (tm : Int) (ltm : 0 ≤ tm) (utm : tm ≤ 20000) (nn : Int) (lnn : 0 ≤ nn) (unn : nn ≤ 10) (hf0 : q_is (q_z f v0 11) tm) (hf1 : q_is (q_z f v0 3) nn) (hr0 : q_ir (q_r f v0 0) n0) (hr1 : q_ir (q_r f v0 1) l0) (hr2 : q_ir (q_r f v0 2) m0) (hw0 : tw_vw K L 10 5 3 4 f v0 n0 l0 m0 d0 s0) (hz0 : tw_nw K L 5 f) : q_Ct l g K L yX10_wakesAfter cX10_wakesAfter 4 (some .boolean) 2 46 [.ref v0, .int (q_i p0), .int (q_i p1), .int (q_i p2)] f [] (q_Pi (fun (z : Int) (f1 : Nat → va_E) => (f = f1 ∧ z = 1 ∧ (tw_wa s0 p0 p1 p2 = 1)) ∨ (f = f1 ∧ z = 0 ∧ (tw_wa s0 p0 p1 p2 = 0)))) := by
  refine q_ofb (by decide +kernel) hN hT (Nat.le_of_ble_eq_true rfl) ?_
  intro p e s m below meth c ls cx hr hlk hB hl
  have hl : lv_has ls 4 [(0, .ref v0), (1, .int (q_i p0)), (2, .int (q_i p1)), (3, .int (q_i p2))] := hl
  obtain ⟨H, hH⟩ : ∃ H : Heap, H = s.heap := ⟨_, rfl⟩
  obtain ⟨locs, hlocs⟩ : ∃ z : List Loc, z = [] := ⟨_, rfl⟩
  rw [← hH, ← hlocs] at hB
  rw [← hH, ← hlocs]
  refine q_ald_n cx dX10_wakesAfter_0 rfl (lv_at hl 0 rfl) ?_
  refine q_ild_n cx dX10_wakesAfter_1 rfl (lv_at hl 1 rfl) ?_
  refine q_cVi (As := [.int (q_i p0)]) (rest := []) cx hB (fun _ h => h) hN hv0 kv0 (by decide) rfl (f_isOut0 l g hN hB.2.1 d0 s0 v0 hv0 kv0 p0 (by omega) (by omega) n0 hn0 kn0 l0 hl0 kl0 m0 hm0 km0 hr0 hr1 hr2 hw0) q_cX10_160 q_dX10_isOut (by decide) rfl rfl hl.1 rfl (Nat.le_of_ble_eq_true rfl) dX10_wakesAfter_2 (fun y30 H locs f29 ry30 h31 hF hB => ?_)
  rcases h31 with h32 | h33
  · obtain ⟨rfl, qy30, t34⟩ := h32
    subst qy30
    refine q_ifne (tgt := 35) cx ⟨by decide, by decide⟩ dX10_wakesAfter_5 (by decide) (fun c35 => ?_) (fun c35 => ?_)
    · refine q_iconst cx dX10_wakesAfter_35 ?_
      refine q_zret cx hr hlk hB dX10_wakesAfter_36 (by decide) (by decide) ?_
      exact (Or.inr ⟨rfl, rfl, (by have u0_ : tw_ou s0 p0 = 1 := t34; unfold tw_wa; (repeat' split) <;> first | rfl | (exfalso; omega))⟩)
    · exact absurd c35 (by omega)
  · obtain ⟨rfl, qy30, t36⟩ := h33
    subst qy30
    refine q_ifne (tgt := 35) cx ⟨by decide, by decide⟩ dX10_wakesAfter_5 (by decide) (fun c37 => ?_) (fun c37 => ?_)
    · exact absurd c37 (by omega)
    · refine q_ald_n cx dX10_wakesAfter_8 rfl (lv_at hl 0 rfl) ?_
      refine q_ild_n cx dX10_wakesAfter_9 rfl (lv_at hl 1 rfl) ?_
      refine q_cVl (As := [.int (q_i p0)]) (rest := []) cx hB (fun _ h => h) hN hv0 kv0 (by decide) rfl (f_tableOf0 l g hN hB.2.1 d0 s0 v0 hv0 kv0 p0 (by omega) (by omega) n0 hn0 kn0 l0 hl0 kl0 m0 hm0 km0 nn (by omega) (by omega) hf1 hr0 hr1 hr2 hw0 hz0) q_cX10_174 q_dX10_tableOf (by decide) rfl rfl hl.1 rfl (Nat.le_of_ble_eq_true rfl) dX10_wakesAfter_10 (fun y39 H locs f38 h40 hF hB => ?_)
      obtain ⟨rfl, t41⟩ := h40
      refine q_ald_n cx dX10_wakesAfter_13 rfl (lv_at hl 0 rfl) ?_
      refine q_ald_n cx dX10_wakesAfter_14 rfl (lv_at hl 0 rfl) ?_
      obtain ⟨x42, ex42, nx42⟩ : ∃ zz, q_is (q_z f v0 11) zz ∧ zz = tm := ⟨_, hf0, rfl⟩
      have sx42 : q_is x42 (s0 0 11) := tw_g hw0 (tw_v0 hw0) (by omega) (by omega) ex42
      refine q_gX10_60 cx hB hv0 kv0 ex42 dX10_wakesAfter_15 (fun lb43 ub43 => ?_)
      refine q_ild_n cx dX10_wakesAfter_18 rfl (lv_at hl 3 rfl) ?_
      refine q_iadd cx dX10_wakesAfter_19 ?_
      refine q_ild_n cx dX10_wakesAfter_20 rfl (lv_at hl 2 rfl) ?_
      refine q_iadd cx dX10_wakesAfter_21 ?_
      refine q_cVi (As := [.int (q_i ((x42 + p2) + p1))]) (rest := [.long y39]) cx hB (fun _ h => h) hN hv0 kv0 (by decide) rfl (f_dayOfYear0 l g hN hB.2.1 d0 s0 v0 hv0 kv0 ((x42 + p2) + p1) (by omega) (by omega) n0 hn0 kn0 l0 hl0 kl0 m0 hm0 km0 hr0 hr1 hr2 hw0) q_cX10_156 q_dX10_dayOfYear (by decide) rfl rfl hl.1 rfl (Nat.le_of_ble_eq_true rfl) dX10_wakesAfter_22 (fun y45 H locs f44 ry45 h46 hF hB => ?_)
      obtain ⟨rfl, ly45, uy45, t47⟩ := h46
      refine q_cSi (As := [.long y39, .int (q_i y45)]) (rest := []) cx hB (fun _ h => h) hN (f_hasDay l g hN hB.2.1 y39 y45 (by omega) (by omega)) q_cX10_170 q_dX10_hasDay (by decide) rfl rfl hl.1 rfl (Nat.le_of_ble_eq_true rfl) dX10_wakesAfter_25 (fun y49 H locs f48 ry49 h50 hF hB => ?_)
      rcases h50 with h51 | h52
      · obtain ⟨rfl, qy49, t53⟩ := h51
        subst qy49
        refine q_ifeq (tgt := 35) cx ⟨by decide, by decide⟩ dX10_wakesAfter_28 (by decide) (fun c54 => ?_) (fun c54 => ?_)
        · exact absurd c54 (by omega)
        · refine q_iconst cx dX10_wakesAfter_31 ?_
          refine lv_goto (tgt := 36) cx.1 cx.2.1 dX10_wakesAfter_32 (by decide) ?_
          refine q_zret cx hr hlk hB dX10_wakesAfter_36 (by decide) (by decide) ?_
          exact (Or.inl ⟨rfl, rfl, (by have t0_ : y39 = tw_tb s0 p0 := t41; have t1_ : x42 = s0 0 11 := sx42; have t2_ : y45 = tw_dy s0 (((s0 0 11) + p2) + p1) := Eq.trans t47 (by simp only [t1_]); have u0_ : tw_ou s0 p0 = 0 := t36; have u1_ : tw_hd (tw_tb s0 p0) (tw_dy s0 (((s0 0 11) + p2) + p1)) = 1 := (by have e9 := t53; simp only [t0_, t2_] at e9; exact e9); (try simp only [t0_, t1_, t2_]); unfold tw_wa; (repeat' split) <;> first | rfl | (exfalso; omega))⟩)
      · obtain ⟨rfl, qy49, t55⟩ := h52
        subst qy49
        refine q_ifeq (tgt := 35) cx ⟨by decide, by decide⟩ dX10_wakesAfter_28 (by decide) (fun c56 => ?_) (fun c56 => ?_)
        · refine q_iconst cx dX10_wakesAfter_35 ?_
          refine q_zret cx hr hlk hB dX10_wakesAfter_36 (by decide) (by decide) ?_
          exact (Or.inr ⟨rfl, rfl, (by have t0_ : y39 = tw_tb s0 p0 := t41; have t1_ : x42 = s0 0 11 := sx42; have t2_ : y45 = tw_dy s0 (((s0 0 11) + p2) + p1) := Eq.trans t47 (by simp only [t1_]); have u0_ : tw_ou s0 p0 = 0 := t36; have u1_ : tw_hd (tw_tb s0 p0) (tw_dy s0 (((s0 0 11) + p2) + p1)) = 0 := (by have e9 := t55; simp only [t0_, t2_] at e9; exact e9); (try simp only [t0_, t1_, t2_]); unfold tw_wa; (repeat' split) <;> first | rfl | (exfalso; omega))⟩)
        · exact absurd c56 (by omega)
set_option maxHeartbeats 4000000 in
set_option maxRecDepth 100000 in
theorem f_notOut0 (l : Launch) (g : q_G) {K : Nat → Nat} {L : List Nat} (hN : L.Nodup) {f : Nat → va_E} (hT : q_Ty g K L f) (d0 : Nat → Nat) (s0 : tw_S) (v0 : Nat) (hv0 : v0 ∈ L) (kv0 : K v0 = 10) (n0 : Nat) (hn0 : n0 ∈ L) (kn0 : K n0 = 110) (l0 : Nat) (hl0 : l0 ∈ L) (kl0 : K l0 = 120) (m0 : Nat) (hm0 : m0 ∈ L) (km0 : K m0 = 130) (nn : Int) (lnn : 0 ≤ nn) (unn : nn ≤ 10) (hf0 : q_is (q_z f v0 3) nn) (hr0 : q_ir (q_r f v0 0) n0) (hr1 : q_ir (q_r f v0 1) l0) (hr2 : q_ir (q_r f v0 2) m0) (hw0 : tw_vw K L 10 5 3 4 f v0 n0 l0 m0 d0 s0) : q_Ct l g K L yX10_notOut cX10_notOut 3 (some .int) 1 21 [.ref v0] f [] (q_Pi (fun (z : Int) (f1 : Nat → va_E) => f = f1 ∧ (z = tw_no s0))) := by
  refine q_ofb (by decide +kernel) hN hT (Nat.le_of_ble_eq_true rfl) ?_
  intro p e s m below meth c ls cx hr hlk hB hl
  have hl : lv_has ls 3 [(0, .ref v0)] := hl
  have J4 : ∀ (n : Nat) (v4_1 : Int) (lv4_1 : (-2147483648) ≤ v4_1) (uv4_1 : v4_1 ≤ 2147483647) (v4_2 : Int) (lv4_2 : 0 ≤ v4_2) (uv4_2 : v4_2 ≤ 10) (hj_v0_3 : q_is (q_z f v0 3) nn) (hq_v0_0 : q_ir (q_r f v0 0) n0) (hq_v0_1 : q_ir (q_r f v0 1) l0) (hq_v0_2 : q_ir (q_r f v0 2) m0) (hw04 : tw_vw K L 10 5 3 4 f v0 n0 l0 m0 d0 s0) (hrl4_0 : 0 ≤ 1 * nn + -1 * v4_2 + 0) (hac : v4_1 = tw_nol s0 (Int.toNat v4_2)) (hmu : (Int.toNat (2147483647 - v4_2)) < n) (H : Heap) (locs : List Loc) (hB : q_B g K L (fun q => q ∈ L) [] f f s H locs) (ls : Array Slot) (hl : lv_has ls 3 [(0, .ref v0), (1, .int (q_i v4_1)), (2, .int (q_i v4_2))]), W p l e { frames := 1, cells := 0, slots := 0, locals := 21 } s m ([.ref v0] : List Value).toArray below meth c H locs 0 0 (MQ below (q_Q g K L [] f (q_Pi (fun (z : Int) (f1 : Nat → va_E) => f = f1 ∧ (z = tw_no s0)))) ([.ref v0] : List Value).toArray s 0 0 (fun q => q ∈ L)) (F0 m 4 ls []) := by
    intro n
    induction n with
    | zero =>
      intro v4_1 lv4_1 uv4_1 v4_2 lv4_2 uv4_2 hj_v0_3 hq_v0_0 hq_v0_1 hq_v0_2 hw04 hrl4_0 hac hmu
      exact absurd hmu (Nat.not_lt_zero _)
    | succ n ih4 =>
      intro v4_1 lv4_1 uv4_1 v4_2 lv4_2 uv4_2 hj_v0_3 hq_v0_0 hq_v0_1 hq_v0_2 hw04 hrl4_0 hac hmu H locs hB ls hl
      refine q_ild_n cx dX10_notOut_4 rfl (lv_at hl 2 rfl) ?_
      refine q_ald_n cx dX10_notOut_5 rfl (lv_at hl 0 rfl) ?_
      obtain ⟨x131, ex131, nx131⟩ : ∃ zz, q_is (q_z f v0 3) zz ∧ zz = nn := ⟨_, hj_v0_3, rfl⟩
      have sx131 : q_is x131 (s0 0 3) := tw_g hw04 (tw_v0 hw0) (by omega) (by omega) ex131
      refine q_gX10_35 cx hB hv0 kv0 ex131 dX10_notOut_6 (fun lb132 ub132 => ?_)
      refine q_icge (tgt := 35) cx ⟨by omega, by omega⟩ ⟨by omega, by omega⟩ dX10_notOut_9 (by decide) (fun c133 => ?_) (fun c133 => ?_)
      · refine q_ild_n cx dX10_notOut_35 rfl (lv_at hl 1 rfl) ?_
        refine q_iret cx hr hlk hB dX10_notOut_36 ⟨by omega, by omega⟩ ?_
        exact ⟨rfl, (by have t0_ : v4_1 = tw_nol s0 (Int.toNat v4_2) := hac; have t1_ : x131 = s0 0 3 := sx131; have e9 : v4_2 = s0 0 3 := by omega; rw [hac, e9]; rfl)⟩
      · refine q_ald_n cx dX10_notOut_12 rfl (lv_at hl 0 rfl) ?_
        refine q_ild_n cx dX10_notOut_13 rfl (lv_at hl 2 rfl) ?_
        refine q_cVr (As := [.int (q_i v4_2)]) (rest := []) cx hB (fun _ h => h) hN hv0 kv0 (by decide) rfl (f_nodeAt0 l g hN hB.2.1 d0 s0 v0 hv0 kv0 v4_2 (by omega) (by omega) n0 hn0 kn0 l0 hl0 kl0 m0 hm0 km0 hq_v0_0 hq_v0_1 hq_v0_2 hw04) q_cX10_66 q_dX10_nodeAt (by decide) rfl rfl hl.1 rfl (Nat.le_of_ble_eq_true rfl) dX10_notOut_14 (fun y135 H locs f134 h136 hF hB => ?_)
        obtain ⟨rfl, hy135, ky135, t137⟩ := h136
        obtain ⟨x138, ex138⟩ : ∃ zz, q_is (q_z f y135 4) zz := ⟨_, q_isr _⟩
        obtain ⟨lx138, ux138⟩ := q_isb ex138 (q_fib hB.2.1 hy135 ky135 (by decide) rfl)
        obtain ⟨x139, ex139, nx139⟩ : ∃ zz, q_is (q_z f y135 4) zz ∧ zz = x138 := ⟨_, ex138, rfl⟩
        have sx139 : q_is x139 (s0 (1 + Int.toNat v4_2) 4) := tw_g hw04 t137 (by omega) (by omega) ex139
        refine q_gX10_101 cx hB hy135 ky135 ex139 dX10_notOut_17 (fun lb140 ub140 => ?_)
        refine q_ifle (tgt := 29) cx ⟨by omega, by omega⟩ dX10_notOut_20 (by decide) (fun c141 => ?_) (fun c141 => ?_)
        · refine q_iinc (lv' := [(2, .int (q_i (v4_2 + 1))), (0, .ref v0), (1, .int (q_i v4_1))]) cx dX10_notOut_29 hl (k := 2) rfl (by decide) rfl (fun ls hl => ?_)
          refine lv_goto (tgt := 4) cx.1 cx.2.1 dX10_notOut_32 (by decide) ?_
          exact ih4 v4_1 (by omega) (by omega) (v4_2 + 1) (by omega) (by omega) hj_v0_3 hq_v0_0 hq_v0_1 hq_v0_2 hw04 (by omega) (by have t0_ : v4_1 = tw_nol s0 (Int.toNat v4_2) := hac; have t1_ : x131 = s0 0 3 := sx131; have t2_ : x139 = s0 (1 + Int.toNat v4_2) 4 := sx139; (try simp only [t0_, t1_, t2_]); rw [tw_nol_s (by omega)]; (repeat' split) <;> first | rfl | (exfalso; omega)) (by omega) H locs hB ls (lv_sub hl [1, 2, 0] rfl)
        · refine q_ild_n cx dX10_notOut_23 rfl (lv_at hl 1 rfl) ?_
          refine q_iconst cx dX10_notOut_24 ?_
          refine q_ild_n cx dX10_notOut_25 rfl (lv_at hl 2 rfl) ?_
          refine q_ishl cx dX10_notOut_26 (fun y142 ry142 ey142 => ?_)
          refine q_ior cx dX10_notOut_27 (fun y143 ry143 ey143 => ?_)
          refine lv_istore_n (lv' := [(1, .int (q_i y143)), (0, .ref v0), (2, .int (q_i v4_2))]) cx.1 cx.2.1 dX10_notOut_28 rfl hl (by decide) rfl (fun ls hl => ?_)
          refine q_iinc (lv' := [(2, .int (q_i (v4_2 + 1))), (1, .int (q_i y143)), (0, .ref v0)]) cx dX10_notOut_29 hl (k := 2) rfl (by decide) rfl (fun ls hl => ?_)
          refine lv_goto (tgt := 4) cx.1 cx.2.1 dX10_notOut_32 (by decide) ?_
          exact ih4 y143 (by omega) (by omega) (v4_2 + 1) (by omega) (by omega) hj_v0_3 hq_v0_0 hq_v0_1 hq_v0_2 hw04 (by omega) (by have t0_ : v4_1 = tw_nol s0 (Int.toNat v4_2) := hac; have t1_ : x131 = s0 0 3 := sx131; have t2_ : x139 = s0 (1 + Int.toNat v4_2) 4 := sx139; have t3_ : y142 = tw_sl 1 v4_2 := (tw_sl_of ry142 ey142); have t4_ : y143 = tw_or (tw_nol s0 (Int.toNat v4_2)) (tw_sl 1 v4_2) := Eq.trans (tw_or_of ry143 ey143) (by simp only [t0_, t3_]); (try simp only [t0_, t1_, t2_, t3_, t4_]); rw [tw_nol_s (by omega)]; (repeat' split) <;> first | rfl | (exfalso; omega)) (by omega) H locs hB ls (lv_sub hl [2, 1, 0] rfl)
  obtain ⟨H, hH⟩ : ∃ H : Heap, H = s.heap := ⟨_, rfl⟩
  obtain ⟨locs, hlocs⟩ : ∃ z : List Loc, z = [] := ⟨_, rfl⟩
  rw [← hH, ← hlocs] at hB
  rw [← hH, ← hlocs]
  refine q_iconst cx dX10_notOut_0 ?_
  refine lv_istore_n (lv' := [(1, .int (q_i 0)), (0, .ref v0)]) cx.1 cx.2.1 dX10_notOut_1 rfl hl (by decide) rfl (fun ls hl => ?_)
  refine q_iconst cx dX10_notOut_2 ?_
  refine lv_istore_n (lv' := [(2, .int (q_i 0)), (1, .int (q_i 0)), (0, .ref v0)]) cx.1 cx.2.1 dX10_notOut_3 rfl hl (by decide) rfl (fun ls hl => ?_)
  exact J4 ((Int.toNat (2147483647 - 0)) + 1) 0 (by decide) (by decide) 0 (by decide) (by decide) hf0 hr0 hr1 hr2 hw0 (by omega) rfl (Nat.lt_succ_self _) H locs hB ls (lv_sub hl [2, 1, 0] rfl)
set_option maxHeartbeats 4000000 in
set_option maxRecDepth 100000 in
theorem f_awakeAfter0 (l : Launch) (g : q_G) {K : Nat → Nat} {L : List Nat} (hN : L.Nodup) {f : Nat → va_E} (hT : q_Ty g K L f) (d0 : Nat → Nat) (s0 : tw_S) (v0 : Nat) (hv0 : v0 ∈ L) (kv0 : K v0 = 10) (p0 : Int) (lp0 : 0 ≤ p0) (up0 : p0 ≤ 400) (n0 : Nat) (hn0 : n0 ∈ L) (kn0 : K n0 = 110) (l0 : Nat) (hl0 : l0 ∈ L) (kl0 : K l0 = 120) (m0 : Nat) (hm0 : m0 ∈ L) (km0 : K m0 = 130) (tm : Int) (ltm : 0 ≤ tm) (utm : tm ≤ 20000) (nn : Int) (lnn : 0 ≤ nn) (unn : nn ≤ 10) (hf0 : q_is (q_z f v0 11) tm) (hf1 : q_is (q_z f v0 3) nn) (hr0 : q_ir (q_r f v0 0) n0) (hr1 : q_ir (q_r f v0 1) l0) (hr2 : q_ir (q_r f v0 2) m0) (hw0 : tw_vw K L 10 5 3 4 f v0 n0 l0 m0 d0 s0) (hz0 : tw_nw K L 5 f) : q_Ct l g K L yX10_awakeAfter cX10_awakeAfter 4 (some .int) 3 69 [.ref v0, .int (q_i p0)] f [] (q_Pi (fun (z : Int) (f1 : Nat → va_E) => f = f1 ∧ (z = tw_aa s0 p0))) := by
  refine q_ofb (by decide +kernel) hN hT (Nat.le_of_ble_eq_true rfl) ?_
  intro p e s m below meth c ls cx hr hlk hB hl
  have hl : lv_has ls 4 [(0, .ref v0), (1, .int (q_i p0))] := hl
  have J4 : ∀ (n : Nat) (v4_1 : Int) (lv4_1 : 0 ≤ v4_1) (uv4_1 : v4_1 ≤ 400) (v4_2 : Int) (lv4_2 : (-2147483648) ≤ v4_2) (uv4_2 : v4_2 ≤ 2147483647) (v4_3 : Int) (lv4_3 : 0 ≤ v4_3) (uv4_3 : v4_3 ≤ 10) (hj_v0_11 : q_is (q_z f v0 11) tm) (hj_v0_3 : q_is (q_z f v0 3) nn) (hq_v0_0 : q_ir (q_r f v0 0) n0) (hq_v0_1 : q_ir (q_r f v0 1) l0) (hq_v0_2 : q_ir (q_r f v0 2) m0) (hw04 : tw_vw K L 10 5 3 4 f v0 n0 l0 m0 d0 s0) (hz04 : tw_nw K L 5 f) (hrl4_0 : 0 ≤ 1 * nn + -1 * v4_3 + 0) (hac : v4_2 = tw_aal s0 p0 (Int.toNat v4_3)) (hmu : (Int.toNat (2147483647 - v4_3)) < n) (H : Heap) (locs : List Loc) (hB : q_B g K L (fun q => q ∈ L) [] f f s H locs) (ls : Array Slot) (hl : lv_has ls 4 [(0, .ref v0), (1, .int (q_i v4_1)), (2, .int (q_i v4_2)), (3, .int (q_i v4_3))]), W p l e { frames := 3, cells := 0, slots := 0, locals := 69 } s m ([.ref v0, .int (q_i p0)] : List Value).toArray below meth c H locs 0 0 (MQ below (q_Q g K L [] f (q_Pi (fun (z : Int) (f1 : Nat → va_E) => f = f1 ∧ (z = tw_aa s0 p0)))) ([.ref v0, .int (q_i p0)] : List Value).toArray s 0 0 (fun q => q ∈ L)) (F0 m 4 ls []) := by
    intro n
    induction n with
    | zero =>
      intro v4_1 lv4_1 uv4_1 v4_2 lv4_2 uv4_2 v4_3 lv4_3 uv4_3 hj_v0_11 hj_v0_3 hq_v0_0 hq_v0_1 hq_v0_2 hw04 hz04 hrl4_0 hac hmu
      exact absurd hmu (Nat.not_lt_zero _)
    | succ n ih4 =>
      intro v4_1 lv4_1 uv4_1 v4_2 lv4_2 uv4_2 v4_3 lv4_3 uv4_3 hj_v0_11 hj_v0_3 hq_v0_0 hq_v0_1 hq_v0_2 hw04 hz04 hrl4_0 hac hmu H locs hB ls hl
      refine q_ild_n cx dX10_awakeAfter_4 rfl (lv_at hl 3 rfl) ?_
      refine q_ald_n cx dX10_awakeAfter_5 rfl (lv_at hl 0 rfl) ?_
      obtain ⟨x211, ex211, nx211⟩ : ∃ zz, q_is (q_z f v0 3) zz ∧ zz = nn := ⟨_, hj_v0_3, rfl⟩
      have sx211 : q_is x211 (s0 0 3) := tw_g hw04 (tw_v0 hw0) (by omega) (by omega) ex211
      refine q_gX10_35 cx hB hv0 kv0 ex211 dX10_awakeAfter_6 (fun lb212 ub212 => ?_)
      refine q_icge (tgt := 41) cx ⟨by omega, by omega⟩ ⟨by omega, by omega⟩ dX10_awakeAfter_9 (by decide) (fun c213 => ?_) (fun c213 => ?_)
      · refine q_ild_n cx dX10_awakeAfter_41 rfl (lv_at hl 2 rfl) ?_
        refine q_iret cx hr hlk hB dX10_awakeAfter_42 ⟨by omega, by omega⟩ ?_
        exact ⟨rfl, (by have t0_ : v4_2 = tw_aal s0 p0 (Int.toNat v4_3) := hac; have t1_ : x211 = s0 0 3 := sx211; have e9 : v4_3 = s0 0 3 := by omega; rw [hac, e9]; rfl)⟩
      · refine q_ald_n cx dX10_awakeAfter_12 rfl (lv_at hl 0 rfl) ?_
        refine q_ild_n cx dX10_awakeAfter_13 rfl (lv_at hl 3 rfl) ?_
        refine q_ald_n cx dX10_awakeAfter_14 rfl (lv_at hl 0 rfl) ?_
        refine q_ild_n cx dX10_awakeAfter_15 rfl (lv_at hl 3 rfl) ?_
        refine q_cVr (As := [.int (q_i v4_3)]) (rest := [.int (q_i v4_3), .ref v0]) cx hB (fun _ h => h) hN hv0 kv0 (by decide) rfl (f_nodeAt0 l g hN hB.2.1 d0 s0 v0 hv0 kv0 v4_3 (by omega) (by omega) n0 hn0 kn0 l0 hl0 kl0 m0 hm0 km0 hq_v0_0 hq_v0_1 hq_v0_2 hw04) q_cX10_66 q_dX10_nodeAt (by decide) rfl rfl hl.1 rfl (Nat.le_of_ble_eq_true rfl) dX10_awakeAfter_16 (fun y215 H locs f214 h216 hF hB => ?_)
        obtain ⟨rfl, hy215, ky215, t217⟩ := h216
        obtain ⟨x218, ex218⟩ : ∃ zz, q_is (q_z f y215 3) zz := ⟨_, q_isr _⟩
        obtain ⟨lx218, ux218⟩ := q_isb ex218 (q_fib hB.2.1 hy215 ky215 (by decide) rfl)
        obtain ⟨x219, ex219, nx219⟩ : ∃ zz, q_is (q_z f y215 3) zz ∧ zz = x218 := ⟨_, ex218, rfl⟩
        have sx219 : q_is x219 (s0 (1 + Int.toNat v4_3) 3) := tw_g hw04 t217 (by omega) (by omega) ex219
        refine q_gX10_98 cx hB hy215 ky215 ex219 dX10_awakeAfter_19 (fun lb220 ub220 => ?_)
        refine q_ild_n cx dX10_awakeAfter_22 rfl (lv_at hl 1 rfl) ?_
        refine q_cVi (As := [.int (q_i v4_3), .int (q_i x219), .int (q_i v4_1)]) (rest := []) cx hB (fun _ h => h) hN hv0 kv0 (by decide) rfl (f_wakesAfter0 l g hN hB.2.1 d0 s0 v0 hv0 kv0 v4_3 (by omega) (by omega) x219 (by omega) (by omega) v4_1 (by omega) (by omega) n0 hn0 kn0 l0 hl0 kl0 m0 hm0 km0 tm (by omega) (by omega) nn (by omega) (by omega) hj_v0_11 hj_v0_3 hq_v0_0 hq_v0_1 hq_v0_2 hw04 hz04) q_cX10_214 q_dX10_wakesAfter (by decide) rfl rfl hl.1 rfl (Nat.le_of_ble_eq_true rfl) dX10_awakeAfter_23 (fun y222 H locs f221 ry222 h223 hF hB => ?_)
        rcases h223 with h224 | h225
        · obtain ⟨rfl, qy222, t226⟩ := h224
          subst qy222
          refine q_ifeq (tgt := 35) cx ⟨by decide, by decide⟩ dX10_awakeAfter_26 (by decide) (fun c227 => ?_) (fun c227 => ?_)
          · exact absurd c227 (by omega)
          · refine q_ild_n cx dX10_awakeAfter_29 rfl (lv_at hl 2 rfl) ?_
            refine q_iconst cx dX10_awakeAfter_30 ?_
            refine q_ild_n cx dX10_awakeAfter_31 rfl (lv_at hl 3 rfl) ?_
            refine q_ishl cx dX10_awakeAfter_32 (fun y228 ry228 ey228 => ?_)
            refine q_ior cx dX10_awakeAfter_33 (fun y229 ry229 ey229 => ?_)
            refine lv_istore_n (lv' := [(2, .int (q_i y229)), (0, .ref v0), (1, .int (q_i v4_1)), (3, .int (q_i v4_3))]) cx.1 cx.2.1 dX10_awakeAfter_34 rfl hl (by decide) rfl (fun ls hl => ?_)
            refine q_iinc (lv' := [(3, .int (q_i (v4_3 + 1))), (2, .int (q_i y229)), (0, .ref v0), (1, .int (q_i v4_1))]) cx dX10_awakeAfter_35 hl (k := 3) rfl (by decide) rfl (fun ls hl => ?_)
            refine lv_goto (tgt := 4) cx.1 cx.2.1 dX10_awakeAfter_38 (by decide) ?_
            exact ih4 v4_1 (by omega) (by omega) y229 (by omega) (by omega) (v4_3 + 1) (by omega) (by omega) hj_v0_11 hj_v0_3 hq_v0_0 hq_v0_1 hq_v0_2 hw04 hz04 (by omega) (by have t0_ : v4_2 = tw_aal s0 p0 (Int.toNat v4_3) := hac; have t1_ : x211 = s0 0 3 := sx211; have t2_ : x219 = s0 (1 + Int.toNat v4_3) 3 := sx219; have t3_ : y228 = tw_sl 1 v4_3 := (tw_sl_of ry228 ey228); have t4_ : y229 = tw_or (tw_aal s0 p0 (Int.toNat v4_3)) (tw_sl 1 v4_3) := Eq.trans (tw_or_of ry229 ey229) (by simp only [t0_, t3_]); have u0_ : tw_wa s0 v4_3 (s0 (1 + Int.toNat v4_3) 3) v4_1 = 1 := (by have e9 := t226; simp only [t2_] at e9; exact e9); (try simp only [t0_, t1_, t2_, t3_, t4_]); rw [tw_aal_s (by omega)]; (repeat' split) <;> first | rfl | (exfalso; omega)) (by omega) H locs hB ls (lv_sub hl [2, 3, 1, 0] rfl)
        · obtain ⟨rfl, qy222, t230⟩ := h225
          subst qy222
          refine q_ifeq (tgt := 35) cx ⟨by decide, by decide⟩ dX10_awakeAfter_26 (by decide) (fun c231 => ?_) (fun c231 => ?_)
          · refine q_iinc (lv' := [(3, .int (q_i (v4_3 + 1))), (0, .ref v0), (1, .int (q_i v4_1)), (2, .int (q_i v4_2))]) cx dX10_awakeAfter_35 hl (k := 3) rfl (by decide) rfl (fun ls hl => ?_)
            refine lv_goto (tgt := 4) cx.1 cx.2.1 dX10_awakeAfter_38 (by decide) ?_
            exact ih4 v4_1 (by omega) (by omega) v4_2 (by omega) (by omega) (v4_3 + 1) (by omega) (by omega) hj_v0_11 hj_v0_3 hq_v0_0 hq_v0_1 hq_v0_2 hw04 hz04 (by omega) (by have t0_ : v4_2 = tw_aal s0 p0 (Int.toNat v4_3) := hac; have t1_ : x211 = s0 0 3 := sx211; have t2_ : x219 = s0 (1 + Int.toNat v4_3) 3 := sx219; have u0_ : tw_wa s0 v4_3 (s0 (1 + Int.toNat v4_3) 3) v4_1 = 0 := (by have e9 := t230; simp only [t2_] at e9; exact e9); (try simp only [t0_, t1_, t2_]); rw [tw_aal_s (by omega)]; (repeat' split) <;> first | rfl | (exfalso; omega)) (by omega) H locs hB ls (lv_sub hl [1, 2, 3, 0] rfl)
          · exact absurd c231 (by omega)
  obtain ⟨H, hH⟩ : ∃ H : Heap, H = s.heap := ⟨_, rfl⟩
  obtain ⟨locs, hlocs⟩ : ∃ z : List Loc, z = [] := ⟨_, rfl⟩
  rw [← hH, ← hlocs] at hB
  rw [← hH, ← hlocs]
  refine q_iconst cx dX10_awakeAfter_0 ?_
  refine lv_istore_n (lv' := [(2, .int (q_i 0)), (0, .ref v0), (1, .int (q_i p0))]) cx.1 cx.2.1 dX10_awakeAfter_1 rfl hl (by decide) rfl (fun ls hl => ?_)
  refine q_iconst cx dX10_awakeAfter_2 ?_
  refine lv_istore_n (lv' := [(3, .int (q_i 0)), (2, .int (q_i 0)), (0, .ref v0), (1, .int (q_i p0))]) cx.1 cx.2.1 dX10_awakeAfter_3 rfl hl (by decide) rfl (fun ls hl => ?_)
  exact J4 ((Int.toNat (2147483647 - 0)) + 1) p0 (by omega) (by omega) 0 (by decide) (by decide) 0 (by decide) (by decide) hf0 hf1 hr0 hr1 hr2 hw0 hz0 (by omega) rfl (Nat.lt_succ_self _) H locs hB ls (lv_sub hl [2, 3, 1, 0] rfl)
set_option maxHeartbeats 4000000 in
set_option maxRecDepth 100000 in
theorem f_messagesInState0 (l : Launch) (g : q_G) {K : Nat → Nat} {L : List Nat} (hN : L.Nodup) {f : Nat → va_E} (hT : q_Ty g K L f) (d0 : Nat → Nat) (s0 : tw_S) (v0 : Nat) (hv0 : v0 ∈ L) (kv0 : K v0 = 10) (p0 : Int) (lp0 : 0 ≤ p0) (up0 : p0 ≤ 2) (n0 : Nat) (hn0 : n0 ∈ L) (kn0 : K n0 = 110) (l0 : Nat) (hl0 : l0 ∈ L) (kl0 : K l0 = 120) (m0 : Nat) (hm0 : m0 ∈ L) (km0 : K m0 = 130) (mn : Int) (lmn : 0 ≤ mn) (umn : mn ≤ 61) (hf0 : q_is (q_z f v0 5) mn) (hr0 : q_ir (q_r f v0 0) n0) (hr1 : q_ir (q_r f v0 1) l0) (hr2 : q_ir (q_r f v0 2) m0) (hw0 : tw_vw K L 10 5 3 4 f v0 n0 l0 m0 d0 s0) : q_Ct l g K L yX10_messagesInState cX10_messagesInState 4 (some .int) 1 21 [.ref v0, .int (q_i p0)] f [] (q_Pi (fun (z : Int) (f1 : Nat → va_E) => f = f1 ∧ 0 ≤ z ∧ z ≤ 61 ∧ (z = tw_isl s0 p0 (Int.toNat (s0 0 5))))) := by
  refine q_ofb (by decide +kernel) hN hT (Nat.le_of_ble_eq_true rfl) ?_
  intro p e s m below meth c ls cx hr hlk hB hl
  have hl : lv_has ls 4 [(0, .ref v0), (1, .int (q_i p0))] := hl
  have J4 : ∀ (n : Nat) (v4_1 : Int) (lv4_1 : 0 ≤ v4_1) (uv4_1 : v4_1 ≤ 2) (v4_2 : Int) (lv4_2 : 0 ≤ v4_2) (uv4_2 : v4_2 ≤ 61) (v4_3 : Int) (lv4_3 : 0 ≤ v4_3) (uv4_3 : v4_3 ≤ 61) (hj_v0_5 : q_is (q_z f v0 5) mn) (hq_v0_0 : q_ir (q_r f v0 0) n0) (hq_v0_1 : q_ir (q_r f v0 1) l0) (hq_v0_2 : q_ir (q_r f v0 2) m0) (hw04 : tw_vw K L 10 5 3 4 f v0 n0 l0 m0 d0 s0) (hrl4_0 : 0 ≤ 1 * mn + -1 * v4_3 + 0) (hrl4_1 : 0 ≤ 1 * v4_3 + -1 * v4_2 + 0) (hac : v4_2 = tw_isl s0 p0 (Int.toNat v4_3)) (hmu : (Int.toNat (2147483647 - v4_2)) < n) (H : Heap) (locs : List Loc) (hB : q_B g K L (fun q => q ∈ L) [] f f s H locs) (ls : Array Slot) (hl : lv_has ls 4 [(0, .ref v0), (1, .int (q_i v4_1)), (2, .int (q_i v4_2)), (3, .int (q_i v4_3))]), W p l e { frames := 1, cells := 0, slots := 0, locals := 21 } s m ([.ref v0, .int (q_i p0)] : List Value).toArray below meth c H locs 0 0 (MQ below (q_Q g K L [] f (q_Pi (fun (z : Int) (f1 : Nat → va_E) => f = f1 ∧ 0 ≤ z ∧ z ≤ 61 ∧ (z = tw_isl s0 p0 (Int.toNat (s0 0 5)))))) ([.ref v0, .int (q_i p0)] : List Value).toArray s 0 0 (fun q => q ∈ L)) (F0 m 4 ls []) := by
    intro n
    induction n with
    | zero =>
      intro v4_1 lv4_1 uv4_1 v4_2 lv4_2 uv4_2 v4_3 lv4_3 uv4_3 hj_v0_5 hq_v0_0 hq_v0_1 hq_v0_2 hw04 hrl4_0 hrl4_1 hac hmu
      exact absurd hmu (Nat.not_lt_zero _)
    | succ n ih4 =>
      intro v4_1 lv4_1 uv4_1 v4_2 lv4_2 uv4_2 v4_3 lv4_3 uv4_3 hj_v0_5 hq_v0_0 hq_v0_1 hq_v0_2 hw04 hrl4_0 hrl4_1 hac hmu H locs hB ls hl
      refine q_ild_n cx dX10_messagesInState_4 rfl (lv_at hl 3 rfl) ?_
      refine q_ald_n cx dX10_messagesInState_5 rfl (lv_at hl 0 rfl) ?_
      obtain ⟨x232, ex232, nx232⟩ : ∃ zz, q_is (q_z f v0 5) zz ∧ zz = mn := ⟨_, hj_v0_5, rfl⟩
      have sx232 : q_is x232 (s0 0 5) := tw_g hw04 (tw_v0 hw0) (by omega) (by omega) ex232
      refine q_gX10_42 cx hB hv0 kv0 ex232 dX10_messagesInState_6 (fun lb233 ub233 => ?_)
      refine q_icge (tgt := 33) cx ⟨by omega, by omega⟩ ⟨by omega, by omega⟩ dX10_messagesInState_9 (by decide) (fun c234 => ?_) (fun c234 => ?_)
      · refine q_ild_n cx dX10_messagesInState_33 rfl (lv_at hl 2 rfl) ?_
        refine q_iret cx hr hlk hB dX10_messagesInState_34 ⟨by omega, by omega⟩ ?_
        exact ⟨rfl, (by omega), (by omega), (by have t0_ : v4_2 = tw_isl s0 p0 (Int.toNat v4_3) := hac; have t1_ : x232 = s0 0 5 := sx232; have e9 : v4_3 = s0 0 5 := by omega; rw [hac, e9]; rfl)⟩
      · refine q_ald_n cx dX10_messagesInState_12 rfl (lv_at hl 0 rfl) ?_
        refine q_ild_n cx dX10_messagesInState_13 rfl (lv_at hl 3 rfl) ?_
        refine q_cVr (As := [.int (q_i v4_3)]) (rest := []) cx hB (fun _ h => h) hN hv0 kv0 (by decide) rfl (f_messageAt0 l g hN hB.2.1 d0 s0 v0 hv0 kv0 v4_3 (by omega) (by omega) n0 hn0 kn0 l0 hl0 kl0 m0 hm0 km0 hq_v0_0 hq_v0_1 hq_v0_2 hw04) q_cX10_81 q_dX10_messageAt (by decide) rfl rfl hl.1 rfl (Nat.le_of_ble_eq_true rfl) dX10_messagesInState_14 (fun y236 H locs f235 h237 hF hB => ?_)
        obtain ⟨rfl, hy236, ky236, t238⟩ := h237
        obtain ⟨x239, ex239⟩ : ∃ zz, q_is (q_z f y236 3) zz := ⟨_, q_isr _⟩
        obtain ⟨lx239, ux239⟩ := q_isb ex239 (q_fib hB.2.1 hy236 ky236 (by decide) rfl)
        obtain ⟨x240, ex240, nx240⟩ : ∃ zz, q_is (q_z f y236 3) zz ∧ zz = x239 := ⟨_, ex239, rfl⟩
        have sx240 : q_is x240 (s0 (27 + Int.toNat v4_3) 3) := tw_g hw04 t238 (by omega) (by omega) ex240
        refine q_gX10_140 cx hB hy236 ky236 ex240 dX10_messagesInState_17 (fun lb241 ub241 => ?_)
        refine q_ild_n cx dX10_messagesInState_20 rfl (lv_at hl 1 rfl) ?_
        refine q_icne (tgt := 27) cx ⟨by omega, by omega⟩ ⟨by omega, by omega⟩ dX10_messagesInState_21 (by decide) (fun c242 => ?_) (fun c242 => ?_)
        · refine q_iinc (lv' := [(3, .int (q_i (v4_3 + 1))), (0, .ref v0), (1, .int (q_i v4_1)), (2, .int (q_i v4_2))]) cx dX10_messagesInState_27 hl (k := 3) rfl (by decide) rfl (fun ls hl => ?_)
          refine lv_goto (tgt := 4) cx.1 cx.2.1 dX10_messagesInState_30 (by decide) ?_
          exact ih4 v4_1 (by omega) (by omega) v4_2 (by omega) (by omega) (v4_3 + 1) (by omega) (by omega) hj_v0_5 hq_v0_0 hq_v0_1 hq_v0_2 hw04 (by omega) (by omega) (by have t0_ : v4_2 = tw_isl s0 p0 (Int.toNat v4_3) := hac; have t1_ : x232 = s0 0 5 := sx232; have t2_ : x240 = s0 (27 + Int.toNat v4_3) 3 := sx240; (try simp only [t0_, t1_, t2_]); rw [tw_isl_s (by omega)]; (repeat' split) <;> first | rfl | (exfalso; omega)) (by omega) H locs hB ls (lv_sub hl [1, 2, 3, 0] rfl)
        · refine q_iinc (lv' := [(2, .int (q_i (v4_2 + 1))), (0, .ref v0), (1, .int (q_i v4_1)), (3, .int (q_i v4_3))]) cx dX10_messagesInState_24 hl (k := 2) rfl (by decide) rfl (fun ls hl => ?_)
          refine q_iinc (lv' := [(3, .int (q_i (v4_3 + 1))), (2, .int (q_i (v4_2 + 1))), (0, .ref v0), (1, .int (q_i v4_1))]) cx dX10_messagesInState_27 hl (k := 3) rfl (by decide) rfl (fun ls hl => ?_)
          refine lv_goto (tgt := 4) cx.1 cx.2.1 dX10_messagesInState_30 (by decide) ?_
          exact ih4 v4_1 (by omega) (by omega) (v4_2 + 1) (by omega) (by omega) (v4_3 + 1) (by omega) (by omega) hj_v0_5 hq_v0_0 hq_v0_1 hq_v0_2 hw04 (by omega) (by omega) (by have t0_ : v4_2 = tw_isl s0 p0 (Int.toNat v4_3) := hac; have t1_ : x232 = s0 0 5 := sx232; have t2_ : x240 = s0 (27 + Int.toNat v4_3) 3 := sx240; (try simp only [t0_, t1_, t2_]); rw [tw_isl_s (by omega)]; (repeat' split) <;> first | rfl | (exfalso; omega)) (by omega) H locs hB ls (lv_sub hl [2, 3, 1, 0] rfl)
  obtain ⟨H, hH⟩ : ∃ H : Heap, H = s.heap := ⟨_, rfl⟩
  obtain ⟨locs, hlocs⟩ : ∃ z : List Loc, z = [] := ⟨_, rfl⟩
  rw [← hH, ← hlocs] at hB
  rw [← hH, ← hlocs]
  refine q_iconst cx dX10_messagesInState_0 ?_
  refine lv_istore_n (lv' := [(2, .int (q_i 0)), (0, .ref v0), (1, .int (q_i p0))]) cx.1 cx.2.1 dX10_messagesInState_1 rfl hl (by decide) rfl (fun ls hl => ?_)
  refine q_iconst cx dX10_messagesInState_2 ?_
  refine lv_istore_n (lv' := [(3, .int (q_i 0)), (2, .int (q_i 0)), (0, .ref v0), (1, .int (q_i p0))]) cx.1 cx.2.1 dX10_messagesInState_3 rfl hl (by decide) rfl (fun ls hl => ?_)
  exact J4 ((Int.toNat (2147483647 - 0)) + 1) p0 (by omega) (by omega) 0 (by decide) (by decide) 0 (by decide) (by decide) hf0 hr0 hr1 hr2 hw0 (by omega) (by omega) rfl (Nat.lt_succ_self _) H locs hB ls (lv_sub hl [2, 3, 1, 0] rfl)
set_option maxHeartbeats 4000000 in
set_option maxRecDepth 100000 in
theorem f_messagesInTime0 (l : Launch) (g : q_G) {K : Nat → Nat} {L : List Nat} (hN : L.Nodup) {f : Nat → va_E} (hT : q_Ty g K L f) (d0 : Nat → Nat) (s0 : tw_S) (v0 : Nat) (hv0 : v0 ∈ L) (kv0 : K v0 = 10) (n0 : Nat) (hn0 : n0 ∈ L) (kn0 : K n0 = 110) (l0 : Nat) (hl0 : l0 ∈ L) (kl0 : K l0 = 120) (m0 : Nat) (hm0 : m0 ∈ L) (km0 : K m0 = 130) (mn : Int) (lmn : 0 ≤ mn) (umn : mn ≤ 61) (hf0 : q_is (q_z f v0 5) mn) (hr0 : q_ir (q_r f v0 0) n0) (hr1 : q_ir (q_r f v0 1) l0) (hr2 : q_ir (q_r f v0 2) m0) (hw0 : tw_vw K L 10 5 3 4 f v0 n0 l0 m0 d0 s0) : q_Ct l g K L yX10_messagesInTime cX10_messagesInTime 4 (some .int) 1 21 [.ref v0] f [] (q_Pi (fun (z : Int) (f1 : Nat → va_E) => f = f1 ∧ 0 ≤ z ∧ z ≤ 61 ∧ (z = tw_itl s0 (Int.toNat (s0 0 5))))) := by
  refine q_ofb (by decide +kernel) hN hT (Nat.le_of_ble_eq_true rfl) ?_
  intro p e s m below meth c ls cx hr hlk hB hl
  have hl : lv_has ls 4 [(0, .ref v0)] := hl
  have J4 : ∀ (n : Nat) (v4_1 : Int) (lv4_1 : 0 ≤ v4_1) (uv4_1 : v4_1 ≤ 61) (v4_2 : Int) (lv4_2 : 0 ≤ v4_2) (uv4_2 : v4_2 ≤ 61) (hj_v0_5 : q_is (q_z f v0 5) mn) (hq_v0_0 : q_ir (q_r f v0 0) n0) (hq_v0_1 : q_ir (q_r f v0 1) l0) (hq_v0_2 : q_ir (q_r f v0 2) m0) (hw04 : tw_vw K L 10 5 3 4 f v0 n0 l0 m0 d0 s0) (hrl4_0 : 0 ≤ 1 * mn + -1 * v4_2 + 0) (hrl4_1 : 0 ≤ 1 * v4_2 + -1 * v4_1 + 0) (hac : v4_1 = tw_itl s0 (Int.toNat v4_2)) (hmu : (Int.toNat (2147483647 - v4_1)) < n) (H : Heap) (locs : List Loc) (hB : q_B g K L (fun q => q ∈ L) [] f f s H locs) (ls : Array Slot) (hl : lv_has ls 4 [(0, .ref v0), (1, .int (q_i v4_1)), (2, .int (q_i v4_2))]), W p l e { frames := 1, cells := 0, slots := 0, locals := 21 } s m ([.ref v0] : List Value).toArray below meth c H locs 0 0 (MQ below (q_Q g K L [] f (q_Pi (fun (z : Int) (f1 : Nat → va_E) => f = f1 ∧ 0 ≤ z ∧ z ≤ 61 ∧ (z = tw_itl s0 (Int.toNat (s0 0 5)))))) ([.ref v0] : List Value).toArray s 0 0 (fun q => q ∈ L)) (F0 m 4 ls []) := by
    intro n
    induction n with
    | zero =>
      intro v4_1 lv4_1 uv4_1 v4_2 lv4_2 uv4_2 hj_v0_5 hq_v0_0 hq_v0_1 hq_v0_2 hw04 hrl4_0 hrl4_1 hac hmu
      exact absurd hmu (Nat.not_lt_zero _)
    | succ n ih4 =>
      intro v4_1 lv4_1 uv4_1 v4_2 lv4_2 uv4_2 hj_v0_5 hq_v0_0 hq_v0_1 hq_v0_2 hw04 hrl4_0 hrl4_1 hac hmu H locs hB ls hl
      refine q_ild_n cx dX10_messagesInTime_4 rfl (lv_at hl 2 rfl) ?_
      refine q_ald_n cx dX10_messagesInTime_5 rfl (lv_at hl 0 rfl) ?_
      obtain ⟨x379, ex379, nx379⟩ : ∃ zz, q_is (q_z f v0 5) zz ∧ zz = mn := ⟨_, hj_v0_5, rfl⟩
      have sx379 : q_is x379 (s0 0 5) := tw_g hw04 (tw_v0 hw0) (by omega) (by omega) ex379
      refine q_gX10_42 cx hB hv0 kv0 ex379 dX10_messagesInTime_6 (fun lb380 ub380 => ?_)
      refine q_icge (tgt := 46) cx ⟨by omega, by omega⟩ ⟨by omega, by omega⟩ dX10_messagesInTime_9 (by decide) (fun c381 => ?_) (fun c381 => ?_)
      · refine q_ild_n cx dX10_messagesInTime_46 rfl (lv_at hl 1 rfl) ?_
        refine q_iret cx hr hlk hB dX10_messagesInTime_47 ⟨by omega, by omega⟩ ?_
        exact ⟨rfl, (by omega), (by omega), (by have t0_ : v4_1 = tw_itl s0 (Int.toNat v4_2) := hac; have t1_ : x379 = s0 0 5 := sx379; have e9 : v4_2 = s0 0 5 := by omega; rw [hac, e9]; rfl)⟩
      · refine q_ald_n cx dX10_messagesInTime_12 rfl (lv_at hl 0 rfl) ?_
        refine q_ild_n cx dX10_messagesInTime_13 rfl (lv_at hl 2 rfl) ?_
        refine q_cVr (As := [.int (q_i v4_2)]) (rest := []) cx hB (fun _ h => h) hN hv0 kv0 (by decide) rfl (f_messageAt0 l g hN hB.2.1 d0 s0 v0 hv0 kv0 v4_2 (by omega) (by omega) n0 hn0 kn0 l0 hl0 kl0 m0 hm0 km0 hq_v0_0 hq_v0_1 hq_v0_2 hw04) q_cX10_81 q_dX10_messageAt (by decide) rfl rfl hl.1 rfl (Nat.le_of_ble_eq_true rfl) dX10_messagesInTime_14 (fun y383 H locs f382 h384 hF hB => ?_)
        obtain ⟨rfl, hy383, ky383, t385⟩ := h384
        refine lv_astore_n (lv' := [(3, .ref y383), (0, .ref v0), (1, .int (q_i v4_1)), (2, .int (q_i v4_2))]) cx.1 cx.2.1 dX10_messagesInTime_17 rfl hl (by decide) rfl (fun ls hl => ?_)
        refine q_ald_n cx dX10_messagesInTime_18 rfl (lv_at hl 0 rfl) ?_
        obtain ⟨x386, ex386⟩ : ∃ zz, q_is (q_z f y383 3) zz := ⟨_, q_isr _⟩
        obtain ⟨lx386, ux386⟩ := q_isb ex386 (q_fib hB.2.1 hy383 ky383 (by decide) rfl)
        obtain ⟨x387, ex387, nx387⟩ : ∃ zz, q_is (q_z f y383 3) zz ∧ zz = x386 := ⟨_, ex386, rfl⟩
        have sx387 : q_is x387 (s0 (27 + Int.toNat v4_2) 3) := tw_g hw04 t385 (by omega) (by omega) ex387
        refine q_gX10_140 cx hB hy383 ky383 ex387 dX10_messagesInTime_19 (fun lb388 ub388 => ?_)
        refine q_iconst cx dX10_messagesInTime_22 ?_
        refine q_icne (tgt := 40) cx ⟨by omega, by omega⟩ ⟨by decide, by decide⟩ dX10_messagesInTime_23 (by decide) (fun c389 => ?_) (fun c389 => ?_)
        · refine q_iinc (lv' := [(2, .int (q_i (v4_2 + 1))), (3, .ref y383), (0, .ref v0), (1, .int (q_i v4_1))]) cx dX10_messagesInTime_40 hl (k := 3) rfl (by decide) rfl (fun ls hl => ?_)
          refine lv_goto (tgt := 4) cx.1 cx.2.1 dX10_messagesInTime_43 (by decide) ?_
          exact ih4 v4_1 (by omega) (by omega) (v4_2 + 1) (by omega) (by omega) hj_v0_5 hq_v0_0 hq_v0_1 hq_v0_2 hw04 (by omega) (by omega) (by have t0_ : v4_1 = tw_itl s0 (Int.toNat v4_2) := hac; have t1_ : x379 = s0 0 5 := sx379; have t2_ : x387 = s0 (27 + Int.toNat v4_2) 3 := sx387; (try simp only [t0_, t1_, t2_]); rw [tw_itl_s (by omega)]; (repeat' split) <;> first | rfl | (exfalso; omega)) (by omega) H locs hB ls (lv_sub hl [2, 3, 0] rfl)
        · refine q_ald_n cx dX10_messagesInTime_26 rfl (lv_at hl 0 rfl) ?_
          obtain ⟨x390, ex390⟩ : ∃ zz, q_is (q_z f y383 5) zz := ⟨_, q_isr _⟩
          obtain ⟨lx390, ux390⟩ := q_isb ex390 (q_fib hB.2.1 hy383 ky383 (by decide) rfl)
          obtain ⟨x391, ex391, nx391⟩ : ∃ zz, q_is (q_z f y383 5) zz ∧ zz = x390 := ⟨_, ex390, rfl⟩
          have sx391 : q_is x391 (s0 (27 + Int.toNat v4_2) 5) := tw_g hw04 t385 (by omega) (by omega) ex391
          refine q_gX10_146 cx hB hy383 ky383 ex391 dX10_messagesInTime_27 (fun lb392 ub392 => ?_)
          refine q_ald_n cx dX10_messagesInTime_30 rfl (lv_at hl 0 rfl) ?_
          obtain ⟨x393, ex393⟩ : ∃ zz, q_is (q_z f y383 4) zz := ⟨_, q_isr _⟩
          obtain ⟨lx393, ux393⟩ := q_isb ex393 (q_fib hB.2.1 hy383 ky383 (by decide) rfl)
          obtain ⟨x394, ex394, nx394⟩ : ∃ zz, q_is (q_z f y383 4) zz ∧ zz = x393 := ⟨_, ex393, rfl⟩
          have sx394 : q_is x394 (s0 (27 + Int.toNat v4_2) 4) := tw_g hw04 t385 (by omega) (by omega) ex394
          refine q_gX10_143 cx hB hy383 ky383 ex394 dX10_messagesInTime_31 (fun lb395 ub395 => ?_)
          refine q_icgt (tgt := 40) cx ⟨by omega, by omega⟩ ⟨by omega, by omega⟩ dX10_messagesInTime_34 (by decide) (fun c396 => ?_) (fun c396 => ?_)
          · refine q_iinc (lv' := [(2, .int (q_i (v4_2 + 1))), (3, .ref y383), (0, .ref v0), (1, .int (q_i v4_1))]) cx dX10_messagesInTime_40 hl (k := 3) rfl (by decide) rfl (fun ls hl => ?_)
            refine lv_goto (tgt := 4) cx.1 cx.2.1 dX10_messagesInTime_43 (by decide) ?_
            exact ih4 v4_1 (by omega) (by omega) (v4_2 + 1) (by omega) (by omega) hj_v0_5 hq_v0_0 hq_v0_1 hq_v0_2 hw04 (by omega) (by omega) (by have t0_ : v4_1 = tw_itl s0 (Int.toNat v4_2) := hac; have t1_ : x379 = s0 0 5 := sx379; have t2_ : x387 = s0 (27 + Int.toNat v4_2) 3 := sx387; have t3_ : x391 = s0 (27 + Int.toNat v4_2) 5 := sx391; have t4_ : x394 = s0 (27 + Int.toNat v4_2) 4 := sx394; (try simp only [t0_, t1_, t2_, t3_, t4_]); rw [tw_itl_s (by omega)]; (repeat' split) <;> first | rfl | (exfalso; omega)) (by omega) H locs hB ls (lv_sub hl [2, 3, 0] rfl)
          · refine q_iinc (lv' := [(1, .int (q_i (v4_1 + 1))), (3, .ref y383), (0, .ref v0), (2, .int (q_i v4_2))]) cx dX10_messagesInTime_37 hl (k := 2) rfl (by decide) rfl (fun ls hl => ?_)
            refine q_iinc (lv' := [(2, .int (q_i (v4_2 + 1))), (1, .int (q_i (v4_1 + 1))), (3, .ref y383), (0, .ref v0)]) cx dX10_messagesInTime_40 hl (k := 3) rfl (by decide) rfl (fun ls hl => ?_)
            refine lv_goto (tgt := 4) cx.1 cx.2.1 dX10_messagesInTime_43 (by decide) ?_
            exact ih4 (v4_1 + 1) (by omega) (by omega) (v4_2 + 1) (by omega) (by omega) hj_v0_5 hq_v0_0 hq_v0_1 hq_v0_2 hw04 (by omega) (by omega) (by have t0_ : v4_1 = tw_itl s0 (Int.toNat v4_2) := hac; have t1_ : x379 = s0 0 5 := sx379; have t2_ : x387 = s0 (27 + Int.toNat v4_2) 3 := sx387; have t3_ : x391 = s0 (27 + Int.toNat v4_2) 5 := sx391; have t4_ : x394 = s0 (27 + Int.toNat v4_2) 4 := sx394; (try simp only [t0_, t1_, t2_, t3_, t4_]); rw [tw_itl_s (by omega)]; (repeat' split) <;> first | rfl | (exfalso; omega)) (by omega) H locs hB ls (lv_sub hl [3, 1, 0] rfl)
  obtain ⟨H, hH⟩ : ∃ H : Heap, H = s.heap := ⟨_, rfl⟩
  obtain ⟨locs, hlocs⟩ : ∃ z : List Loc, z = [] := ⟨_, rfl⟩
  rw [← hH, ← hlocs] at hB
  rw [← hH, ← hlocs]
  refine q_iconst cx dX10_messagesInTime_0 ?_
  refine lv_istore_n (lv' := [(1, .int (q_i 0)), (0, .ref v0)]) cx.1 cx.2.1 dX10_messagesInTime_1 rfl hl (by decide) rfl (fun ls hl => ?_)
  refine q_iconst cx dX10_messagesInTime_2 ?_
  refine lv_istore_n (lv' := [(2, .int (q_i 0)), (1, .int (q_i 0)), (0, .ref v0)]) cx.1 cx.2.1 dX10_messagesInTime_3 rfl hl (by decide) rfl (fun ls hl => ?_)
  exact J4 ((Int.toNat (2147483647 - 0)) + 1) 0 (by decide) (by decide) 0 (by decide) (by decide) hf0 hr0 hr1 hr2 hw0 (by omega) (by omega) rfl (Nat.lt_succ_self _) H locs hB ls (lv_sub hl [2, 1, 0] rfl)
set_option maxHeartbeats 4000000 in
set_option maxRecDepth 100000 in
theorem f_isWaitingAt0 (l : Launch) (g : q_G) {K : Nat → Nat} {L : List Nat} (hN : L.Nodup) {f : Nat → va_E} (hT : q_Ty g K L f) (d0 : Nat → Nat) (s0 : tw_S) (v0 : Nat) (hv0 : v0 ∈ L) (kv0 : K v0 = 10) (p0 : Int) (lp0 : 0 ≤ p0) (up0 : p0 ≤ 60) (p1 : Int) (lp1 : 0 ≤ p1) (up1 : p1 ≤ 9) (n0 : Nat) (hn0 : n0 ∈ L) (kn0 : K n0 = 110) (l0 : Nat) (hl0 : l0 ∈ L) (kl0 : K l0 = 120) (m0 : Nat) (hm0 : m0 ∈ L) (km0 : K m0 = 130) (hr0 : q_ir (q_r f v0 0) n0) (hr1 : q_ir (q_r f v0 1) l0) (hr2 : q_ir (q_r f v0 2) m0) (hw0 : tw_vw K L 10 5 3 4 f v0 n0 l0 m0 d0 s0) : q_Ct l g K L yX10_isWaitingAt cX10_isWaitingAt 3 (some .boolean) 1 21 [.ref v0, .int (q_i p0), .int (q_i p1)] f [] (q_Pi (fun (z : Int) (f1 : Nat → va_E) => (f = f1 ∧ z = 1 ∧ (tw_wt s0 p0 p1 = 1)) ∨ (f = f1 ∧ z = 0 ∧ (tw_wt s0 p0 p1 = 0)))) := by
  refine q_ofb (by decide +kernel) hN hT (Nat.le_of_ble_eq_true rfl) ?_
  intro p e s m below meth c ls cx hr hlk hB hl
  have hl : lv_has ls 3 [(0, .ref v0), (1, .int (q_i p0)), (2, .int (q_i p1))] := hl
  obtain ⟨H, hH⟩ : ∃ H : Heap, H = s.heap := ⟨_, rfl⟩
  obtain ⟨locs, hlocs⟩ : ∃ z : List Loc, z = [] := ⟨_, rfl⟩
  rw [← hH, ← hlocs] at hB
  rw [← hH, ← hlocs]
  refine q_ald_n cx dX10_isWaitingAt_0 rfl (lv_at hl 0 rfl) ?_
  refine q_ild_n cx dX10_isWaitingAt_1 rfl (lv_at hl 1 rfl) ?_
  refine q_cVr (As := [.int (q_i p0)]) (rest := []) cx hB (fun _ h => h) hN hv0 kv0 (by decide) rfl (f_messageAt0 l g hN hB.2.1 d0 s0 v0 hv0 kv0 p0 (by omega) (by omega) n0 hn0 kn0 l0 hl0 kl0 m0 hm0 km0 hr0 hr1 hr2 hw0) q_cX10_81 q_dX10_messageAt (by decide) rfl rfl hl.1 rfl (Nat.le_of_ble_eq_true rfl) dX10_isWaitingAt_2 (fun y18 H locs f17 h19 hF hB => ?_)
  obtain ⟨rfl, hy18, ky18, t20⟩ := h19
  obtain ⟨x21, ex21⟩ : ∃ zz, q_is (q_z f y18 3) zz := ⟨_, q_isr _⟩
  obtain ⟨lx21, ux21⟩ := q_isb ex21 (q_fib hB.2.1 hy18 ky18 (by decide) rfl)
  obtain ⟨x22, ex22, nx22⟩ : ∃ zz, q_is (q_z f y18 3) zz ∧ zz = x21 := ⟨_, ex21, rfl⟩
  have sx22 : q_is x22 (s0 (27 + Int.toNat p0) 3) := tw_g hw0 t20 (by omega) (by omega) ex22
  refine q_gX10_140 cx hB hy18 ky18 ex22 dX10_isWaitingAt_5 (fun lb23 ub23 => ?_)
  refine q_ifne (tgt := 27) cx ⟨by omega, by omega⟩ dX10_isWaitingAt_8 (by decide) (fun c24 => ?_) (fun c24 => ?_)
  · refine q_iconst cx dX10_isWaitingAt_27 ?_
    refine q_zret cx hr hlk hB dX10_isWaitingAt_28 (by decide) (by decide) ?_
    exact (Or.inr ⟨rfl, rfl, (by have t0_ : x22 = s0 (27 + Int.toNat p0) 3 := sx22; (try simp only [t0_]); unfold tw_wt; (repeat' split) <;> first | rfl | (exfalso; omega))⟩)
  · refine q_ald_n cx dX10_isWaitingAt_11 rfl (lv_at hl 0 rfl) ?_
    refine q_ild_n cx dX10_isWaitingAt_12 rfl (lv_at hl 1 rfl) ?_
    refine q_cVr (As := [.int (q_i p0)]) (rest := []) cx hB (fun _ h => h) hN hv0 kv0 (by decide) rfl (f_messageAt0 l g hN hB.2.1 d0 s0 v0 hv0 kv0 p0 (by omega) (by omega) n0 hn0 kn0 l0 hl0 kl0 m0 hm0 km0 hr0 hr1 hr2 hw0) q_cX10_81 q_dX10_messageAt (by decide) rfl rfl hl.1 rfl (Nat.le_of_ble_eq_true rfl) dX10_isWaitingAt_13 (fun y26 H locs f25 h27 hF hB => ?_)
    obtain ⟨rfl, hy26, ky26, t28⟩ := h27
    obtain ⟨x29, ex29⟩ : ∃ zz, q_is (q_z f y26 2) zz := ⟨_, q_isr _⟩
    obtain ⟨lx29, ux29⟩ := q_isb ex29 (q_fib hB.2.1 hy26 ky26 (by decide) rfl)
    obtain ⟨x30, ex30, nx30⟩ : ∃ zz, q_is (q_z f y26 2) zz ∧ zz = x29 := ⟨_, ex29, rfl⟩
    have sx30 : q_is x30 (s0 (27 + Int.toNat p0) 2) := tw_g hw0 t28 (by omega) (by omega) ex30
    refine q_gX10_137 cx hB hy26 ky26 ex30 dX10_isWaitingAt_16 (fun lb31 ub31 => ?_)
    refine q_ild_n cx dX10_isWaitingAt_19 rfl (lv_at hl 2 rfl) ?_
    refine q_icne (tgt := 27) cx ⟨by omega, by omega⟩ ⟨by omega, by omega⟩ dX10_isWaitingAt_20 (by decide) (fun c32 => ?_) (fun c32 => ?_)
    · refine q_iconst cx dX10_isWaitingAt_27 ?_
      refine q_zret cx hr hlk hB dX10_isWaitingAt_28 (by decide) (by decide) ?_
      exact (Or.inr ⟨rfl, rfl, (by have t0_ : x22 = s0 (27 + Int.toNat p0) 3 := sx22; have t1_ : x30 = s0 (27 + Int.toNat p0) 2 := sx30; (try simp only [t0_, t1_]); unfold tw_wt; (repeat' split) <;> first | rfl | (exfalso; omega))⟩)
    · refine q_iconst cx dX10_isWaitingAt_23 ?_
      refine lv_goto (tgt := 28) cx.1 cx.2.1 dX10_isWaitingAt_24 (by decide) ?_
      refine q_zret cx hr hlk hB dX10_isWaitingAt_28 (by decide) (by decide) ?_
      exact (Or.inl ⟨rfl, rfl, (by have t0_ : x22 = s0 (27 + Int.toNat p0) 3 := sx22; have t1_ : x30 = s0 (27 + Int.toNat p0) 2 := sx30; (try simp only [t0_, t1_]); unfold tw_wt; (repeat' split) <;> first | rfl | (exfalso; omega))⟩)
set_option maxHeartbeats 4000000 in
set_option maxRecDepth 100000 in
theorem f_messagesWaitingAt0 (l : Launch) (g : q_G) {K : Nat → Nat} {L : List Nat} (hN : L.Nodup) {f : Nat → va_E} (hT : q_Ty g K L f) (d0 : Nat → Nat) (s0 : tw_S) (v0 : Nat) (hv0 : v0 ∈ L) (kv0 : K v0 = 10) (p0 : Int) (lp0 : 0 ≤ p0) (up0 : p0 ≤ 9) (n0 : Nat) (hn0 : n0 ∈ L) (kn0 : K n0 = 110) (l0 : Nat) (hl0 : l0 ∈ L) (kl0 : K l0 = 120) (m0 : Nat) (hm0 : m0 ∈ L) (km0 : K m0 = 130) (mn : Int) (lmn : 0 ≤ mn) (umn : mn ≤ 61) (hf0 : q_is (q_z f v0 5) mn) (hr0 : q_ir (q_r f v0 0) n0) (hr1 : q_ir (q_r f v0 1) l0) (hr2 : q_ir (q_r f v0 2) m0) (hw0 : tw_vw K L 10 5 3 4 f v0 n0 l0 m0 d0 s0) : q_Ct l g K L yX10_messagesWaitingAt cX10_messagesWaitingAt 4 (some .int) 2 43 [.ref v0, .int (q_i p0)] f [] (q_Pi (fun (z : Int) (f1 : Nat → va_E) => f = f1 ∧ 0 ≤ z ∧ z ≤ 61 ∧ (z = tw_mwl s0 p0 (Int.toNat (s0 0 5))))) := by
  refine q_ofb (by decide +kernel) hN hT (Nat.le_of_ble_eq_true rfl) ?_
  intro p e s m below meth c ls cx hr hlk hB hl
  have hl : lv_has ls 4 [(0, .ref v0), (1, .int (q_i p0))] := hl
  have J4 : ∀ (n : Nat) (v4_1 : Int) (lv4_1 : 0 ≤ v4_1) (uv4_1 : v4_1 ≤ 9) (v4_2 : Int) (lv4_2 : 0 ≤ v4_2) (uv4_2 : v4_2 ≤ 61) (v4_3 : Int) (lv4_3 : 0 ≤ v4_3) (uv4_3 : v4_3 ≤ 61) (hj_v0_5 : q_is (q_z f v0 5) mn) (hq_v0_0 : q_ir (q_r f v0 0) n0) (hq_v0_1 : q_ir (q_r f v0 1) l0) (hq_v0_2 : q_ir (q_r f v0 2) m0) (hw04 : tw_vw K L 10 5 3 4 f v0 n0 l0 m0 d0 s0) (hrl4_0 : 0 ≤ 1 * mn + -1 * v4_3 + 0) (hrl4_1 : 0 ≤ 1 * v4_3 + -1 * v4_2 + 0) (hac : v4_2 = tw_mwl s0 p0 (Int.toNat v4_3)) (hmu : (Int.toNat (2147483647 - v4_2)) < n) (H : Heap) (locs : List Loc) (hB : q_B g K L (fun q => q ∈ L) [] f f s H locs) (ls : Array Slot) (hl : lv_has ls 4 [(0, .ref v0), (1, .int (q_i v4_1)), (2, .int (q_i v4_2)), (3, .int (q_i v4_3))]), W p l e { frames := 2, cells := 0, slots := 0, locals := 43 } s m ([.ref v0, .int (q_i p0)] : List Value).toArray below meth c H locs 0 0 (MQ below (q_Q g K L [] f (q_Pi (fun (z : Int) (f1 : Nat → va_E) => f = f1 ∧ 0 ≤ z ∧ z ≤ 61 ∧ (z = tw_mwl s0 p0 (Int.toNat (s0 0 5)))))) ([.ref v0, .int (q_i p0)] : List Value).toArray s 0 0 (fun q => q ∈ L)) (F0 m 4 ls []) := by
    intro n
    induction n with
    | zero =>
      intro v4_1 lv4_1 uv4_1 v4_2 lv4_2 uv4_2 v4_3 lv4_3 uv4_3 hj_v0_5 hq_v0_0 hq_v0_1 hq_v0_2 hw04 hrl4_0 hrl4_1 hac hmu
      exact absurd hmu (Nat.not_lt_zero _)
    | succ n ih4 =>
      intro v4_1 lv4_1 uv4_1 v4_2 lv4_2 uv4_2 v4_3 lv4_3 uv4_3 hj_v0_5 hq_v0_0 hq_v0_1 hq_v0_2 hw04 hrl4_0 hrl4_1 hac hmu H locs hB ls hl
      refine q_ild_n cx dX10_messagesWaitingAt_4 rfl (lv_at hl 3 rfl) ?_
      refine q_ald_n cx dX10_messagesWaitingAt_5 rfl (lv_at hl 0 rfl) ?_
      obtain ⟨x253, ex253, nx253⟩ : ∃ zz, q_is (q_z f v0 5) zz ∧ zz = mn := ⟨_, hj_v0_5, rfl⟩
      have sx253 : q_is x253 (s0 0 5) := tw_g hw04 (tw_v0 hw0) (by omega) (by omega) ex253
      refine q_gX10_42 cx hB hv0 kv0 ex253 dX10_messagesWaitingAt_6 (fun lb254 ub254 => ?_)
      refine q_icge (tgt := 30) cx ⟨by omega, by omega⟩ ⟨by omega, by omega⟩ dX10_messagesWaitingAt_9 (by decide) (fun c255 => ?_) (fun c255 => ?_)
      · refine q_ild_n cx dX10_messagesWaitingAt_30 rfl (lv_at hl 2 rfl) ?_
        refine q_iret cx hr hlk hB dX10_messagesWaitingAt_31 ⟨by omega, by omega⟩ ?_
        exact ⟨rfl, (by omega), (by omega), (by have t0_ : v4_2 = tw_mwl s0 p0 (Int.toNat v4_3) := hac; have t1_ : x253 = s0 0 5 := sx253; have e9 : v4_3 = s0 0 5 := by omega; rw [hac, e9]; rfl)⟩
      · refine q_ald_n cx dX10_messagesWaitingAt_12 rfl (lv_at hl 0 rfl) ?_
        refine q_ild_n cx dX10_messagesWaitingAt_13 rfl (lv_at hl 3 rfl) ?_
        refine q_ild_n cx dX10_messagesWaitingAt_14 rfl (lv_at hl 1 rfl) ?_
        refine q_cVi (As := [.int (q_i v4_3), .int (q_i v4_1)]) (rest := []) cx hB (fun _ h => h) hN hv0 kv0 (by decide) rfl (f_isWaitingAt0 l g hN hB.2.1 d0 s0 v0 hv0 kv0 v4_3 (by omega) (by omega) v4_1 (by omega) (by omega) n0 hn0 kn0 l0 hl0 kl0 m0 hm0 km0 hq_v0_0 hq_v0_1 hq_v0_2 hw04) q_cX10_185 q_dX10_isWaitingAt (by decide) rfl rfl hl.1 rfl (Nat.le_of_ble_eq_true rfl) dX10_messagesWaitingAt_15 (fun y257 H locs f256 ry257 h258 hF hB => ?_)
        rcases h258 with h259 | h260
        · obtain ⟨rfl, qy257, t261⟩ := h259
          subst qy257
          refine q_ifeq (tgt := 24) cx ⟨by decide, by decide⟩ dX10_messagesWaitingAt_18 (by decide) (fun c262 => ?_) (fun c262 => ?_)
          · exact absurd c262 (by omega)
          · refine q_iinc (lv' := [(2, .int (q_i (v4_2 + 1))), (0, .ref v0), (1, .int (q_i v4_1)), (3, .int (q_i v4_3))]) cx dX10_messagesWaitingAt_21 hl (k := 2) rfl (by decide) rfl (fun ls hl => ?_)
            refine q_iinc (lv' := [(3, .int (q_i (v4_3 + 1))), (2, .int (q_i (v4_2 + 1))), (0, .ref v0), (1, .int (q_i v4_1))]) cx dX10_messagesWaitingAt_24 hl (k := 3) rfl (by decide) rfl (fun ls hl => ?_)
            refine lv_goto (tgt := 4) cx.1 cx.2.1 dX10_messagesWaitingAt_27 (by decide) ?_
            exact ih4 v4_1 (by omega) (by omega) (v4_2 + 1) (by omega) (by omega) (v4_3 + 1) (by omega) (by omega) hj_v0_5 hq_v0_0 hq_v0_1 hq_v0_2 hw04 (by omega) (by omega) (by have t0_ : v4_2 = tw_mwl s0 p0 (Int.toNat v4_3) := hac; have t1_ : x253 = s0 0 5 := sx253; have u0_ : tw_wt s0 v4_3 v4_1 = 1 := t261; (try simp only [t0_, t1_]); rw [tw_mwl_s (by omega)]; (repeat' split) <;> first | rfl | (exfalso; omega)) (by omega) H locs hB ls (lv_sub hl [2, 3, 1, 0] rfl)
        · obtain ⟨rfl, qy257, t263⟩ := h260
          subst qy257
          refine q_ifeq (tgt := 24) cx ⟨by decide, by decide⟩ dX10_messagesWaitingAt_18 (by decide) (fun c264 => ?_) (fun c264 => ?_)
          · refine q_iinc (lv' := [(3, .int (q_i (v4_3 + 1))), (0, .ref v0), (1, .int (q_i v4_1)), (2, .int (q_i v4_2))]) cx dX10_messagesWaitingAt_24 hl (k := 3) rfl (by decide) rfl (fun ls hl => ?_)
            refine lv_goto (tgt := 4) cx.1 cx.2.1 dX10_messagesWaitingAt_27 (by decide) ?_
            exact ih4 v4_1 (by omega) (by omega) v4_2 (by omega) (by omega) (v4_3 + 1) (by omega) (by omega) hj_v0_5 hq_v0_0 hq_v0_1 hq_v0_2 hw04 (by omega) (by omega) (by have t0_ : v4_2 = tw_mwl s0 p0 (Int.toNat v4_3) := hac; have t1_ : x253 = s0 0 5 := sx253; have u0_ : tw_wt s0 v4_3 v4_1 = 0 := t263; (try simp only [t0_, t1_]); rw [tw_mwl_s (by omega)]; (repeat' split) <;> first | rfl | (exfalso; omega)) (by omega) H locs hB ls (lv_sub hl [1, 2, 3, 0] rfl)
          · exact absurd c264 (by omega)
  obtain ⟨H, hH⟩ : ∃ H : Heap, H = s.heap := ⟨_, rfl⟩
  obtain ⟨locs, hlocs⟩ : ∃ z : List Loc, z = [] := ⟨_, rfl⟩
  rw [← hH, ← hlocs] at hB
  rw [← hH, ← hlocs]
  refine q_iconst cx dX10_messagesWaitingAt_0 ?_
  refine lv_istore_n (lv' := [(2, .int (q_i 0)), (0, .ref v0), (1, .int (q_i p0))]) cx.1 cx.2.1 dX10_messagesWaitingAt_1 rfl hl (by decide) rfl (fun ls hl => ?_)
  refine q_iconst cx dX10_messagesWaitingAt_2 ?_
  refine lv_istore_n (lv' := [(3, .int (q_i 0)), (2, .int (q_i 0)), (0, .ref v0), (1, .int (q_i p0))]) cx.1 cx.2.1 dX10_messagesWaitingAt_3 rfl hl (by decide) rfl (fun ls hl => ?_)
  exact J4 ((Int.toNat (2147483647 - 0)) + 1) p0 (by omega) (by omega) 0 (by decide) (by decide) 0 (by decide) (by decide) hf0 hr0 hr1 hr2 hw0 (by omega) (by omega) rfl (Nat.lt_succ_self _) H locs hB ls (lv_sub hl [2, 3, 1, 0] rfl)
