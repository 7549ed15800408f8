set_option maxHeartbeats 4000000 in
set_option maxRecDepth 100000 in
theorem f_nodeAt4 (l : Launch) (g : q_G) {K : Nat → Nat} {L : List Nat} (hN : L.Nodup) {f : Nat → va_E} (hT : q_Ty g K L f) (d4 : Nat → Nat) (s4 : tw_S) (v4 : Nat) (hv4 : v4 ∈ L) (kv4 : K v4 = 50) (p0 : Int) (lp0 : 0 ≤ p0) (up0 : p0 ≤ 9) (n4 : Nat) (hn4 : n4 ∈ L) (kn4 : K n4 = 200) (l4 : Nat) (hl4 : l4 ∈ L) (kl4 : K l4 = 206) (m4 : Nat) (hm4 : m4 ∈ L) (km4 : K m4 = 212) (hr0 : q_ir (q_r f v4 0) n4) (hr1 : q_ir (q_r f v4 1) l4) (hr2 : q_ir (q_r f v4 2) m4) (hw4 : tw_vw K L 50 56 62 68 f v4 n4 l4 m4 d4 s4) : q_Ct l g K L yX10_nodeAt cX10_nodeAt 2 (some (.object "WakeVillage$Node")) 0 0 [.ref v4, .int (q_i p0)] f [] (q_Pr (fun (z : Nat) (f1 : Nat → va_E) => f = f1 ∧ z ∈ L ∧ K z = 56 ∧ (z = d4 (1 + Int.toNat p0)))) := by
  refine q_ofb (by decide +kernel) hN hT (Nat.le_of_ble_eq_true rfl) ?_
  intro p e s m below meth c ls cx hr hlk hB hl
  have hl : lv_has ls 2 [(0, .ref v4), (1, .int (q_i p0))] := hl
  obtain ⟨H, hH⟩ : ∃ H : Heap, H = s.heap := ⟨_, rfl⟩
  obtain ⟨locs, hlocs⟩ : ∃ z : List Loc, z = [] := ⟨_, rfl⟩
  rw [← hH, ← hlocs] at hB
  rw [← hH, ← hlocs]
  refine q_ald_n cx dX10_nodeAt_0 rfl (lv_at hl 0 rfl) ?_
  refine q_gX10_13_50 cx hB hv4 kv4 hr0 dX10_nodeAt_1 (fun hb7 kb7 => ?_)
  refine q_ild_n cx dX10_nodeAt_4 rfl (lv_at hl 1 rfl) ?_
  refine q_iflt (tgt := 21) cx ⟨by omega, by omega⟩ dX10_nodeAt_5 (by decide) (fun c8 => ?_) (fun c8 => ?_)
  · exact absurd c8 (by omega)
  · refine q_ild_n cx dX10_nodeAt_8 rfl (lv_at hl 1 rfl) ?_
    refine q_ald_n cx dX10_nodeAt_9 rfl (lv_at hl 0 rfl) ?_
    refine q_gX10_13_50 cx hB hv4 kv4 hr0 dX10_nodeAt_10 (fun hb9 kb9 => ?_)
    refine q_alen (n := 10) cx hB hn4 kn4 (by decide) rfl 7 rfl rfl dX10_nodeAt_13 ?_
    refine q_icge (tgt := 21) cx ⟨by omega, by omega⟩ ⟨by decide, by decide⟩ dX10_nodeAt_14 (by decide) (fun c10 => ?_) (fun c10 => ?_)
    · exact absurd c10 (by omega)
    · refine q_ild_n cx dX10_nodeAt_17 rfl (lv_at hl 1 rfl) ?_
      refine lv_goto (tgt := 22) cx.1 cx.2.1 dX10_nodeAt_18 (by decide) ?_
      obtain ⟨p11, ep11⟩ : ∃ zz, q_ir (q_r f n4 (Int.toNat p0)) zz := ⟨_, q_irr _⟩
      refine q_aald (k2 := 56) (n := 10) cx hB hn4 kn4 (by decide) rfl 7 rfl (by decide) rfl (by omega) (by omega) (by decide) rfl ep11 dX10_nodeAt_22 (fun hb12 kb12 => ?_)
      refine q_aret cx hr (Or.inl ⟨_, rfl⟩) hlk hB dX10_nodeAt_23 ?_
      exact ⟨rfl, hb12, kb12, (tw_at1 hw4 lp0 up0 ep11)⟩
set_option maxHeartbeats 4000000 in
set_option maxRecDepth 100000 in
theorem f_linkAt4 (l : Launch) (g : q_G) {K : Nat → Nat} {L : List Nat} (hN : L.Nodup) {f : Nat → va_E} (hT : q_Ty g K L f) (d4 : Nat → Nat) (s4 : tw_S) (v4 : Nat) (hv4 : v4 ∈ L) (kv4 : K v4 = 50) (p0 : Int) (lp0 : 0 ≤ p0) (up0 : p0 ≤ 15) (n4 : Nat) (hn4 : n4 ∈ L) (kn4 : K n4 = 200) (l4 : Nat) (hl4 : l4 ∈ L) (kl4 : K l4 = 206) (m4 : Nat) (hm4 : m4 ∈ L) (km4 : K m4 = 212) (hr0 : q_ir (q_r f v4 0) n4) (hr1 : q_ir (q_r f v4 1) l4) (hr2 : q_ir (q_r f v4 2) m4) (hw4 : tw_vw K L 50 56 62 68 f v4 n4 l4 m4 d4 s4) : q_Ct l g K L yX10_linkAt cX10_linkAt 2 (some (.object "WakeVillage$Link")) 0 0 [.ref v4, .int (q_i p0)] f [] (q_Pr (fun (z : Nat) (f1 : Nat → va_E) => f = f1 ∧ z ∈ L ∧ K z = 62 ∧ (z = d4 (11 + Int.toNat p0)))) := by
  refine q_ofb (by decide +kernel) hN hT (Nat.le_of_ble_eq_true rfl) ?_
  intro p e s m below meth c ls cx hr hlk hB hl
  have hl : lv_has ls 2 [(0, .ref v4), (1, .int (q_i p0))] := hl
  obtain ⟨H, hH⟩ : ∃ H : Heap, H = s.heap := ⟨_, rfl⟩
  obtain ⟨locs, hlocs⟩ : ∃ z : List Loc, z = [] := ⟨_, rfl⟩
  rw [← hH, ← hlocs] at hB
  rw [← hH, ← hlocs]
  refine q_ald_n cx dX10_linkAt_0 rfl (lv_at hl 0 rfl) ?_
  refine q_gX10_19_50 cx hB hv4 kv4 hr1 dX10_linkAt_1 (fun hb7 kb7 => ?_)
  refine q_ild_n cx dX10_linkAt_4 rfl (lv_at hl 1 rfl) ?_
  refine q_iflt (tgt := 21) cx ⟨by omega, by omega⟩ dX10_linkAt_5 (by decide) (fun c8 => ?_) (fun c8 => ?_)
  · exact absurd c8 (by omega)
  · refine q_ild_n cx dX10_linkAt_8 rfl (lv_at hl 1 rfl) ?_
    refine q_ald_n cx dX10_linkAt_9 rfl (lv_at hl 0 rfl) ?_
    refine q_gX10_19_50 cx hB hv4 kv4 hr1 dX10_linkAt_10 (fun hb9 kb9 => ?_)
    refine q_alen (n := 16) cx hB hl4 kl4 (by decide) rfl 5 rfl rfl dX10_linkAt_13 ?_
    refine q_icge (tgt := 21) cx ⟨by omega, by omega⟩ ⟨by decide, by decide⟩ dX10_linkAt_14 (by decide) (fun c10 => ?_) (fun c10 => ?_)
    · exact absurd c10 (by omega)
    · refine q_ild_n cx dX10_linkAt_17 rfl (lv_at hl 1 rfl) ?_
      refine lv_goto (tgt := 22) cx.1 cx.2.1 dX10_linkAt_18 (by decide) ?_
      obtain ⟨p11, ep11⟩ : ∃ zz, q_ir (q_r f l4 (Int.toNat p0)) zz := ⟨_, q_irr _⟩
      refine q_aald (k2 := 62) (n := 16) cx hB hl4 kl4 (by decide) rfl 5 rfl (by decide) rfl (by omega) (by omega) (by decide) rfl ep11 dX10_linkAt_22 (fun hb12 kb12 => ?_)
      refine q_aret cx hr (Or.inl ⟨_, rfl⟩) hlk hB dX10_linkAt_23 ?_
      exact ⟨rfl, hb12, kb12, (tw_at2 hw4 lp0 up0 ep11)⟩
set_option maxHeartbeats 4000000 in
set_option maxRecDepth 100000 in
theorem f_messageAt4 (l : Launch) (g : q_G) {K : Nat → Nat} {L : List Nat} (hN : L.Nodup) {f : Nat → va_E} (hT : q_Ty g K L f) (d4 : Nat → Nat) (s4 : tw_S) (v4 : Nat) (hv4 : v4 ∈ L) (kv4 : K v4 = 50) (p0 : Int) (lp0 : 0 ≤ p0) (up0 : p0 ≤ 60) (n4 : Nat) (hn4 : n4 ∈ L) (kn4 : K n4 = 200) (l4 : Nat) (hl4 : l4 ∈ L) (kl4 : K l4 = 206) (m4 : Nat) (hm4 : m4 ∈ L) (km4 : K m4 = 212) (hr0 : q_ir (q_r f v4 0) n4) (hr1 : q_ir (q_r f v4 1) l4) (hr2 : q_ir (q_r f v4 2) m4) (hw4 : tw_vw K L 50 56 62 68 f v4 n4 l4 m4 d4 s4) : q_Ct l g K L yX10_messageAt cX10_messageAt 2 (some (.object "WakeVillage$Message")) 0 0 [.ref v4, .int (q_i p0)] f [] (q_Pr (fun (z : Nat) (f1 : Nat → va_E) => f = f1 ∧ z ∈ L ∧ K z = 68 ∧ (z = d4 (27 + Int.toNat p0)))) := by
  refine q_ofb (by decide +kernel) hN hT (Nat.le_of_ble_eq_true rfl) ?_
  intro p e s m below meth c ls cx hr hlk hB hl
  have hl : lv_has ls 2 [(0, .ref v4), (1, .int (q_i p0))] := hl
  obtain ⟨H, hH⟩ : ∃ H : Heap, H = s.heap := ⟨_, rfl⟩
  obtain ⟨locs, hlocs⟩ : ∃ z : List Loc, z = [] := ⟨_, rfl⟩
  rw [← hH, ← hlocs] at hB
  rw [← hH, ← hlocs]
  refine q_ald_n cx dX10_messageAt_0 rfl (lv_at hl 0 rfl) ?_
  refine q_gX10_25_50 cx hB hv4 kv4 hr2 dX10_messageAt_1 (fun hb7 kb7 => ?_)
  refine q_ild_n cx dX10_messageAt_4 rfl (lv_at hl 1 rfl) ?_
  refine q_iflt (tgt := 21) cx ⟨by omega, by omega⟩ dX10_messageAt_5 (by decide) (fun c8 => ?_) (fun c8 => ?_)
  · exact absurd c8 (by omega)
  · refine q_ild_n cx dX10_messageAt_8 rfl (lv_at hl 1 rfl) ?_
    refine q_ald_n cx dX10_messageAt_9 rfl (lv_at hl 0 rfl) ?_
    refine q_gX10_25_50 cx hB hv4 kv4 hr2 dX10_messageAt_10 (fun hb9 kb9 => ?_)
    refine q_alen (n := 61) cx hB hm4 km4 (by decide) rfl 6 rfl rfl dX10_messageAt_13 ?_
    refine q_icge (tgt := 21) cx ⟨by omega, by omega⟩ ⟨by decide, by decide⟩ dX10_messageAt_14 (by decide) (fun c10 => ?_) (fun c10 => ?_)
    · exact absurd c10 (by omega)
    · refine q_ild_n cx dX10_messageAt_17 rfl (lv_at hl 1 rfl) ?_
      refine lv_goto (tgt := 22) cx.1 cx.2.1 dX10_messageAt_18 (by decide) ?_
      obtain ⟨p11, ep11⟩ : ∃ zz, q_ir (q_r f m4 (Int.toNat p0)) zz := ⟨_, q_irr _⟩
      refine q_aald (k2 := 68) (n := 61) cx hB hm4 km4 (by decide) rfl 6 rfl (by decide) rfl (by omega) (by omega) (by decide) rfl ep11 dX10_messageAt_22 (fun hb12 kb12 => ?_)
      refine q_aret cx hr (Or.inl ⟨_, rfl⟩) hlk hB dX10_messageAt_23 ?_
      exact ⟨rfl, hb12, kb12, (tw_at3 hw4 lp0 up0 ep11)⟩
set_option maxHeartbeats 4000000 in
set_option maxRecDepth 100000 in
theorem f_nodeAt5 (l : Launch) (g : q_G) {K : Nat → Nat} {L : List Nat} (hN : L.Nodup) {f : Nat → va_E} (hT : q_Ty g K L f) (d5 : Nat → Nat) (s5 : tw_S) (v5 : Nat) (hv5 : v5 ∈ L) (kv5 : K v5 = 51) (p0 : Int) (lp0 : 0 ≤ p0) (up0 : p0 ≤ 9) (n5 : Nat) (hn5 : n5 ∈ L) (kn5 : K n5 = 201) (l5 : Nat) (hl5 : l5 ∈ L) (kl5 : K l5 = 207) (m5 : Nat) (hm5 : m5 ∈ L) (km5 : K m5 = 213) (hr0 : q_ir (q_r f v5 0) n5) (hr1 : q_ir (q_r f v5 1) l5) (hr2 : q_ir (q_r f v5 2) m5) (hw5 : tw_vw K L 51 57 63 69 f v5 n5 l5 m5 d5 s5) : q_Ct l g K L yX10_nodeAt cX10_nodeAt 2 (some (.object "WakeVillage$Node")) 0 0 [.ref v5, .int (q_i p0)] f [] (q_Pr (fun (z : Nat) (f1 : Nat → va_E) => f = f1 ∧ z ∈ L ∧ K z = 57 ∧ (z = d5 (1 + Int.toNat p0)))) := by
  refine q_ofb (by decide +kernel) hN hT (Nat.le_of_ble_eq_true rfl) ?_
  intro p e s m below meth c ls cx hr hlk hB hl
  have hl : lv_has ls 2 [(0, .ref v5), (1, .int (q_i p0))] := hl
  obtain ⟨H, hH⟩ : ∃ H : Heap, H = s.heap := ⟨_, rfl⟩
  obtain ⟨locs, hlocs⟩ : ∃ z : List Loc, z = [] := ⟨_, rfl⟩
  rw [← hH, ← hlocs] at hB
  rw [← hH, ← hlocs]
  refine q_ald_n cx dX10_nodeAt_0 rfl (lv_at hl 0 rfl) ?_
  refine q_gX10_13_51 cx hB hv5 kv5 hr0 dX10_nodeAt_1 (fun hb7 kb7 => ?_)
  refine q_ild_n cx dX10_nodeAt_4 rfl (lv_at hl 1 rfl) ?_
  refine q_iflt (tgt := 21) cx ⟨by omega, by omega⟩ dX10_nodeAt_5 (by decide) (fun c8 => ?_) (fun c8 => ?_)
  · exact absurd c8 (by omega)
  · refine q_ild_n cx dX10_nodeAt_8 rfl (lv_at hl 1 rfl) ?_
    refine q_ald_n cx dX10_nodeAt_9 rfl (lv_at hl 0 rfl) ?_
    refine q_gX10_13_51 cx hB hv5 kv5 hr0 dX10_nodeAt_10 (fun hb9 kb9 => ?_)
    refine q_alen (n := 10) cx hB hn5 kn5 (by decide) rfl 7 rfl rfl dX10_nodeAt_13 ?_
    refine q_icge (tgt := 21) cx ⟨by omega, by omega⟩ ⟨by decide, by decide⟩ dX10_nodeAt_14 (by decide) (fun c10 => ?_) (fun c10 => ?_)
    · exact absurd c10 (by omega)
    · refine q_ild_n cx dX10_nodeAt_17 rfl (lv_at hl 1 rfl) ?_
      refine lv_goto (tgt := 22) cx.1 cx.2.1 dX10_nodeAt_18 (by decide) ?_
      obtain ⟨p11, ep11⟩ : ∃ zz, q_ir (q_r f n5 (Int.toNat p0)) zz := ⟨_, q_irr _⟩
      refine q_aald (k2 := 57) (n := 10) cx hB hn5 kn5 (by decide) rfl 7 rfl (by decide) rfl (by omega) (by omega) (by decide) rfl ep11 dX10_nodeAt_22 (fun hb12 kb12 => ?_)
      refine q_aret cx hr (Or.inl ⟨_, rfl⟩) hlk hB dX10_nodeAt_23 ?_
      exact ⟨rfl, hb12, kb12, (tw_at1 hw5 lp0 up0 ep11)⟩
set_option maxHeartbeats 4000000 in
set_option maxRecDepth 100000 in
theorem f_linkAt5 (l : Launch) (g : q_G) {K : Nat → Nat} {L : List Nat} (hN : L.Nodup) {f : Nat → va_E} (hT : q_Ty g K L f) (d5 : Nat → Nat) (s5 : tw_S) (v5 : Nat) (hv5 : v5 ∈ L) (kv5 : K v5 = 51) (p0 : Int) (lp0 : 0 ≤ p0) (up0 : p0 ≤ 15) (n5 : Nat) (hn5 : n5 ∈ L) (kn5 : K n5 = 201) (l5 : Nat) (hl5 : l5 ∈ L) (kl5 : K l5 = 207) (m5 : Nat) (hm5 : m5 ∈ L) (km5 : K m5 = 213) (hr0 : q_ir (q_r f v5 0) n5) (hr1 : q_ir (q_r f v5 1) l5) (hr2 : q_ir (q_r f v5 2) m5) (hw5 : tw_vw K L 51 57 63 69 f v5 n5 l5 m5 d5 s5) : q_Ct l g K L yX10_linkAt cX10_linkAt 2 (some (.object "WakeVillage$Link")) 0 0 [.ref v5, .int (q_i p0)] f [] (q_Pr (fun (z : Nat) (f1 : Nat → va_E) => f = f1 ∧ z ∈ L ∧ K z = 63 ∧ (z = d5 (11 + Int.toNat p0)))) := by
  refine q_ofb (by decide +kernel) hN hT (Nat.le_of_ble_eq_true rfl) ?_
  intro p e s m below meth c ls cx hr hlk hB hl
  have hl : lv_has ls 2 [(0, .ref v5), (1, .int (q_i p0))] := hl
  obtain ⟨H, hH⟩ : ∃ H : Heap, H = s.heap := ⟨_, rfl⟩
  obtain ⟨locs, hlocs⟩ : ∃ z : List Loc, z = [] := ⟨_, rfl⟩
  rw [← hH, ← hlocs] at hB
  rw [← hH, ← hlocs]
  refine q_ald_n cx dX10_linkAt_0 rfl (lv_at hl 0 rfl) ?_
  refine q_gX10_19_51 cx hB hv5 kv5 hr1 dX10_linkAt_1 (fun hb7 kb7 => ?_)
  refine q_ild_n cx dX10_linkAt_4 rfl (lv_at hl 1 rfl) ?_
  refine q_iflt (tgt := 21) cx ⟨by omega, by omega⟩ dX10_linkAt_5 (by decide) (fun c8 => ?_) (fun c8 => ?_)
  · exact absurd c8 (by omega)
  · refine q_ild_n cx dX10_linkAt_8 rfl (lv_at hl 1 rfl) ?_
    refine q_ald_n cx dX10_linkAt_9 rfl (lv_at hl 0 rfl) ?_
    refine q_gX10_19_51 cx hB hv5 kv5 hr1 dX10_linkAt_10 (fun hb9 kb9 => ?_)
    refine q_alen (n := 16) cx hB hl5 kl5 (by decide) rfl 5 rfl rfl dX10_linkAt_13 ?_
    refine q_icge (tgt := 21) cx ⟨by omega, by omega⟩ ⟨by decide, by decide⟩ dX10_linkAt_14 (by decide) (fun c10 => ?_) (fun c10 => ?_)
    · exact absurd c10 (by omega)
    · refine q_ild_n cx dX10_linkAt_17 rfl (lv_at hl 1 rfl) ?_
      refine lv_goto (tgt := 22) cx.1 cx.2.1 dX10_linkAt_18 (by decide) ?_
      obtain ⟨p11, ep11⟩ : ∃ zz, q_ir (q_r f l5 (Int.toNat p0)) zz := ⟨_, q_irr _⟩
      refine q_aald (k2 := 63) (n := 16) cx hB hl5 kl5 (by decide) rfl 5 rfl (by decide) rfl (by omega) (by omega) (by decide) rfl ep11 dX10_linkAt_22 (fun hb12 kb12 => ?_)
      refine q_aret cx hr (Or.inl ⟨_, rfl⟩) hlk hB dX10_linkAt_23 ?_
      exact ⟨rfl, hb12, kb12, (tw_at2 hw5 lp0 up0 ep11)⟩
set_option maxHeartbeats 4000000 in
set_option maxRecDepth 100000 in
theorem f_messageAt5 (l : Launch) (g : q_G) {K : Nat → Nat} {L : List Nat} (hN : L.Nodup) {f : Nat → va_E} (hT : q_Ty g K L f) (d5 : Nat → Nat) (s5 : tw_S) (v5 : Nat) (hv5 : v5 ∈ L) (kv5 : K v5 = 51) (p0 : Int) (lp0 : 0 ≤ p0) (up0 : p0 ≤ 60) (n5 : Nat) (hn5 : n5 ∈ L) (kn5 : K n5 = 201) (l5 : Nat) (hl5 : l5 ∈ L) (kl5 : K l5 = 207) (m5 : Nat) (hm5 : m5 ∈ L) (km5 : K m5 = 213) (hr0 : q_ir (q_r f v5 0) n5) (hr1 : q_ir (q_r f v5 1) l5) (hr2 : q_ir (q_r f v5 2) m5) (hw5 : tw_vw K L 51 57 63 69 f v5 n5 l5 m5 d5 s5) : q_Ct l g K L yX10_messageAt cX10_messageAt 2 (some (.object "WakeVillage$Message")) 0 0 [.ref v5, .int (q_i p0)] f [] (q_Pr (fun (z : Nat) (f1 : Nat → va_E) => f = f1 ∧ z ∈ L ∧ K z = 69 ∧ (z = d5 (27 + Int.toNat p0)))) := by
  refine q_ofb (by decide +kernel) hN hT (Nat.le_of_ble_eq_true rfl) ?_
  intro p e s m below meth c ls cx hr hlk hB hl
  have hl : lv_has ls 2 [(0, .ref v5), (1, .int (q_i p0))] := hl
  obtain ⟨H, hH⟩ : ∃ H : Heap, H = s.heap := ⟨_, rfl⟩
  obtain ⟨locs, hlocs⟩ : ∃ z : List Loc, z = [] := ⟨_, rfl⟩
  rw [← hH, ← hlocs] at hB
  rw [← hH, ← hlocs]
  refine q_ald_n cx dX10_messageAt_0 rfl (lv_at hl 0 rfl) ?_
  refine q_gX10_25_51 cx hB hv5 kv5 hr2 dX10_messageAt_1 (fun hb7 kb7 => ?_)
  refine q_ild_n cx dX10_messageAt_4 rfl (lv_at hl 1 rfl) ?_
  refine q_iflt (tgt := 21) cx ⟨by omega, by omega⟩ dX10_messageAt_5 (by decide) (fun c8 => ?_) (fun c8 => ?_)
  · exact absurd c8 (by omega)
  · refine q_ild_n cx dX10_messageAt_8 rfl (lv_at hl 1 rfl) ?_
    refine q_ald_n cx dX10_messageAt_9 rfl (lv_at hl 0 rfl) ?_
    refine q_gX10_25_51 cx hB hv5 kv5 hr2 dX10_messageAt_10 (fun hb9 kb9 => ?_)
    refine q_alen (n := 61) cx hB hm5 km5 (by decide) rfl 6 rfl rfl dX10_messageAt_13 ?_
    refine q_icge (tgt := 21) cx ⟨by omega, by omega⟩ ⟨by decide, by decide⟩ dX10_messageAt_14 (by decide) (fun c10 => ?_) (fun c10 => ?_)
    · exact absurd c10 (by omega)
    · refine q_ild_n cx dX10_messageAt_17 rfl (lv_at hl 1 rfl) ?_
      refine lv_goto (tgt := 22) cx.1 cx.2.1 dX10_messageAt_18 (by decide) ?_
      obtain ⟨p11, ep11⟩ : ∃ zz, q_ir (q_r f m5 (Int.toNat p0)) zz := ⟨_, q_irr _⟩
      refine q_aald (k2 := 69) (n := 61) cx hB hm5 km5 (by decide) rfl 6 rfl (by decide) rfl (by omega) (by omega) (by decide) rfl ep11 dX10_messageAt_22 (fun hb12 kb12 => ?_)
      refine q_aret cx hr (Or.inl ⟨_, rfl⟩) hlk hB dX10_messageAt_23 ?_
      exact ⟨rfl, hb12, kb12, (tw_at3 hw5 lp0 up0 ep11)⟩
set_option maxHeartbeats 4000000 in
set_option maxRecDepth 100000 in
theorem f_nodeAt6 (l : Launch) (g : q_G) {K : Nat → Nat} {L : List Nat} (hN : L.Nodup) {f : Nat → va_E} (hT : q_Ty g K L f) (d6 : Nat → Nat) (s6 : tw_S) (v6 : Nat) (hv6 : v6 ∈ L) (kv6 : K v6 = 52) (p0 : Int) (lp0 : 0 ≤ p0) (up0 : p0 ≤ 9) (n6 : Nat) (hn6 : n6 ∈ L) (kn6 : K n6 = 202) (l6 : Nat) (hl6 : l6 ∈ L) (kl6 : K l6 = 208) (m6 : Nat) (hm6 : m6 ∈ L) (km6 : K m6 = 214) (hr0 : q_ir (q_r f v6 0) n6) (hr1 : q_ir (q_r f v6 1) l6) (hr2 : q_ir (q_r f v6 2) m6) (hw6 : tw_vw K L 52 58 64 70 f v6 n6 l6 m6 d6 s6) : q_Ct l g K L yX10_nodeAt cX10_nodeAt 2 (some (.object "WakeVillage$Node")) 0 0 [.ref v6, .int (q_i p0)] f [] (q_Pr (fun (z : Nat) (f1 : Nat → va_E) => f = f1 ∧ z ∈ L ∧ K z = 58 ∧ (z = d6 (1 + Int.toNat p0)))) := by
  refine q_ofb (by decide +kernel) hN hT (Nat.le_of_ble_eq_true rfl) ?_
  intro p e s m below meth c ls cx hr hlk hB hl
  have hl : lv_has ls 2 [(0, .ref v6), (1, .int (q_i p0))] := hl
  obtain ⟨H, hH⟩ : ∃ H : Heap, H = s.heap := ⟨_, rfl⟩
  obtain ⟨locs, hlocs⟩ : ∃ z : List Loc, z = [] := ⟨_, rfl⟩
  rw [← hH, ← hlocs] at hB
  rw [← hH, ← hlocs]
  refine q_ald_n cx dX10_nodeAt_0 rfl (lv_at hl 0 rfl) ?_
  refine q_gX10_13_52 cx hB hv6 kv6 hr0 dX10_nodeAt_1 (fun hb7 kb7 => ?_)
  refine q_ild_n cx dX10_nodeAt_4 rfl (lv_at hl 1 rfl) ?_
  refine q_iflt (tgt := 21) cx ⟨by omega, by omega⟩ dX10_nodeAt_5 (by decide) (fun c8 => ?_) (fun c8 => ?_)
  · exact absurd c8 (by omega)
  · refine q_ild_n cx dX10_nodeAt_8 rfl (lv_at hl 1 rfl) ?_
    refine q_ald_n cx dX10_nodeAt_9 rfl (lv_at hl 0 rfl) ?_
    refine q_gX10_13_52 cx hB hv6 kv6 hr0 dX10_nodeAt_10 (fun hb9 kb9 => ?_)
    refine q_alen (n := 10) cx hB hn6 kn6 (by decide) rfl 7 rfl rfl dX10_nodeAt_13 ?_
    refine q_icge (tgt := 21) cx ⟨by omega, by omega⟩ ⟨by decide, by decide⟩ dX10_nodeAt_14 (by decide) (fun c10 => ?_) (fun c10 => ?_)
    · exact absurd c10 (by omega)
    · refine q_ild_n cx dX10_nodeAt_17 rfl (lv_at hl 1 rfl) ?_
      refine lv_goto (tgt := 22) cx.1 cx.2.1 dX10_nodeAt_18 (by decide) ?_
      obtain ⟨p11, ep11⟩ : ∃ zz, q_ir (q_r f n6 (Int.toNat p0)) zz := ⟨_, q_irr _⟩
      refine q_aald (k2 := 58) (n := 10) cx hB hn6 kn6 (by decide) rfl 7 rfl (by decide) rfl (by omega) (by omega) (by decide) rfl ep11 dX10_nodeAt_22 (fun hb12 kb12 => ?_)
      refine q_aret cx hr (Or.inl ⟨_, rfl⟩) hlk hB dX10_nodeAt_23 ?_
      exact ⟨rfl, hb12, kb12, (tw_at1 hw6 lp0 up0 ep11)⟩
set_option maxHeartbeats 4000000 in
set_option maxRecDepth 100000 in
theorem f_linkAt6 (l : Launch) (g : q_G) {K : Nat → Nat} {L : List Nat} (hN : L.Nodup) {f : Nat → va_E} (hT : q_Ty g K L f) (d6 : Nat → Nat) (s6 : tw_S) (v6 : Nat) (hv6 : v6 ∈ L) (kv6 : K v6 = 52) (p0 : Int) (lp0 : 0 ≤ p0) (up0 : p0 ≤ 15) (n6 : Nat) (hn6 : n6 ∈ L) (kn6 : K n6 = 202) (l6 : Nat) (hl6 : l6 ∈ L) (kl6 : K l6 = 208) (m6 : Nat) (hm6 : m6 ∈ L) (km6 : K m6 = 214) (hr0 : q_ir (q_r f v6 0) n6) (hr1 : q_ir (q_r f v6 1) l6) (hr2 : q_ir (q_r f v6 2) m6) (hw6 : tw_vw K L 52 58 64 70 f v6 n6 l6 m6 d6 s6) : q_Ct l g K L yX10_linkAt cX10_linkAt 2 (some (.object "WakeVillage$Link")) 0 0 [.ref v6, .int (q_i p0)] f [] (q_Pr (fun (z : Nat) (f1 : Nat → va_E) => f = f1 ∧ z ∈ L ∧ K z = 64 ∧ (z = d6 (11 + Int.toNat p0)))) := by
  refine q_ofb (by decide +kernel) hN hT (Nat.le_of_ble_eq_true rfl) ?_
  intro p e s m below meth c ls cx hr hlk hB hl
  have hl : lv_has ls 2 [(0, .ref v6), (1, .int (q_i p0))] := hl
  obtain ⟨H, hH⟩ : ∃ H : Heap, H = s.heap := ⟨_, rfl⟩
  obtain ⟨locs, hlocs⟩ : ∃ z : List Loc, z = [] := ⟨_, rfl⟩
  rw [← hH, ← hlocs] at hB
  rw [← hH, ← hlocs]
  refine q_ald_n cx dX10_linkAt_0 rfl (lv_at hl 0 rfl) ?_
  refine q_gX10_19_52 cx hB hv6 kv6 hr1 dX10_linkAt_1 (fun hb7 kb7 => ?_)
  refine q_ild_n cx dX10_linkAt_4 rfl (lv_at hl 1 rfl) ?_
  refine q_iflt (tgt := 21) cx ⟨by omega, by omega⟩ dX10_linkAt_5 (by decide) (fun c8 => ?_) (fun c8 => ?_)
  · exact absurd c8 (by omega)
  · refine q_ild_n cx dX10_linkAt_8 rfl (lv_at hl 1 rfl) ?_
    refine q_ald_n cx dX10_linkAt_9 rfl (lv_at hl 0 rfl) ?_
    refine q_gX10_19_52 cx hB hv6 kv6 hr1 dX10_linkAt_10 (fun hb9 kb9 => ?_)
    refine q_alen (n := 16) cx hB hl6 kl6 (by decide) rfl 5 rfl rfl dX10_linkAt_13 ?_
    refine q_icge (tgt := 21) cx ⟨by omega, by omega⟩ ⟨by decide, by decide⟩ dX10_linkAt_14 (by decide) (fun c10 => ?_) (fun c10 => ?_)
    · exact absurd c10 (by omega)
    · refine q_ild_n cx dX10_linkAt_17 rfl (lv_at hl 1 rfl) ?_
      refine lv_goto (tgt := 22) cx.1 cx.2.1 dX10_linkAt_18 (by decide) ?_
      obtain ⟨p11, ep11⟩ : ∃ zz, q_ir (q_r f l6 (Int.toNat p0)) zz := ⟨_, q_irr _⟩
      refine q_aald (k2 := 64) (n := 16) cx hB hl6 kl6 (by decide) rfl 5 rfl (by decide) rfl (by omega) (by omega) (by decide) rfl ep11 dX10_linkAt_22 (fun hb12 kb12 => ?_)
      refine q_aret cx hr (Or.inl ⟨_, rfl⟩) hlk hB dX10_linkAt_23 ?_
      exact ⟨rfl, hb12, kb12, (tw_at2 hw6 lp0 up0 ep11)⟩
set_option maxHeartbeats 4000000 in
set_option maxRecDepth 100000 in
theorem f_messageAt6 (l : Launch) (g : q_G) {K : Nat → Nat} {L : List Nat} (hN : L.Nodup) {f : Nat → va_E} (hT : q_Ty g K L f) (d6 : Nat → Nat) (s6 : tw_S) (v6 : Nat) (hv6 : v6 ∈ L) (kv6 : K v6 = 52) (p0 : Int) (lp0 : 0 ≤ p0) (up0 : p0 ≤ 60) (n6 : Nat) (hn6 : n6 ∈ L) (kn6 : K n6 = 202) (l6 : Nat) (hl6 : l6 ∈ L) (kl6 : K l6 = 208) (m6 : Nat) (hm6 : m6 ∈ L) (km6 : K m6 = 214) (hr0 : q_ir (q_r f v6 0) n6) (hr1 : q_ir (q_r f v6 1) l6) (hr2 : q_ir (q_r f v6 2) m6) (hw6 : tw_vw K L 52 58 64 70 f v6 n6 l6 m6 d6 s6) : q_Ct l g K L yX10_messageAt cX10_messageAt 2 (some (.object "WakeVillage$Message")) 0 0 [.ref v6, .int (q_i p0)] f [] (q_Pr (fun (z : Nat) (f1 : Nat → va_E) => f = f1 ∧ z ∈ L ∧ K z = 70 ∧ (z = d6 (27 + Int.toNat p0)))) := by
  refine q_ofb (by decide +kernel) hN hT (Nat.le_of_ble_eq_true rfl) ?_
  intro p e s m below meth c ls cx hr hlk hB hl
  have hl : lv_has ls 2 [(0, .ref v6), (1, .int (q_i p0))] := hl
  obtain ⟨H, hH⟩ : ∃ H : Heap, H = s.heap := ⟨_, rfl⟩
  obtain ⟨locs, hlocs⟩ : ∃ z : List Loc, z = [] := ⟨_, rfl⟩
  rw [← hH, ← hlocs] at hB
  rw [← hH, ← hlocs]
  refine q_ald_n cx dX10_messageAt_0 rfl (lv_at hl 0 rfl) ?_
  refine q_gX10_25_52 cx hB hv6 kv6 hr2 dX10_messageAt_1 (fun hb7 kb7 => ?_)
  refine q_ild_n cx dX10_messageAt_4 rfl (lv_at hl 1 rfl) ?_
  refine q_iflt (tgt := 21) cx ⟨by omega, by omega⟩ dX10_messageAt_5 (by decide) (fun c8 => ?_) (fun c8 => ?_)
  · exact absurd c8 (by omega)
  · refine q_ild_n cx dX10_messageAt_8 rfl (lv_at hl 1 rfl) ?_
    refine q_ald_n cx dX10_messageAt_9 rfl (lv_at hl 0 rfl) ?_
    refine q_gX10_25_52 cx hB hv6 kv6 hr2 dX10_messageAt_10 (fun hb9 kb9 => ?_)
    refine q_alen (n := 61) cx hB hm6 km6 (by decide) rfl 6 rfl rfl dX10_messageAt_13 ?_
    refine q_icge (tgt := 21) cx ⟨by omega, by omega⟩ ⟨by decide, by decide⟩ dX10_messageAt_14 (by decide) (fun c10 => ?_) (fun c10 => ?_)
    · exact absurd c10 (by omega)
    · refine q_ild_n cx dX10_messageAt_17 rfl (lv_at hl 1 rfl) ?_
      refine lv_goto (tgt := 22) cx.1 cx.2.1 dX10_messageAt_18 (by decide) ?_
      obtain ⟨p11, ep11⟩ : ∃ zz, q_ir (q_r f m6 (Int.toNat p0)) zz := ⟨_, q_irr _⟩
      refine q_aald (k2 := 70) (n := 61) cx hB hm6 km6 (by decide) rfl 6 rfl (by decide) rfl (by omega) (by omega) (by decide) rfl ep11 dX10_messageAt_22 (fun hb12 kb12 => ?_)
      refine q_aret cx hr (Or.inl ⟨_, rfl⟩) hlk hB dX10_messageAt_23 ?_
      exact ⟨rfl, hb12, kb12, (tw_at3 hw6 lp0 up0 ep11)⟩
set_option maxHeartbeats 4000000 in
set_option maxRecDepth 100000 in
theorem f_nodeAt7 (l : Launch) (g : q_G) {K : Nat → Nat} {L : List Nat} (hN : L.Nodup) {f : Nat → va_E} (hT : q_Ty g K L f) (d7 : Nat → Nat) (s7 : tw_S) (v7 : Nat) (hv7 : v7 ∈ L) (kv7 : K v7 = 53) (p0 : Int) (lp0 : 0 ≤ p0) (up0 : p0 ≤ 9) (n7 : Nat) (hn7 : n7 ∈ L) (kn7 : K n7 = 203) (l7 : Nat) (hl7 : l7 ∈ L) (kl7 : K l7 = 209) (m7 : Nat) (hm7 : m7 ∈ L) (km7 : K m7 = 215) (hr0 : q_ir (q_r f v7 0) n7) (hr1 : q_ir (q_r f v7 1) l7) (hr2 : q_ir (q_r f v7 2) m7) (hw7 : tw_vw K L 53 59 65 71 f v7 n7 l7 m7 d7 s7) : q_Ct l g K L yX10_nodeAt cX10_nodeAt 2 (some (.object "WakeVillage$Node")) 0 0 [.ref v7, .int (q_i p0)] f [] (q_Pr (fun (z : Nat) (f1 : Nat → va_E) => f = f1 ∧ z ∈ L ∧ K z = 59 ∧ (z = d7 (1 + Int.toNat p0)))) := by
  refine q_ofb (by decide +kernel) hN hT (Nat.le_of_ble_eq_true rfl) ?_
  intro p e s m below meth c ls cx hr hlk hB hl
  have hl : lv_has ls 2 [(0, .ref v7), (1, .int (q_i p0))] := hl
  obtain ⟨H, hH⟩ : ∃ H : Heap, H = s.heap := ⟨_, rfl⟩
  obtain ⟨locs, hlocs⟩ : ∃ z : List Loc, z = [] := ⟨_, rfl⟩
  rw [← hH, ← hlocs] at hB
  rw [← hH, ← hlocs]
  refine q_ald_n cx dX10_nodeAt_0 rfl (lv_at hl 0 rfl) ?_
  refine q_gX10_13_53 cx hB hv7 kv7 hr0 dX10_nodeAt_1 (fun hb7 kb7 => ?_)
  refine q_ild_n cx dX10_nodeAt_4 rfl (lv_at hl 1 rfl) ?_
  refine q_iflt (tgt := 21) cx ⟨by omega, by omega⟩ dX10_nodeAt_5 (by decide) (fun c8 => ?_) (fun c8 => ?_)
  · exact absurd c8 (by omega)
  · refine q_ild_n cx dX10_nodeAt_8 rfl (lv_at hl 1 rfl) ?_
    refine q_ald_n cx dX10_nodeAt_9 rfl (lv_at hl 0 rfl) ?_
    refine q_gX10_13_53 cx hB hv7 kv7 hr0 dX10_nodeAt_10 (fun hb9 kb9 => ?_)
    refine q_alen (n := 10) cx hB hn7 kn7 (by decide) rfl 7 rfl rfl dX10_nodeAt_13 ?_
    refine q_icge (tgt := 21) cx ⟨by omega, by omega⟩ ⟨by decide, by decide⟩ dX10_nodeAt_14 (by decide) (fun c10 => ?_) (fun c10 => ?_)
    · exact absurd c10 (by omega)
    · refine q_ild_n cx dX10_nodeAt_17 rfl (lv_at hl 1 rfl) ?_
      refine lv_goto (tgt := 22) cx.1 cx.2.1 dX10_nodeAt_18 (by decide) ?_
      obtain ⟨p11, ep11⟩ : ∃ zz, q_ir (q_r f n7 (Int.toNat p0)) zz := ⟨_, q_irr _⟩
      refine q_aald (k2 := 59) (n := 10) cx hB hn7 kn7 (by decide) rfl 7 rfl (by decide) rfl (by omega) (by omega) (by decide) rfl ep11 dX10_nodeAt_22 (fun hb12 kb12 => ?_)
      refine q_aret cx hr (Or.inl ⟨_, rfl⟩) hlk hB dX10_nodeAt_23 ?_
      exact ⟨rfl, hb12, kb12, (tw_at1 hw7 lp0 up0 ep11)⟩
set_option maxHeartbeats 4000000 in
set_option maxRecDepth 100000 in
theorem f_linkAt7 (l : Launch) (g : q_G) {K : Nat → Nat} {L : List Nat} (hN : L.Nodup) {f : Nat → va_E} (hT : q_Ty g K L f) (d7 : Nat → Nat) (s7 : tw_S) (v7 : Nat) (hv7 : v7 ∈ L) (kv7 : K v7 = 53) (p0 : Int) (lp0 : 0 ≤ p0) (up0 : p0 ≤ 15) (n7 : Nat) (hn7 : n7 ∈ L) (kn7 : K n7 = 203) (l7 : Nat) (hl7 : l7 ∈ L) (kl7 : K l7 = 209) (m7 : Nat) (hm7 : m7 ∈ L) (km7 : K m7 = 215) (hr0 : q_ir (q_r f v7 0) n7) (hr1 : q_ir (q_r f v7 1) l7) (hr2 : q_ir (q_r f v7 2) m7) (hw7 : tw_vw K L 53 59 65 71 f v7 n7 l7 m7 d7 s7) : q_Ct l g K L yX10_linkAt cX10_linkAt 2 (some (.object "WakeVillage$Link")) 0 0 [.ref v7, .int (q_i p0)] f [] (q_Pr (fun (z : Nat) (f1 : Nat → va_E) => f = f1 ∧ z ∈ L ∧ K z = 65 ∧ (z = d7 (11 + Int.toNat p0)))) := by
  refine q_ofb (by decide +kernel) hN hT (Nat.le_of_ble_eq_true rfl) ?_
  intro p e s m below meth c ls cx hr hlk hB hl
  have hl : lv_has ls 2 [(0, .ref v7), (1, .int (q_i p0))] := hl
  obtain ⟨H, hH⟩ : ∃ H : Heap, H = s.heap := ⟨_, rfl⟩
  obtain ⟨locs, hlocs⟩ : ∃ z : List Loc, z = [] := ⟨_, rfl⟩
  rw [← hH, ← hlocs] at hB
  rw [← hH, ← hlocs]
  refine q_ald_n cx dX10_linkAt_0 rfl (lv_at hl 0 rfl) ?_
  refine q_gX10_19_53 cx hB hv7 kv7 hr1 dX10_linkAt_1 (fun hb7 kb7 => ?_)
  refine q_ild_n cx dX10_linkAt_4 rfl (lv_at hl 1 rfl) ?_
  refine q_iflt (tgt := 21) cx ⟨by omega, by omega⟩ dX10_linkAt_5 (by decide) (fun c8 => ?_) (fun c8 => ?_)
  · exact absurd c8 (by omega)
  · refine q_ild_n cx dX10_linkAt_8 rfl (lv_at hl 1 rfl) ?_
    refine q_ald_n cx dX10_linkAt_9 rfl (lv_at hl 0 rfl) ?_
    refine q_gX10_19_53 cx hB hv7 kv7 hr1 dX10_linkAt_10 (fun hb9 kb9 => ?_)
    refine q_alen (n := 16) cx hB hl7 kl7 (by decide) rfl 5 rfl rfl dX10_linkAt_13 ?_
    refine q_icge (tgt := 21) cx ⟨by omega, by omega⟩ ⟨by decide, by decide⟩ dX10_linkAt_14 (by decide) (fun c10 => ?_) (fun c10 => ?_)
    · exact absurd c10 (by omega)
    · refine q_ild_n cx dX10_linkAt_17 rfl (lv_at hl 1 rfl) ?_
      refine lv_goto (tgt := 22) cx.1 cx.2.1 dX10_linkAt_18 (by decide) ?_
      obtain ⟨p11, ep11⟩ : ∃ zz, q_ir (q_r f l7 (Int.toNat p0)) zz := ⟨_, q_irr _⟩
      refine q_aald (k2 := 65) (n := 16) cx hB hl7 kl7 (by decide) rfl 5 rfl (by decide) rfl (by omega) (by omega) (by decide) rfl ep11 dX10_linkAt_22 (fun hb12 kb12 => ?_)
      refine q_aret cx hr (Or.inl ⟨_, rfl⟩) hlk hB dX10_linkAt_23 ?_
      exact ⟨rfl, hb12, kb12, (tw_at2 hw7 lp0 up0 ep11)⟩
set_option maxHeartbeats 4000000 in
set_option maxRecDepth 100000 in
theorem f_messageAt7 (l : Launch) (g : q_G) {K : Nat → Nat} {L : List Nat} (hN : L.Nodup) {f : Nat → va_E} (hT : q_Ty g K L f) (d7 : Nat → Nat) (s7 : tw_S) (v7 : Nat) (hv7 : v7 ∈ L) (kv7 : K v7 = 53) (p0 : Int) (lp0 : 0 ≤ p0) (up0 : p0 ≤ 60) (n7 : Nat) (hn7 : n7 ∈ L) (kn7 : K n7 = 203) (l7 : Nat) (hl7 : l7 ∈ L) (kl7 : K l7 = 209) (m7 : Nat) (hm7 : m7 ∈ L) (km7 : K m7 = 215) (hr0 : q_ir (q_r f v7 0) n7) (hr1 : q_ir (q_r f v7 1) l7) (hr2 : q_ir (q_r f v7 2) m7) (hw7 : tw_vw K L 53 59 65 71 f v7 n7 l7 m7 d7 s7) : q_Ct l g K L yX10_messageAt cX10_messageAt 2 (some (.object "WakeVillage$Message")) 0 0 [.ref v7, .int (q_i p0)] f [] (q_Pr (fun (z : Nat) (f1 : Nat → va_E) => f = f1 ∧ z ∈ L ∧ K z = 71 ∧ (z = d7 (27 + Int.toNat p0)))) := by
  refine q_ofb (by decide +kernel) hN hT (Nat.le_of_ble_eq_true rfl) ?_
  intro p e s m below meth c ls cx hr hlk hB hl
  have hl : lv_has ls 2 [(0, .ref v7), (1, .int (q_i p0))] := hl
  obtain ⟨H, hH⟩ : ∃ H : Heap, H = s.heap := ⟨_, rfl⟩
  obtain ⟨locs, hlocs⟩ : ∃ z : List Loc, z = [] := ⟨_, rfl⟩
  rw [← hH, ← hlocs] at hB
  rw [← hH, ← hlocs]
  refine q_ald_n cx dX10_messageAt_0 rfl (lv_at hl 0 rfl) ?_
  refine q_gX10_25_53 cx hB hv7 kv7 hr2 dX10_messageAt_1 (fun hb7 kb7 => ?_)
  refine q_ild_n cx dX10_messageAt_4 rfl (lv_at hl 1 rfl) ?_
  refine q_iflt (tgt := 21) cx ⟨by omega, by omega⟩ dX10_messageAt_5 (by decide) (fun c8 => ?_) (fun c8 => ?_)
  · exact absurd c8 (by omega)
  · refine q_ild_n cx dX10_messageAt_8 rfl (lv_at hl 1 rfl) ?_
    refine q_ald_n cx dX10_messageAt_9 rfl (lv_at hl 0 rfl) ?_
    refine q_gX10_25_53 cx hB hv7 kv7 hr2 dX10_messageAt_10 (fun hb9 kb9 => ?_)
    refine q_alen (n := 61) cx hB hm7 km7 (by decide) rfl 6 rfl rfl dX10_messageAt_13 ?_
    refine q_icge (tgt := 21) cx ⟨by omega, by omega⟩ ⟨by decide, by decide⟩ dX10_messageAt_14 (by decide) (fun c10 => ?_) (fun c10 => ?_)
    · exact absurd c10 (by omega)
    · refine q_ild_n cx dX10_messageAt_17 rfl (lv_at hl 1 rfl) ?_
      refine lv_goto (tgt := 22) cx.1 cx.2.1 dX10_messageAt_18 (by decide) ?_
      obtain ⟨p11, ep11⟩ : ∃ zz, q_ir (q_r f m7 (Int.toNat p0)) zz := ⟨_, q_irr _⟩
      refine q_aald (k2 := 71) (n := 61) cx hB hm7 km7 (by decide) rfl 6 rfl (by decide) rfl (by omega) (by omega) (by decide) rfl ep11 dX10_messageAt_22 (fun hb12 kb12 => ?_)
      refine q_aret cx hr (Or.inl ⟨_, rfl⟩) hlk hB dX10_messageAt_23 ?_
      exact ⟨rfl, hb12, kb12, (tw_at3 hw7 lp0 up0 ep11)⟩
set_option maxHeartbeats 4000000 in
set_option maxRecDepth 100000 in
theorem f_nodeAt8 (l : Launch) (g : q_G) {K : Nat → Nat} {L : List Nat} (hN : L.Nodup) {f : Nat → va_E} (hT : q_Ty g K L f) (d8 : Nat → Nat) (s8 : tw_S) (v8 : Nat) (hv8 : v8 ∈ L) (kv8 : K v8 = 54) (p0 : Int) (lp0 : 0 ≤ p0) (up0 : p0 ≤ 9) (n8 : Nat) (hn8 : n8 ∈ L) (kn8 : K n8 = 204) (l8 : Nat) (hl8 : l8 ∈ L) (kl8 : K l8 = 210) (m8 : Nat) (hm8 : m8 ∈ L) (km8 : K m8 = 216) (hr0 : q_ir (q_r f v8 0) n8) (hr1 : q_ir (q_r f v8 1) l8) (hr2 : q_ir (q_r f v8 2) m8) (hw8 : tw_vw K L 54 60 66 72 f v8 n8 l8 m8 d8 s8) : q_Ct l g K L yX10_nodeAt cX10_nodeAt 2 (some (.object "WakeVillage$Node")) 0 0 [.ref v8, .int (q_i p0)] f [] (q_Pr (fun (z : Nat) (f1 : Nat → va_E) => f = f1 ∧ z ∈ L ∧ K z = 60 ∧ (z = d8 (1 + Int.toNat p0)))) := by
  refine q_ofb (by decide +kernel) hN hT (Nat.le_of_ble_eq_true rfl) ?_
  intro p e s m below meth c ls cx hr hlk hB hl
  have hl : lv_has ls 2 [(0, .ref v8), (1, .int (q_i p0))] := hl
  obtain ⟨H, hH⟩ : ∃ H : Heap, H = s.heap := ⟨_, rfl⟩
  obtain ⟨locs, hlocs⟩ : ∃ z : List Loc, z = [] := ⟨_, rfl⟩
  rw [← hH, ← hlocs] at hB
  rw [← hH, ← hlocs]
  refine q_ald_n cx dX10_nodeAt_0 rfl (lv_at hl 0 rfl) ?_
  refine q_gX10_13_54 cx hB hv8 kv8 hr0 dX10_nodeAt_1 (fun hb7 kb7 => ?_)
  refine q_ild_n cx dX10_nodeAt_4 rfl (lv_at hl 1 rfl) ?_
  refine q_iflt (tgt := 21) cx ⟨by omega, by omega⟩ dX10_nodeAt_5 (by decide) (fun c8 => ?_) (fun c8 => ?_)
  · exact absurd c8 (by omega)
  · refine q_ild_n cx dX10_nodeAt_8 rfl (lv_at hl 1 rfl) ?_
    refine q_ald_n cx dX10_nodeAt_9 rfl (lv_at hl 0 rfl) ?_
    refine q_gX10_13_54 cx hB hv8 kv8 hr0 dX10_nodeAt_10 (fun hb9 kb9 => ?_)
    refine q_alen (n := 10) cx hB hn8 kn8 (by decide) rfl 7 rfl rfl dX10_nodeAt_13 ?_
    refine q_icge (tgt := 21) cx ⟨by omega, by omega⟩ ⟨by decide, by decide⟩ dX10_nodeAt_14 (by decide) (fun c10 => ?_) (fun c10 => ?_)
    · exact absurd c10 (by omega)
    · refine q_ild_n cx dX10_nodeAt_17 rfl (lv_at hl 1 rfl) ?_
      refine lv_goto (tgt := 22) cx.1 cx.2.1 dX10_nodeAt_18 (by decide) ?_
      obtain ⟨p11, ep11⟩ : ∃ zz, q_ir (q_r f n8 (Int.toNat p0)) zz := ⟨_, q_irr _⟩
      refine q_aald (k2 := 60) (n := 10) cx hB hn8 kn8 (by decide) rfl 7 rfl (by decide) rfl (by omega) (by omega) (by decide) rfl ep11 dX10_nodeAt_22 (fun hb12 kb12 => ?_)
      refine q_aret cx hr (Or.inl ⟨_, rfl⟩) hlk hB dX10_nodeAt_23 ?_
      exact ⟨rfl, hb12, kb12, (tw_at1 hw8 lp0 up0 ep11)⟩
set_option maxHeartbeats 4000000 in
set_option maxRecDepth 100000 in
theorem f_linkAt8 (l : Launch) (g : q_G) {K : Nat → Nat} {L : List Nat} (hN : L.Nodup) {f : Nat → va_E} (hT : q_Ty g K L f) (d8 : Nat → Nat) (s8 : tw_S) (v8 : Nat) (hv8 : v8 ∈ L) (kv8 : K v8 = 54) (p0 : Int) (lp0 : 0 ≤ p0) (up0 : p0 ≤ 15) (n8 : Nat) (hn8 : n8 ∈ L) (kn8 : K n8 = 204) (l8 : Nat) (hl8 : l8 ∈ L) (kl8 : K l8 = 210) (m8 : Nat) (hm8 : m8 ∈ L) (km8 : K m8 = 216) (hr0 : q_ir (q_r f v8 0) n8) (hr1 : q_ir (q_r f v8 1) l8) (hr2 : q_ir (q_r f v8 2) m8) (hw8 : tw_vw K L 54 60 66 72 f v8 n8 l8 m8 d8 s8) : q_Ct l g K L yX10_linkAt cX10_linkAt 2 (some (.object "WakeVillage$Link")) 0 0 [.ref v8, .int (q_i p0)] f [] (q_Pr (fun (z : Nat) (f1 : Nat → va_E) => f = f1 ∧ z ∈ L ∧ K z = 66 ∧ (z = d8 (11 + Int.toNat p0)))) := by
  refine q_ofb (by decide +kernel) hN hT (Nat.le_of_ble_eq_true rfl) ?_
  intro p e s m below meth c ls cx hr hlk hB hl
  have hl : lv_has ls 2 [(0, .ref v8), (1, .int (q_i p0))] := hl
  obtain ⟨H, hH⟩ : ∃ H : Heap, H = s.heap := ⟨_, rfl⟩
  obtain ⟨locs, hlocs⟩ : ∃ z : List Loc, z = [] := ⟨_, rfl⟩
  rw [← hH, ← hlocs] at hB
  rw [← hH, ← hlocs]
  refine q_ald_n cx dX10_linkAt_0 rfl (lv_at hl 0 rfl) ?_
  refine q_gX10_19_54 cx hB hv8 kv8 hr1 dX10_linkAt_1 (fun hb7 kb7 => ?_)
  refine q_ild_n cx dX10_linkAt_4 rfl (lv_at hl 1 rfl) ?_
  refine q_iflt (tgt := 21) cx ⟨by omega, by omega⟩ dX10_linkAt_5 (by decide) (fun c8 => ?_) (fun c8 => ?_)
  · exact absurd c8 (by omega)
  · refine q_ild_n cx dX10_linkAt_8 rfl (lv_at hl 1 rfl) ?_
    refine q_ald_n cx dX10_linkAt_9 rfl (lv_at hl 0 rfl) ?_
    refine q_gX10_19_54 cx hB hv8 kv8 hr1 dX10_linkAt_10 (fun hb9 kb9 => ?_)
    refine q_alen (n := 16) cx hB hl8 kl8 (by decide) rfl 5 rfl rfl dX10_linkAt_13 ?_
    refine q_icge (tgt := 21) cx ⟨by omega, by omega⟩ ⟨by decide, by decide⟩ dX10_linkAt_14 (by decide) (fun c10 => ?_) (fun c10 => ?_)
    · exact absurd c10 (by omega)
    · refine q_ild_n cx dX10_linkAt_17 rfl (lv_at hl 1 rfl) ?_
      refine lv_goto (tgt := 22) cx.1 cx.2.1 dX10_linkAt_18 (by decide) ?_
      obtain ⟨p11, ep11⟩ : ∃ zz, q_ir (q_r f l8 (Int.toNat p0)) zz := ⟨_, q_irr _⟩
      refine q_aald (k2 := 66) (n := 16) cx hB hl8 kl8 (by decide) rfl 5 rfl (by decide) rfl (by omega) (by omega) (by decide) rfl ep11 dX10_linkAt_22 (fun hb12 kb12 => ?_)
      refine q_aret cx hr (Or.inl ⟨_, rfl⟩) hlk hB dX10_linkAt_23 ?_
      exact ⟨rfl, hb12, kb12, (tw_at2 hw8 lp0 up0 ep11)⟩
set_option maxHeartbeats 4000000 in
set_option maxRecDepth 100000 in
theorem f_messageAt8 (l : Launch) (g : q_G) {K : Nat → Nat} {L : List Nat} (hN : L.Nodup) {f : Nat → va_E} (hT : q_Ty g K L f) (d8 : Nat → Nat) (s8 : tw_S) (v8 : Nat) (hv8 : v8 ∈ L) (kv8 : K v8 = 54) (p0 : Int) (lp0 : 0 ≤ p0) (up0 : p0 ≤ 60) (n8 : Nat) (hn8 : n8 ∈ L) (kn8 : K n8 = 204) (l8 : Nat) (hl8 : l8 ∈ L) (kl8 : K l8 = 210) (m8 : Nat) (hm8 : m8 ∈ L) (km8 : K m8 = 216) (hr0 : q_ir (q_r f v8 0) n8) (hr1 : q_ir (q_r f v8 1) l8) (hr2 : q_ir (q_r f v8 2) m8) (hw8 : tw_vw K L 54 60 66 72 f v8 n8 l8 m8 d8 s8) : q_Ct l g K L yX10_messageAt cX10_messageAt 2 (some (.object "WakeVillage$Message")) 0 0 [.ref v8, .int (q_i p0)] f [] (q_Pr (fun (z : Nat) (f1 : Nat → va_E) => f = f1 ∧ z ∈ L ∧ K z = 72 ∧ (z = d8 (27 + Int.toNat p0)))) := by
  refine q_ofb (by decide +kernel) hN hT (Nat.le_of_ble_eq_true rfl) ?_
  intro p e s m below meth c ls cx hr hlk hB hl
  have hl : lv_has ls 2 [(0, .ref v8), (1, .int (q_i p0))] := hl
  obtain ⟨H, hH⟩ : ∃ H : Heap, H = s.heap := ⟨_, rfl⟩
  obtain ⟨locs, hlocs⟩ : ∃ z : List Loc, z = [] := ⟨_, rfl⟩
  rw [← hH, ← hlocs] at hB
  rw [← hH, ← hlocs]
  refine q_ald_n cx dX10_messageAt_0 rfl (lv_at hl 0 rfl) ?_
  refine q_gX10_25_54 cx hB hv8 kv8 hr2 dX10_messageAt_1 (fun hb7 kb7 => ?_)
  refine q_ild_n cx dX10_messageAt_4 rfl (lv_at hl 1 rfl) ?_
  refine q_iflt (tgt := 21) cx ⟨by omega, by omega⟩ dX10_messageAt_5 (by decide) (fun c8 => ?_) (fun c8 => ?_)
  · exact absurd c8 (by omega)
  · refine q_ild_n cx dX10_messageAt_8 rfl (lv_at hl 1 rfl) ?_
    refine q_ald_n cx dX10_messageAt_9 rfl (lv_at hl 0 rfl) ?_
    refine q_gX10_25_54 cx hB hv8 kv8 hr2 dX10_messageAt_10 (fun hb9 kb9 => ?_)
    refine q_alen (n := 61) cx hB hm8 km8 (by decide) rfl 6 rfl rfl dX10_messageAt_13 ?_
    refine q_icge (tgt := 21) cx ⟨by omega, by omega⟩ ⟨by decide, by decide⟩ dX10_messageAt_14 (by decide) (fun c10 => ?_) (fun c10 => ?_)
    · exact absurd c10 (by omega)
    · refine q_ild_n cx dX10_messageAt_17 rfl (lv_at hl 1 rfl) ?_
      refine lv_goto (tgt := 22) cx.1 cx.2.1 dX10_messageAt_18 (by decide) ?_
      obtain ⟨p11, ep11⟩ : ∃ zz, q_ir (q_r f m8 (Int.toNat p0)) zz := ⟨_, q_irr _⟩
      refine q_aald (k2 := 72) (n := 61) cx hB hm8 km8 (by decide) rfl 6 rfl (by decide) rfl (by omega) (by omega) (by decide) rfl ep11 dX10_messageAt_22 (fun hb12 kb12 => ?_)
      refine q_aret cx hr (Or.inl ⟨_, rfl⟩) hlk hB dX10_messageAt_23 ?_
      exact ⟨rfl, hb12, kb12, (tw_at3 hw8 lp0 up0 ep11)⟩
set_option maxHeartbeats 4000000 in
set_option maxRecDepth 100000 in
theorem f_nodeAt9 (l : Launch) (g : q_G) {K : Nat → Nat} {L : List Nat} (hN : L.Nodup) {f : Nat → va_E} (hT : q_Ty g K L f) (d9 : Nat → Nat) (s9 : tw_S) (v9 : Nat) (hv9 : v9 ∈ L) (kv9 : K v9 = 55) (p0 : Int) (lp0 : 0 ≤ p0) (up0 : p0 ≤ 9) (n9 : Nat) (hn9 : n9 ∈ L) (kn9 : K n9 = 205) (l9 : Nat) (hl9 : l9 ∈ L) (kl9 : K l9 = 211) (m9 : Nat) (hm9 : m9 ∈ L) (km9 : K m9 = 217) (hr0 : q_ir (q_r f v9 0) n9) (hr1 : q_ir (q_r f v9 1) l9) (hr2 : q_ir (q_r f v9 2) m9) (hw9 : tw_vw K L 55 61 67 73 f v9 n9 l9 m9 d9 s9) : q_Ct l g K L yX10_nodeAt cX10_nodeAt 2 (some (.object "WakeVillage$Node")) 0 0 [.ref v9, .int (q_i p0)] f [] (q_Pr (fun (z : Nat) (f1 : Nat → va_E) => f = f1 ∧ z ∈ L ∧ K z = 61 ∧ (z = d9 (1 + Int.toNat p0)))) := by
  refine q_ofb (by decide +kernel) hN hT (Nat.le_of_ble_eq_true rfl) ?_
  intro p e s m below meth c ls cx hr hlk hB hl
  have hl : lv_has ls 2 [(0, .ref v9), (1, .int (q_i p0))] := hl
  obtain ⟨H, hH⟩ : ∃ H : Heap, H = s.heap := ⟨_, rfl⟩
  obtain ⟨locs, hlocs⟩ : ∃ z : List Loc, z = [] := ⟨_, rfl⟩
  rw [← hH, ← hlocs] at hB
  rw [← hH, ← hlocs]
  refine q_ald_n cx dX10_nodeAt_0 rfl (lv_at hl 0 rfl) ?_
  refine q_gX10_13_55 cx hB hv9 kv9 hr0 dX10_nodeAt_1 (fun hb7 kb7 => ?_)
  refine q_ild_n cx dX10_nodeAt_4 rfl (lv_at hl 1 rfl) ?_
  refine q_iflt (tgt := 21) cx ⟨by omega, by omega⟩ dX10_nodeAt_5 (by decide) (fun c8 => ?_) (fun c8 => ?_)
  · exact absurd c8 (by omega)
  · refine q_ild_n cx dX10_nodeAt_8 rfl (lv_at hl 1 rfl) ?_
    refine q_ald_n cx dX10_nodeAt_9 rfl (lv_at hl 0 rfl) ?_
    refine q_gX10_13_55 cx hB hv9 kv9 hr0 dX10_nodeAt_10 (fun hb9 kb9 => ?_)
    refine q_alen (n := 10) cx hB hn9 kn9 (by decide) rfl 7 rfl rfl dX10_nodeAt_13 ?_
    refine q_icge (tgt := 21) cx ⟨by omega, by omega⟩ ⟨by decide, by decide⟩ dX10_nodeAt_14 (by decide) (fun c10 => ?_) (fun c10 => ?_)
    · exact absurd c10 (by omega)
    · refine q_ild_n cx dX10_nodeAt_17 rfl (lv_at hl 1 rfl) ?_
      refine lv_goto (tgt := 22) cx.1 cx.2.1 dX10_nodeAt_18 (by decide) ?_
      obtain ⟨p11, ep11⟩ : ∃ zz, q_ir (q_r f n9 (Int.toNat p0)) zz := ⟨_, q_irr _⟩
      refine q_aald (k2 := 61) (n := 10) cx hB hn9 kn9 (by decide) rfl 7 rfl (by decide) rfl (by omega) (by omega) (by decide) rfl ep11 dX10_nodeAt_22 (fun hb12 kb12 => ?_)
      refine q_aret cx hr (Or.inl ⟨_, rfl⟩) hlk hB dX10_nodeAt_23 ?_
      exact ⟨rfl, hb12, kb12, (tw_at1 hw9 lp0 up0 ep11)⟩
set_option maxHeartbeats 4000000 in
set_option maxRecDepth 100000 in
theorem f_linkAt9 (l : Launch) (g : q_G) {K : Nat → Nat} {L : List Nat} (hN : L.Nodup) {f : Nat → va_E} (hT : q_Ty g K L f) (d9 : Nat → Nat) (s9 : tw_S) (v9 : Nat) (hv9 : v9 ∈ L) (kv9 : K v9 = 55) (p0 : Int) (lp0 : 0 ≤ p0) (up0 : p0 ≤ 15) (n9 : Nat) (hn9 : n9 ∈ L) (kn9 : K n9 = 205) (l9 : Nat) (hl9 : l9 ∈ L) (kl9 : K l9 = 211) (m9 : Nat) (hm9 : m9 ∈ L) (km9 : K m9 = 217) (hr0 : q_ir (q_r f v9 0) n9) (hr1 : q_ir (q_r f v9 1) l9) (hr2 : q_ir (q_r f v9 2) m9) (hw9 : tw_vw K L 55 61 67 73 f v9 n9 l9 m9 d9 s9) : q_Ct l g K L yX10_linkAt cX10_linkAt 2 (some (.object "WakeVillage$Link")) 0 0 [.ref v9, .int (q_i p0)] f [] (q_Pr (fun (z : Nat) (f1 : Nat → va_E) => f = f1 ∧ z ∈ L ∧ K z = 67 ∧ (z = d9 (11 + Int.toNat p0)))) := by
  refine q_ofb (by decide +kernel) hN hT (Nat.le_of_ble_eq_true rfl) ?_
  intro p e s m below meth c ls cx hr hlk hB hl
  have hl : lv_has ls 2 [(0, .ref v9), (1, .int (q_i p0))] := hl
  obtain ⟨H, hH⟩ : ∃ H : Heap, H = s.heap := ⟨_, rfl⟩
  obtain ⟨locs, hlocs⟩ : ∃ z : List Loc, z = [] := ⟨_, rfl⟩
  rw [← hH, ← hlocs] at hB
  rw [← hH, ← hlocs]
  refine q_ald_n cx dX10_linkAt_0 rfl (lv_at hl 0 rfl) ?_
  refine q_gX10_19_55 cx hB hv9 kv9 hr1 dX10_linkAt_1 (fun hb7 kb7 => ?_)
  refine q_ild_n cx dX10_linkAt_4 rfl (lv_at hl 1 rfl) ?_
  refine q_iflt (tgt := 21) cx ⟨by omega, by omega⟩ dX10_linkAt_5 (by decide) (fun c8 => ?_) (fun c8 => ?_)
  · exact absurd c8 (by omega)
  · refine q_ild_n cx dX10_linkAt_8 rfl (lv_at hl 1 rfl) ?_
    refine q_ald_n cx dX10_linkAt_9 rfl (lv_at hl 0 rfl) ?_
    refine q_gX10_19_55 cx hB hv9 kv9 hr1 dX10_linkAt_10 (fun hb9 kb9 => ?_)
    refine q_alen (n := 16) cx hB hl9 kl9 (by decide) rfl 5 rfl rfl dX10_linkAt_13 ?_
    refine q_icge (tgt := 21) cx ⟨by omega, by omega⟩ ⟨by decide, by decide⟩ dX10_linkAt_14 (by decide) (fun c10 => ?_) (fun c10 => ?_)
    · exact absurd c10 (by omega)
    · refine q_ild_n cx dX10_linkAt_17 rfl (lv_at hl 1 rfl) ?_
      refine lv_goto (tgt := 22) cx.1 cx.2.1 dX10_linkAt_18 (by decide) ?_
      obtain ⟨p11, ep11⟩ : ∃ zz, q_ir (q_r f l9 (Int.toNat p0)) zz := ⟨_, q_irr _⟩
      refine q_aald (k2 := 67) (n := 16) cx hB hl9 kl9 (by decide) rfl 5 rfl (by decide) rfl (by omega) (by omega) (by decide) rfl ep11 dX10_linkAt_22 (fun hb12 kb12 => ?_)
      refine q_aret cx hr (Or.inl ⟨_, rfl⟩) hlk hB dX10_linkAt_23 ?_
      exact ⟨rfl, hb12, kb12, (tw_at2 hw9 lp0 up0 ep11)⟩
set_option maxHeartbeats 4000000 in
set_option maxRecDepth 100000 in
theorem f_messageAt9 (l : Launch) (g : q_G) {K : Nat → Nat} {L : List Nat} (hN : L.Nodup) {f : Nat → va_E} (hT : q_Ty g K L f) (d9 : Nat → Nat) (s9 : tw_S) (v9 : Nat) (hv9 : v9 ∈ L) (kv9 : K v9 = 55) (p0 : Int) (lp0 : 0 ≤ p0) (up0 : p0 ≤ 60) (n9 : Nat) (hn9 : n9 ∈ L) (kn9 : K n9 = 205) (l9 : Nat) (hl9 : l9 ∈ L) (kl9 : K l9 = 211) (m9 : Nat) (hm9 : m9 ∈ L) (km9 : K m9 = 217) (hr0 : q_ir (q_r f v9 0) n9) (hr1 : q_ir (q_r f v9 1) l9) (hr2 : q_ir (q_r f v9 2) m9) (hw9 : tw_vw K L 55 61 67 73 f v9 n9 l9 m9 d9 s9) : q_Ct l g K L yX10_messageAt cX10_messageAt 2 (some (.object "WakeVillage$Message")) 0 0 [.ref v9, .int (q_i p0)] f [] (q_Pr (fun (z : Nat) (f1 : Nat → va_E) => f = f1 ∧ z ∈ L ∧ K z = 73 ∧ (z = d9 (27 + Int.toNat p0)))) := by
  refine q_ofb (by decide +kernel) hN hT (Nat.le_of_ble_eq_true rfl) ?_
  intro p e s m below meth c ls cx hr hlk hB hl
  have hl : lv_has ls 2 [(0, .ref v9), (1, .int (q_i p0))] := hl
  obtain ⟨H, hH⟩ : ∃ H : Heap, H = s.heap := ⟨_, rfl⟩
  obtain ⟨locs, hlocs⟩ : ∃ z : List Loc, z = [] := ⟨_, rfl⟩
  rw [← hH, ← hlocs] at hB
  rw [← hH, ← hlocs]
  refine q_ald_n cx dX10_messageAt_0 rfl (lv_at hl 0 rfl) ?_
  refine q_gX10_25_55 cx hB hv9 kv9 hr2 dX10_messageAt_1 (fun hb7 kb7 => ?_)
  refine q_ild_n cx dX10_messageAt_4 rfl (lv_at hl 1 rfl) ?_
  refine q_iflt (tgt := 21) cx ⟨by omega, by omega⟩ dX10_messageAt_5 (by decide) (fun c8 => ?_) (fun c8 => ?_)
  · exact absurd c8 (by omega)
  · refine q_ild_n cx dX10_messageAt_8 rfl (lv_at hl 1 rfl) ?_
    refine q_ald_n cx dX10_messageAt_9 rfl (lv_at hl 0 rfl) ?_
    refine q_gX10_25_55 cx hB hv9 kv9 hr2 dX10_messageAt_10 (fun hb9 kb9 => ?_)
    refine q_alen (n := 61) cx hB hm9 km9 (by decide) rfl 6 rfl rfl dX10_messageAt_13 ?_
    refine q_icge (tgt := 21) cx ⟨by omega, by omega⟩ ⟨by decide, by decide⟩ dX10_messageAt_14 (by decide) (fun c10 => ?_) (fun c10 => ?_)
    · exact absurd c10 (by omega)
    · refine q_ild_n cx dX10_messageAt_17 rfl (lv_at hl 1 rfl) ?_
      refine lv_goto (tgt := 22) cx.1 cx.2.1 dX10_messageAt_18 (by decide) ?_
      obtain ⟨p11, ep11⟩ : ∃ zz, q_ir (q_r f m9 (Int.toNat p0)) zz := ⟨_, q_irr _⟩
      refine q_aald (k2 := 73) (n := 61) cx hB hm9 km9 (by decide) rfl 6 rfl (by decide) rfl (by omega) (by omega) (by decide) rfl ep11 dX10_messageAt_22 (fun hb12 kb12 => ?_)
      refine q_aret cx hr (Or.inl ⟨_, rfl⟩) hlk hB dX10_messageAt_23 ?_
      exact ⟨rfl, hb12, kb12, (tw_at3 hw9 lp0 up0 ep11)⟩
set_option maxHeartbeats 4000000 in
set_option maxRecDepth 100000 in
theorem f_ncopy30 (l : Launch) (g : q_G) {K : Nat → Nat} {L : List Nat} (hN : L.Nodup) {f : Nat → va_E} (hT : q_Ty g K L f) (d3 : Nat → Nat) (s3 : tw_S) (d0 : Nat → Nat) (s0 : tw_S) (v : Nat) (hv : v ∈ L) (kv : K v = 19) (p0 : Nat) (hp0 : p0 ∈ L) (kp0 : K p0 = 5) (v3 : Nat) (hv3 : v3 ∈ L) (kv3 : K v3 = 15) (n3 : Nat) (hn3 : n3 ∈ L) (kn3 : K n3 = 113) (l3 : Nat) (hl3 : l3 ∈ L) (kl3 : K l3 = 123) (m3 : Nat) (hm3 : m3 ∈ L) (km3 : K m3 = 133) (v0 : Nat) (hv0 : v0 ∈ L) (kv0 : K v0 = 10) (n0 : Nat) (hn0 : n0 ∈ L) (kn0 : K n0 = 110) (l0 : Nat) (hl0 : l0 ∈ L) (kl0 : K l0 = 120) (m0 : Nat) (hm0 : m0 ∈ L) (km0 : K m0 = 130) (li : Int) (lli : 0 ≤ li) (uli : li ≤ 9) (lj : Int) (llj : 0 ≤ lj) (ulj : lj ≤ 9) (hp0 : v = d3 (1 + Int.toNat li)) (hp1 : p0 = d0 (1 + Int.toNat lj)) (hw3 : tw_vw K L 15 19 23 27 f v3 n3 l3 m3 d3 s3) (hw0 : tw_vw K L 10 5 3 4 f v0 n0 l0 m0 d0 s0) (hz3 : tw_nw K L 19 f) (hz0 : tw_nw K L 5 f) : q_Ct l g K L yX5_copyFrom cX5_copyFrom 2 none 0 0 [.ref v, .ref p0] f [(19, 0, 8)] (q_Pv (fun (f1 : Nat → va_E) => (tw_vw K L 15 19 23 27 f1 v3 n3 l3 m3 d3 (tw_cn s3 s0 (1 + Int.toNat li) (1 + Int.toNat lj))) ∧ (tw_nw K L 19 f1))) := by
  refine q_ofb (by decide +kernel) hN hT (Nat.le_of_ble_eq_true rfl) ?_
  intro p e s m below meth c ls cx hr hlk hB hl
  have hl : lv_has ls 2 [(0, .ref v), (1, .ref p0)] := hl
  obtain ⟨H, hH⟩ : ∃ H : Heap, H = s.heap := ⟨_, rfl⟩
  obtain ⟨locs, hlocs⟩ : ∃ z : List Loc, z = [] := ⟨_, rfl⟩
  rw [← hH, ← hlocs] at hB
  rw [← hH, ← hlocs]
  refine q_ald_n cx dX5_copyFrom_0 rfl (lv_at hl 0 rfl) ?_
  refine q_ald_n cx dX5_copyFrom_1 rfl (lv_at hl 1 rfl) ?_
  obtain ⟨j149, ej149⟩ : ∃ zz, q_j f p0 0 = zz := ⟨_, rfl⟩
  refine q_gX5_7 cx hB hp0 kp0 ej149 dX5_copyFrom_2 ?_
  refine q_pX5_7_19 cx hB hv kv rfl dX5_copyFrom_5 (fun H locs f150 ef150 z151 hB => ?_)
  have g152 : tw_vw K L 15 19 23 27 f150 v3 n3 l3 m3 d3 s3 := tw_vw_l hw3 hp0 (by omega) (by omega) (by decide) ef150 (fun i9 => by rw [ef150, q_setr (Or.inl (fun q => by rw [q, kv] at kn3; exact absurd kn3 (by decide)))]) (fun i9 => by rw [ef150, q_setr (Or.inl (fun q => by rw [q, kv] at kl3; exact absurd kl3 (by decide)))]) (fun i9 => by rw [ef150, q_setr (Or.inl (fun q => by rw [q, kv] at km3; exact absurd km3 (by decide)))])
  have g153 : tw_vw K L 10 5 3 4 f150 v0 n0 l0 m0 d0 s0 := tw_vw_tr hw0 (fun a9 h9 k9 c9 => by rw [ef150, q_setz (Or.inl (fun q => by rw [q, kv] at k9; exact absurd k9 (by decide)))]) (fun a9 h9 k9 c9 => by rw [ef150, q_setz (Or.inl (fun q => by rw [q, kv] at k9; exact absurd k9 (by decide)))]) (fun a9 h9 k9 c9 => by rw [ef150, q_setz (Or.inl (fun q => by rw [q, kv] at k9; exact absurd k9 (by decide)))]) (fun a9 h9 k9 c9 => by rw [ef150, q_setz (Or.inl (fun q => by rw [q, kv] at k9; exact absurd k9 (by decide)))]) (fun i9 => by rw [ef150, q_setr (Or.inl (fun q => by rw [q, kv] at kn0; exact absurd kn0 (by decide)))]) (fun i9 => by rw [ef150, q_setr (Or.inl (fun q => by rw [q, kv] at kl0; exact absurd kl0 (by decide)))]) (fun i9 => by rw [ef150, q_setr (Or.inl (fun q => by rw [q, kv] at km0; exact absurd km0 (by decide)))])
  have g154 : tw_nw K L 19 f150 := tw_nw_tr hz3 (fun a9 h9 k9 => by rw [ef150, q_setj (Or.inr (by decide))])
  have g155 : tw_nw K L 5 f150 := tw_nw_tr hz0 (fun a9 h9 k9 => by rw [ef150, q_setj (Or.inl (fun q => by rw [q, kv] at k9; exact absurd k9 (by decide)))])
  refine q_ald_n cx dX5_copyFrom_8 rfl (lv_at hl 0 rfl) ?_
  refine q_ald_n cx dX5_copyFrom_9 rfl (lv_at hl 1 rfl) ?_
  refine q_gX5_13 cx hB hp0 kp0 (hz0 p0 hp0 kp0) dX5_copyFrom_10 ?_
  refine q_pX5_13_19 cx hB hv kv rfl dX5_copyFrom_13 (fun H locs f156 ef156 z157 hB => ?_)
  have z158 : q_j f156 v 0 = j149 := by rw [ef156, q_setj (Or.inr (by decide))]; exact z151
  have z159 : q_j f156 p0 1 = (q_l 0) := by rw [ef156, q_setj (Or.inl (fun q => by rw [q, kv] at kp0; exact absurd kp0 (by decide)))]; exact (hz0 p0 hp0 kp0)
  have g160 : tw_vw K L 15 19 23 27 f156 v3 n3 l3 m3 d3 s3 := tw_vw_l g152 hp0 (by omega) (by omega) (by decide) ef156 (fun i9 => by rw [ef156, q_setr (Or.inl (fun q => by rw [q, kv] at kn3; exact absurd kn3 (by decide)))]) (fun i9 => by rw [ef156, q_setr (Or.inl (fun q => by rw [q, kv] at kl3; exact absurd kl3 (by decide)))]) (fun i9 => by rw [ef156, q_setr (Or.inl (fun q => by rw [q, kv] at km3; exact absurd km3 (by decide)))])
  have g161 : tw_vw K L 10 5 3 4 f156 v0 n0 l0 m0 d0 s0 := tw_vw_tr g153 (fun a9 h9 k9 c9 => by rw [ef156, q_setz (Or.inl (fun q => by rw [q, kv] at k9; exact absurd k9 (by decide)))]) (fun a9 h9 k9 c9 => by rw [ef156, q_setz (Or.inl (fun q => by rw [q, kv] at k9; exact absurd k9 (by decide)))]) (fun a9 h9 k9 c9 => by rw [ef156, q_setz (Or.inl (fun q => by rw [q, kv] at k9; exact absurd k9 (by decide)))]) (fun a9 h9 k9 c9 => by rw [ef156, q_setz (Or.inl (fun q => by rw [q, kv] at k9; exact absurd k9 (by decide)))]) (fun i9 => by rw [ef156, q_setr (Or.inl (fun q => by rw [q, kv] at kn0; exact absurd kn0 (by decide)))]) (fun i9 => by rw [ef156, q_setr (Or.inl (fun q => by rw [q, kv] at kl0; exact absurd kl0 (by decide)))]) (fun i9 => by rw [ef156, q_setr (Or.inl (fun q => by rw [q, kv] at km0; exact absurd km0 (by decide)))])
  have g162 : tw_nw K L 19 f156 := tw_nw_s g154 ef156 z157
  have g163 : tw_nw K L 5 f156 := tw_nw_tr g155 (fun a9 h9 k9 => by rw [ef156, q_setj (Or.inl (fun q => by rw [q, kv] at k9; exact absurd k9 (by decide)))])
  refine q_ald_n cx dX5_copyFrom_16 rfl (lv_at hl 0 rfl) ?_
  refine q_ald_n cx dX5_copyFrom_17 rfl (lv_at hl 1 rfl) ?_
  obtain ⟨x164, ex164⟩ : ∃ zz, q_is (q_z f156 p0 2) zz := ⟨_, q_isr _⟩
  obtain ⟨lx164, ux164⟩ := q_isb ex164 (q_fib hB.2.1 hp0 kp0 (by decide) rfl)
  obtain ⟨x165, ex165, nx165⟩ : ∃ zz, q_is (q_z f156 p0 2) zz ∧ zz = x164 := ⟨_, ex164, rfl⟩
  have sx165 : q_is x165 (s0 (1 + Int.toNat lj) 2) := tw_g g161 hp1 (by omega) (by omega) ex165
  refine q_gX5_16 cx hB hp0 kp0 ex165 dX5_copyFrom_18 (fun lb166 ub166 => ?_)
  refine q_pX5_16_19 cx hB hv kv ⟨by omega, by omega⟩ (by omega) (by omega) rfl dX5_copyFrom_21 (fun H locs f167 ef167 z168 hB => ?_)
  have z169 : q_is (q_z f167 p0 2) x164 := by rw [ef167, q_setz (Or.inl (fun q => by rw [q, kv] at kp0; exact absurd kp0 (by decide)))]; exact ex164
  have z170 : q_j f167 v 0 = j149 := by rw [ef167, q_setj (Or.inr (by decide))]; exact z158
  have z171 : q_j f167 p0 1 = (q_l 0) := by rw [ef167, q_setj (Or.inr (by decide))]; exact z159
  have z172 : q_j f167 v 1 = (q_l 0) := by rw [ef167, q_setj (Or.inr (by decide))]; exact z157
  have g173 : tw_vw K L 15 19 23 27 f167 v3 n3 l3 m3 d3 (tw_u s3 (1 + Int.toNat li) 2 x165) := tw_vw_s g160 hp0 (by omega) (by omega) ef167 z168 (fun i9 => by rw [ef167, q_setr (Or.inl (fun q => by rw [q, kv] at kn3; exact absurd kn3 (by decide)))]) (fun i9 => by rw [ef167, q_setr (Or.inl (fun q => by rw [q, kv] at kl3; exact absurd kl3 (by decide)))]) (fun i9 => by rw [ef167, q_setr (Or.inl (fun q => by rw [q, kv] at km3; exact absurd km3 (by decide)))])
  have g174 : tw_vw K L 10 5 3 4 f167 v0 n0 l0 m0 d0 s0 := tw_vw_tr g161 (fun a9 h9 k9 c9 => by rw [ef167, q_setz (Or.inl (fun q => by rw [q, kv] at k9; exact absurd k9 (by decide)))]) (fun a9 h9 k9 c9 => by rw [ef167, q_setz (Or.inl (fun q => by rw [q, kv] at k9; exact absurd k9 (by decide)))]) (fun a9 h9 k9 c9 => by rw [ef167, q_setz (Or.inl (fun q => by rw [q, kv] at k9; exact absurd k9 (by decide)))]) (fun a9 h9 k9 c9 => by rw [ef167, q_setz (Or.inl (fun q => by rw [q, kv] at k9; exact absurd k9 (by decide)))]) (fun i9 => by rw [ef167, q_setr (Or.inl (fun q => by rw [q, kv] at kn0; exact absurd kn0 (by decide)))]) (fun i9 => by rw [ef167, q_setr (Or.inl (fun q => by rw [q, kv] at kl0; exact absurd kl0 (by decide)))]) (fun i9 => by rw [ef167, q_setr (Or.inl (fun q => by rw [q, kv] at km0; exact absurd km0 (by decide)))])
  have g175 : tw_nw K L 19 f167 := tw_nw_tr g162 (fun a9 h9 k9 => by rw [ef167, q_setj (Or.inr (by decide))])
  have g176 : tw_nw K L 5 f167 := tw_nw_tr g163 (fun a9 h9 k9 => by rw [ef167, q_setj (Or.inl (fun q => by rw [q, kv] at k9; exact absurd k9 (by decide)))])
  refine q_ald_n cx dX5_copyFrom_24 rfl (lv_at hl 0 rfl) ?_
  refine q_ald_n cx dX5_copyFrom_25 rfl (lv_at hl 1 rfl) ?_
  obtain ⟨x177, ex177⟩ : ∃ zz, q_is (q_z f167 p0 3) zz := ⟨_, q_isr _⟩
  obtain ⟨lx177, ux177⟩ := q_isb ex177 (q_fib hB.2.1 hp0 kp0 (by decide) rfl)
  obtain ⟨x178, ex178, nx178⟩ : ∃ zz, q_is (q_z f167 p0 3) zz ∧ zz = x177 := ⟨_, ex177, rfl⟩
  have sx178 : q_is x178 (s0 (1 + Int.toNat lj) 3) := tw_g g174 hp1 (by omega) (by omega) ex178
  refine q_gX5_20 cx hB hp0 kp0 ex178 dX5_copyFrom_26 (fun lb179 ub179 => ?_)
  refine q_pX5_20_19 cx hB hv kv ⟨by omega, by omega⟩ (by omega) (by omega) rfl dX5_copyFrom_29 (fun H locs f180 ef180 z181 hB => ?_)
  have z182 : q_is (q_z f180 p0 2) x164 := by rw [ef180, q_setz (Or.inr (by decide))]; exact z169
  have z183 : q_is (q_z f180 v 2) x165 := by rw [ef180, q_setz (Or.inr (by decide))]; exact z168
  have z184 : q_is (q_z f180 p0 3) x177 := by rw [ef180, q_setz (Or.inl (fun q => by rw [q, kv] at kp0; exact absurd kp0 (by decide)))]; exact ex177
  have z185 : q_j f180 v 0 = j149 := by rw [ef180, q_setj (Or.inr (by decide))]; exact z170
  have z186 : q_j f180 p0 1 = (q_l 0) := by rw [ef180, q_setj (Or.inr (by decide))]; exact z171
  have z187 : q_j f180 v 1 = (q_l 0) := by rw [ef180, q_setj (Or.inr (by decide))]; exact z172
  have g188 : tw_vw K L 15 19 23 27 f180 v3 n3 l3 m3 d3 (tw_u (tw_u s3 (1 + Int.toNat li) 2 x165) (1 + Int.toNat li) 3 x178) := tw_vw_s g173 hp0 (by omega) (by omega) ef180 z181 (fun i9 => by rw [ef180, q_setr (Or.inl (fun q => by rw [q, kv] at kn3; exact absurd kn3 (by decide)))]) (fun i9 => by rw [ef180, q_setr (Or.inl (fun q => by rw [q, kv] at kl3; exact absurd kl3 (by decide)))]) (fun i9 => by rw [ef180, q_setr (Or.inl (fun q => by rw [q, kv] at km3; exact absurd km3 (by decide)))])
  have g189 : tw_vw K L 10 5 3 4 f180 v0 n0 l0 m0 d0 s0 := tw_vw_tr g174 (fun a9 h9 k9 c9 => by rw [ef180, q_setz (Or.inl (fun q => by rw [q, kv] at k9; exact absurd k9 (by decide)))]) (fun a9 h9 k9 c9 => by rw [ef180, q_setz (Or.inl (fun q => by rw [q, kv] at k9; exact absurd k9 (by decide)))]) (fun a9 h9 k9 c9 => by rw [ef180, q_setz (Or.inl (fun q => by rw [q, kv] at k9; exact absurd k9 (by decide)))]) (fun a9 h9 k9 c9 => by rw [ef180, q_setz (Or.inl (fun q => by rw [q, kv] at k9; exact absurd k9 (by decide)))]) (fun i9 => by rw [ef180, q_setr (Or.inl (fun q => by rw [q, kv] at kn0; exact absurd kn0 (by decide)))]) (fun i9 => by rw [ef180, q_setr (Or.inl (fun q => by rw [q, kv] at kl0; exact absurd kl0 (by decide)))]) (fun i9 => by rw [ef180, q_setr (Or.inl (fun q => by rw [q, kv] at km0; exact absurd km0 (by decide)))])
  have g190 : tw_nw K L 19 f180 := tw_nw_tr g175 (fun a9 h9 k9 => by rw [ef180, q_setj (Or.inr (by decide))])
  have g191 : tw_nw K L 5 f180 := tw_nw_tr g176 (fun a9 h9 k9 => by rw [ef180, q_setj (Or.inl (fun q => by rw [q, kv] at k9; exact absurd k9 (by decide)))])
  refine q_ald_n cx dX5_copyFrom_32 rfl (lv_at hl 0 rfl) ?_
  refine q_ald_n cx dX5_copyFrom_33 rfl (lv_at hl 1 rfl) ?_
  obtain ⟨x192, ex192⟩ : ∃ zz, q_is (q_z f180 p0 4) zz := ⟨_, q_isr _⟩
  obtain ⟨lx192, ux192⟩ := q_isb ex192 (q_fib hB.2.1 hp0 kp0 (by decide) rfl)
  obtain ⟨x193, ex193, nx193⟩ : ∃ zz, q_is (q_z f180 p0 4) zz ∧ zz = x192 := ⟨_, ex192, rfl⟩
  have sx193 : q_is x193 (s0 (1 + Int.toNat lj) 4) := tw_g g189 hp1 (by omega) (by omega) ex193
  refine q_gX5_23 cx hB hp0 kp0 ex193 dX5_copyFrom_34 (fun lb194 ub194 => ?_)
  refine q_pX5_23_19 cx hB hv kv ⟨by omega, by omega⟩ (by omega) (by omega) rfl dX5_copyFrom_37 (fun H locs f195 ef195 z196 hB => ?_)
  have z197 : q_is (q_z f195 p0 2) x164 := by rw [ef195, q_setz (Or.inr (by decide))]; exact z182
  have z198 : q_is (q_z f195 v 2) x165 := by rw [ef195, q_setz (Or.inr (by decide))]; exact z183
  have z199 : q_is (q_z f195 p0 3) x177 := by rw [ef195, q_setz (Or.inr (by decide))]; exact z184
  have z200 : q_is (q_z f195 v 3) x178 := by rw [ef195, q_setz (Or.inr (by decide))]; exact z181
  have z201 : q_is (q_z f195 p0 4) x192 := by rw [ef195, q_setz (Or.inl (fun q => by rw [q, kv] at kp0; exact absurd kp0 (by decide)))]; exact ex192
  have z202 : q_j f195 v 0 = j149 := by rw [ef195, q_setj (Or.inr (by decide))]; exact z185
  have z203 : q_j f195 p0 1 = (q_l 0) := by rw [ef195, q_setj (Or.inr (by decide))]; exact z186
  have z204 : q_j f195 v 1 = (q_l 0) := by rw [ef195, q_setj (Or.inr (by decide))]; exact z187
  have g205 : tw_vw K L 15 19 23 27 f195 v3 n3 l3 m3 d3 (tw_u (tw_u (tw_u s3 (1 + Int.toNat li) 2 x165) (1 + Int.toNat li) 3 x178) (1 + Int.toNat li) 4 x193) := tw_vw_s g188 hp0 (by omega) (by omega) ef195 z196 (fun i9 => by rw [ef195, q_setr (Or.inl (fun q => by rw [q, kv] at kn3; exact absurd kn3 (by decide)))]) (fun i9 => by rw [ef195, q_setr (Or.inl (fun q => by rw [q, kv] at kl3; exact absurd kl3 (by decide)))]) (fun i9 => by rw [ef195, q_setr (Or.inl (fun q => by rw [q, kv] at km3; exact absurd km3 (by decide)))])
  have g206 : tw_vw K L 10 5 3 4 f195 v0 n0 l0 m0 d0 s0 := tw_vw_tr g189 (fun a9 h9 k9 c9 => by rw [ef195, q_setz (Or.inl (fun q => by rw [q, kv] at k9; exact absurd k9 (by decide)))]) (fun a9 h9 k9 c9 => by rw [ef195, q_setz (Or.inl (fun q => by rw [q, kv] at k9; exact absurd k9 (by decide)))]) (fun a9 h9 k9 c9 => by rw [ef195, q_setz (Or.inl (fun q => by rw [q, kv] at k9; exact absurd k9 (by decide)))]) (fun a9 h9 k9 c9 => by rw [ef195, q_setz (Or.inl (fun q => by rw [q, kv] at k9; exact absurd k9 (by decide)))]) (fun i9 => by rw [ef195, q_setr (Or.inl (fun q => by rw [q, kv] at kn0; exact absurd kn0 (by decide)))]) (fun i9 => by rw [ef195, q_setr (Or.inl (fun q => by rw [q, kv] at kl0; exact absurd kl0 (by decide)))]) (fun i9 => by rw [ef195, q_setr (Or.inl (fun q => by rw [q, kv] at km0; exact absurd km0 (by decide)))])
  have g207 : tw_nw K L 19 f195 := tw_nw_tr g190 (fun a9 h9 k9 => by rw [ef195, q_setj (Or.inr (by decide))])
  have g208 : tw_nw K L 5 f195 := tw_nw_tr g191 (fun a9 h9 k9 => by rw [ef195, q_setj (Or.inl (fun q => by rw [q, kv] at k9; exact absurd k9 (by decide)))])
  refine q_ald_n cx dX5_copyFrom_40 rfl (lv_at hl 0 rfl) ?_
  refine q_ald_n cx dX5_copyFrom_41 rfl (lv_at hl 1 rfl) ?_
  obtain ⟨x209, ex209⟩ : ∃ zz, q_is (q_z f195 p0 5) zz := ⟨_, q_isr _⟩
  obtain ⟨lx209, ux209⟩ := q_isb ex209 (q_fib hB.2.1 hp0 kp0 (by decide) rfl)
  obtain ⟨x210, ex210, nx210⟩ : ∃ zz, q_is (q_z f195 p0 5) zz ∧ zz = x209 := ⟨_, ex209, rfl⟩
  have sx210 : q_is x210 (s0 (1 + Int.toNat lj) 5) := tw_g g206 hp1 (by omega) (by omega) ex210
  refine q_gX5_26 cx hB hp0 kp0 ex210 dX5_copyFrom_42 (fun lb211 ub211 => ?_)
  refine q_pX5_26_19 cx hB hv kv ⟨by omega, by omega⟩ (by omega) (by omega) rfl dX5_copyFrom_45 (fun H locs f212 ef212 z213 hB => ?_)
  have z214 : q_is (q_z f212 p0 2) x164 := by rw [ef212, q_setz (Or.inr (by decide))]; exact z197
  have z215 : q_is (q_z f212 v 2) x165 := by rw [ef212, q_setz (Or.inr (by decide))]; exact z198
  have z216 : q_is (q_z f212 p0 3) x177 := by rw [ef212, q_setz (Or.inr (by decide))]; exact z199
  have z217 : q_is (q_z f212 v 3) x178 := by rw [ef212, q_setz (Or.inr (by decide))]; exact z200
  have z218 : q_is (q_z f212 p0 4) x192 := by rw [ef212, q_setz (Or.inr (by decide))]; exact z201
  have z219 : q_is (q_z f212 v 4) x193 := by rw [ef212, q_setz (Or.inr (by decide))]; exact z196
  have z220 : q_is (q_z f212 p0 5) x209 := by rw [ef212, q_setz (Or.inl (fun q => by rw [q, kv] at kp0; exact absurd kp0 (by decide)))]; exact ex209
  have z221 : q_j f212 v 0 = j149 := by rw [ef212, q_setj (Or.inr (by decide))]; exact z202
  have z222 : q_j f212 p0 1 = (q_l 0) := by rw [ef212, q_setj (Or.inr (by decide))]; exact z203
  have z223 : q_j f212 v 1 = (q_l 0) := by rw [ef212, q_setj (Or.inr (by decide))]; exact z204
  have g224 : tw_vw K L 15 19 23 27 f212 v3 n3 l3 m3 d3 (tw_u (tw_u (tw_u (tw_u s3 (1 + Int.toNat li) 2 x165) (1 + Int.toNat li) 3 x178) (1 + Int.toNat li) 4 x193) (1 + Int.toNat li) 5 x210) := tw_vw_s g205 hp0 (by omega) (by omega) ef212 z213 (fun i9 => by rw [ef212, q_setr (Or.inl (fun q => by rw [q, kv] at kn3; exact absurd kn3 (by decide)))]) (fun i9 => by rw [ef212, q_setr (Or.inl (fun q => by rw [q, kv] at kl3; exact absurd kl3 (by decide)))]) (fun i9 => by rw [ef212, q_setr (Or.inl (fun q => by rw [q, kv] at km3; exact absurd km3 (by decide)))])
  have g225 : tw_vw K L 10 5 3 4 f212 v0 n0 l0 m0 d0 s0 := tw_vw_tr g206 (fun a9 h9 k9 c9 => by rw [ef212, q_setz (Or.inl (fun q => by rw [q, kv] at k9; exact absurd k9 (by decide)))]) (fun a9 h9 k9 c9 => by rw [ef212, q_setz (Or.inl (fun q => by rw [q, kv] at k9; exact absurd k9 (by decide)))]) (fun a9 h9 k9 c9 => by rw [ef212, q_setz (Or.inl (fun q => by rw [q, kv] at k9; exact absurd k9 (by decide)))]) (fun a9 h9 k9 c9 => by rw [ef212, q_setz (Or.inl (fun q => by rw [q, kv] at k9; exact absurd k9 (by decide)))]) (fun i9 => by rw [ef212, q_setr (Or.inl (fun q => by rw [q, kv] at kn0; exact absurd kn0 (by decide)))]) (fun i9 => by rw [ef212, q_setr (Or.inl (fun q => by rw [q, kv] at kl0; exact absurd kl0 (by decide)))]) (fun i9 => by rw [ef212, q_setr (Or.inl (fun q => by rw [q, kv] at km0; exact absurd km0 (by decide)))])
  have g226 : tw_nw K L 19 f212 := tw_nw_tr g207 (fun a9 h9 k9 => by rw [ef212, q_setj (Or.inr (by decide))])
  have g227 : tw_nw K L 5 f212 := tw_nw_tr g208 (fun a9 h9 k9 => by rw [ef212, q_setj (Or.inl (fun q => by rw [q, kv] at k9; exact absurd k9 (by decide)))])
  refine q_ald_n cx dX5_copyFrom_48 rfl (lv_at hl 0 rfl) ?_
  refine q_ald_n cx dX5_copyFrom_49 rfl (lv_at hl 1 rfl) ?_
  obtain ⟨x228, ex228⟩ : ∃ zz, q_is (q_z f212 p0 6) zz := ⟨_, q_isr _⟩
  obtain ⟨lx228, ux228⟩ := q_isb ex228 (q_fib hB.2.1 hp0 kp0 (by decide) rfl)
  obtain ⟨x229, ex229, nx229⟩ : ∃ zz, q_is (q_z f212 p0 6) zz ∧ zz = x228 := ⟨_, ex228, rfl⟩
  have sx229 : q_is x229 (s0 (1 + Int.toNat lj) 6) := tw_g g225 hp1 (by omega) (by omega) ex229
  refine q_gX5_29 cx hB hp0 kp0 ex229 dX5_copyFrom_50 (fun lb230 ub230 => ?_)
  refine q_pX5_29_19 cx hB hv kv ⟨by omega, by omega⟩ (by omega) (by omega) rfl dX5_copyFrom_53 (fun H locs f231 ef231 z232 hB => ?_)
  have z233 : q_is (q_z f231 p0 2) x164 := by rw [ef231, q_setz (Or.inr (by decide))]; exact z214
  have z234 : q_is (q_z f231 v 2) x165 := by rw [ef231, q_setz (Or.inr (by decide))]; exact z215
  have z235 : q_is (q_z f231 p0 3) x177 := by rw [ef231, q_setz (Or.inr (by decide))]; exact z216
  have z236 : q_is (q_z f231 v 3) x178 := by rw [ef231, q_setz (Or.inr (by decide))]; exact z217
  have z237 : q_is (q_z f231 p0 4) x192 := by rw [ef231, q_setz (Or.inr (by decide))]; exact z218
  have z238 : q_is (q_z f231 v 4) x193 := by rw [ef231, q_setz (Or.inr (by decide))]; exact z219
  have z239 : q_is (q_z f231 p0 5) x209 := by rw [ef231, q_setz (Or.inr (by decide))]; exact z220
  have z240 : q_is (q_z f231 v 5) x210 := by rw [ef231, q_setz (Or.inr (by decide))]; exact z213
  have z241 : q_is (q_z f231 p0 6) x228 := by rw [ef231, q_setz (Or.inl (fun q => by rw [q, kv] at kp0; exact absurd kp0 (by decide)))]; exact ex228
  have z242 : q_j f231 v 0 = j149 := by rw [ef231, q_setj (Or.inr (by decide))]; exact z221
  have z243 : q_j f231 p0 1 = (q_l 0) := by rw [ef231, q_setj (Or.inr (by decide))]; exact z222
  have z244 : q_j f231 v 1 = (q_l 0) := by rw [ef231, q_setj (Or.inr (by decide))]; exact z223
  have g245 : tw_vw K L 15 19 23 27 f231 v3 n3 l3 m3 d3 (tw_u (tw_u (tw_u (tw_u (tw_u s3 (1 + Int.toNat li) 2 x165) (1 + Int.toNat li) 3 x178) (1 + Int.toNat li) 4 x193) (1 + Int.toNat li) 5 x210) (1 + Int.toNat li) 6 x229) := tw_vw_s g224 hp0 (by omega) (by omega) ef231 z232 (fun i9 => by rw [ef231, q_setr (Or.inl (fun q => by rw [q, kv] at kn3; exact absurd kn3 (by decide)))]) (fun i9 => by rw [ef231, q_setr (Or.inl (fun q => by rw [q, kv] at kl3; exact absurd kl3 (by decide)))]) (fun i9 => by rw [ef231, q_setr (Or.inl (fun q => by rw [q, kv] at km3; exact absurd km3 (by decide)))])
  have g246 : tw_vw K L 10 5 3 4 f231 v0 n0 l0 m0 d0 s0 := tw_vw_tr g225 (fun a9 h9 k9 c9 => by rw [ef231, q_setz (Or.inl (fun q => by rw [q, kv] at k9; exact absurd k9 (by decide)))]) (fun a9 h9 k9 c9 => by rw [ef231, q_setz (Or.inl (fun q => by rw [q, kv] at k9; exact absurd k9 (by decide)))]) (fun a9 h9 k9 c9 => by rw [ef231, q_setz (Or.inl (fun q => by rw [q, kv] at k9; exact absurd k9 (by decide)))]) (fun a9 h9 k9 c9 => by rw [ef231, q_setz (Or.inl (fun q => by rw [q, kv] at k9; exact absurd k9 (by decide)))]) (fun i9 => by rw [ef231, q_setr (Or.inl (fun q => by rw [q, kv] at kn0; exact absurd kn0 (by decide)))]) (fun i9 => by rw [ef231, q_setr (Or.inl (fun q => by rw [q, kv] at kl0; exact absurd kl0 (by decide)))]) (fun i9 => by rw [ef231, q_setr (Or.inl (fun q => by rw [q, kv] at km0; exact absurd km0 (by decide)))])
  have g247 : tw_nw K L 19 f231 := tw_nw_tr g226 (fun a9 h9 k9 => by rw [ef231, q_setj (Or.inr (by decide))])
  have g248 : tw_nw K L 5 f231 := tw_nw_tr g227 (fun a9 h9 k9 => by rw [ef231, q_setj (Or.inl (fun q => by rw [q, kv] at k9; exact absurd k9 (by decide)))])
  refine q_ald_n cx dX5_copyFrom_56 rfl (lv_at hl 0 rfl) ?_
  refine q_ald_n cx dX5_copyFrom_57 rfl (lv_at hl 1 rfl) ?_
  obtain ⟨x249, ex249⟩ : ∃ zz, q_is (q_z f231 p0 7) zz := ⟨_, q_isr _⟩
  obtain ⟨lx249, ux249⟩ := q_isb ex249 (q_fib hB.2.1 hp0 kp0 (by decide) rfl)
  obtain ⟨x250, ex250, nx250⟩ : ∃ zz, q_is (q_z f231 p0 7) zz ∧ zz = x249 := ⟨_, ex249, rfl⟩
  have sx250 : q_is x250 (s0 (1 + Int.toNat lj) 7) := tw_g g246 hp1 (by omega) (by omega) ex250
  refine q_gX5_32 cx hB hp0 kp0 ex250 dX5_copyFrom_58 (fun lb251 ub251 => ?_)
  refine q_pX5_32_19 cx hB hv kv ⟨by omega, by omega⟩ (by omega) (by omega) rfl dX5_copyFrom_61 (fun H locs f252 ef252 z253 hB => ?_)
  have z254 : q_is (q_z f252 p0 2) x164 := by rw [ef252, q_setz (Or.inr (by decide))]; exact z233
  have z255 : q_is (q_z f252 v 2) x165 := by rw [ef252, q_setz (Or.inr (by decide))]; exact z234
  have z256 : q_is (q_z f252 p0 3) x177 := by rw [ef252, q_setz (Or.inr (by decide))]; exact z235
  have z257 : q_is (q_z f252 v 3) x178 := by rw [ef252, q_setz (Or.inr (by decide))]; exact z236
  have z258 : q_is (q_z f252 p0 4) x192 := by rw [ef252, q_setz (Or.inr (by decide))]; exact z237
  have z259 : q_is (q_z f252 v 4) x193 := by rw [ef252, q_setz (Or.inr (by decide))]; exact z238
  have z260 : q_is (q_z f252 p0 5) x209 := by rw [ef252, q_setz (Or.inr (by decide))]; exact z239
  have z261 : q_is (q_z f252 v 5) x210 := by rw [ef252, q_setz (Or.inr (by decide))]; exact z240
  have z262 : q_is (q_z f252 p0 6) x228 := by rw [ef252, q_setz (Or.inr (by decide))]; exact z241
  have z263 : q_is (q_z f252 v 6) x229 := by rw [ef252, q_setz (Or.inr (by decide))]; exact z232
  have z264 : q_is (q_z f252 p0 7) x249 := by rw [ef252, q_setz (Or.inl (fun q => by rw [q, kv] at kp0; exact absurd kp0 (by decide)))]; exact ex249
  have z265 : q_j f252 v 0 = j149 := by rw [ef252, q_setj (Or.inr (by decide))]; exact z242
  have z266 : q_j f252 p0 1 = (q_l 0) := by rw [ef252, q_setj (Or.inr (by decide))]; exact z243
  have z267 : q_j f252 v 1 = (q_l 0) := by rw [ef252, q_setj (Or.inr (by decide))]; exact z244
  have g268 : tw_vw K L 15 19 23 27 f252 v3 n3 l3 m3 d3 (tw_u (tw_u (tw_u (tw_u (tw_u (tw_u s3 (1 + Int.toNat li) 2 x165) (1 + Int.toNat li) 3 x178) (1 + Int.toNat li) 4 x193) (1 + Int.toNat li) 5 x210) (1 + Int.toNat li) 6 x229) (1 + Int.toNat li) 7 x250) := tw_vw_s g245 hp0 (by omega) (by omega) ef252 z253 (fun i9 => by rw [ef252, q_setr (Or.inl (fun q => by rw [q, kv] at kn3; exact absurd kn3 (by decide)))]) (fun i9 => by rw [ef252, q_setr (Or.inl (fun q => by rw [q, kv] at kl3; exact absurd kl3 (by decide)))]) (fun i9 => by rw [ef252, q_setr (Or.inl (fun q => by rw [q, kv] at km3; exact absurd km3 (by decide)))])
  have g269 : tw_vw K L 10 5 3 4 f252 v0 n0 l0 m0 d0 s0 := tw_vw_tr g246 (fun a9 h9 k9 c9 => by rw [ef252, q_setz (Or.inl (fun q => by rw [q, kv] at k9; exact absurd k9 (by decide)))]) (fun a9 h9 k9 c9 => by rw [ef252, q_setz (Or.inl (fun q => by rw [q, kv] at k9; exact absurd k9 (by decide)))]) (fun a9 h9 k9 c9 => by rw [ef252, q_setz (Or.inl (fun q => by rw [q, kv] at k9; exact absurd k9 (by decide)))]) (fun a9 h9 k9 c9 => by rw [ef252, q_setz (Or.inl (fun q => by rw [q, kv] at k9; exact absurd k9 (by decide)))]) (fun i9 => by rw [ef252, q_setr (Or.inl (fun q => by rw [q, kv] at kn0; exact absurd kn0 (by decide)))]) (fun i9 => by rw [ef252, q_setr (Or.inl (fun q => by rw [q, kv] at kl0; exact absurd kl0 (by decide)))]) (fun i9 => by rw [ef252, q_setr (Or.inl (fun q => by rw [q, kv] at km0; exact absurd km0 (by decide)))])
  have g270 : tw_nw K L 19 f252 := tw_nw_tr g247 (fun a9 h9 k9 => by rw [ef252, q_setj (Or.inr (by decide))])
  have g271 : tw_nw K L 5 f252 := tw_nw_tr g248 (fun a9 h9 k9 => by rw [ef252, q_setj (Or.inl (fun q => by rw [q, kv] at k9; exact absurd k9 (by decide)))])
  refine q_ald_n cx dX5_copyFrom_64 rfl (lv_at hl 0 rfl) ?_
  refine q_ald_n cx dX5_copyFrom_65 rfl (lv_at hl 1 rfl) ?_
  obtain ⟨x272, ex272⟩ : ∃ zz, q_is (q_z f252 p0 8) zz := ⟨_, q_isr _⟩
  obtain ⟨lx272, ux272⟩ := q_isb ex272 (q_fib hB.2.1 hp0 kp0 (by decide) rfl)
  obtain ⟨x273, ex273, nx273⟩ : ∃ zz, q_is (q_z f252 p0 8) zz ∧ zz = x272 := ⟨_, ex272, rfl⟩
  have sx273 : q_is x273 (s0 (1 + Int.toNat lj) 8) := tw_g g269 hp1 (by omega) (by omega) ex273
  refine q_gX5_35 cx hB hp0 kp0 ex273 dX5_copyFrom_66 (fun lb274 ub274 => ?_)
  refine q_pX5_35_19 cx hB hv kv ⟨by omega, by omega⟩ (by omega) (by omega) rfl dX5_copyFrom_69 (fun H locs f275 ef275 z276 hB => ?_)
  have z277 : q_is (q_z f275 p0 2) x164 := by rw [ef275, q_setz (Or.inr (by decide))]; exact z254
  have z278 : q_is (q_z f275 v 2) x165 := by rw [ef275, q_setz (Or.inr (by decide))]; exact z255
  have z279 : q_is (q_z f275 p0 3) x177 := by rw [ef275, q_setz (Or.inr (by decide))]; exact z256
  have z280 : q_is (q_z f275 v 3) x178 := by rw [ef275, q_setz (Or.inr (by decide))]; exact z257
  have z281 : q_is (q_z f275 p0 4) x192 := by rw [ef275, q_setz (Or.inr (by decide))]; exact z258
  have z282 : q_is (q_z f275 v 4) x193 := by rw [ef275, q_setz (Or.inr (by decide))]; exact z259
  have z283 : q_is (q_z f275 p0 5) x209 := by rw [ef275, q_setz (Or.inr (by decide))]; exact z260
  have z284 : q_is (q_z f275 v 5) x210 := by rw [ef275, q_setz (Or.inr (by decide))]; exact z261
  have z285 : q_is (q_z f275 p0 6) x228 := by rw [ef275, q_setz (Or.inr (by decide))]; exact z262
  have z286 : q_is (q_z f275 v 6) x229 := by rw [ef275, q_setz (Or.inr (by decide))]; exact z263
  have z287 : q_is (q_z f275 p0 7) x249 := by rw [ef275, q_setz (Or.inr (by decide))]; exact z264
  have z288 : q_is (q_z f275 v 7) x250 := by rw [ef275, q_setz (Or.inr (by decide))]; exact z253
  have z289 : q_is (q_z f275 p0 8) x272 := by rw [ef275, q_setz (Or.inl (fun q => by rw [q, kv] at kp0; exact absurd kp0 (by decide)))]; exact ex272
  have z290 : q_j f275 v 0 = j149 := by rw [ef275, q_setj (Or.inr (by decide))]; exact z265
  have z291 : q_j f275 p0 1 = (q_l 0) := by rw [ef275, q_setj (Or.inr (by decide))]; exact z266
  have z292 : q_j f275 v 1 = (q_l 0) := by rw [ef275, q_setj (Or.inr (by decide))]; exact z267
  have g293 : tw_vw K L 15 19 23 27 f275 v3 n3 l3 m3 d3 (tw_u (tw_u (tw_u (tw_u (tw_u (tw_u (tw_u s3 (1 + Int.toNat li) 2 x165) (1 + Int.toNat li) 3 x178) (1 + Int.toNat li) 4 x193) (1 + Int.toNat li) 5 x210) (1 + Int.toNat li) 6 x229) (1 + Int.toNat li) 7 x250) (1 + Int.toNat li) 8 x273) := tw_vw_s g268 hp0 (by omega) (by omega) ef275 z276 (fun i9 => by rw [ef275, q_setr (Or.inl (fun q => by rw [q, kv] at kn3; exact absurd kn3 (by decide)))]) (fun i9 => by rw [ef275, q_setr (Or.inl (fun q => by rw [q, kv] at kl3; exact absurd kl3 (by decide)))]) (fun i9 => by rw [ef275, q_setr (Or.inl (fun q => by rw [q, kv] at km3; exact absurd km3 (by decide)))])
  have g294 : tw_vw K L 10 5 3 4 f275 v0 n0 l0 m0 d0 s0 := tw_vw_tr g269 (fun a9 h9 k9 c9 => by rw [ef275, q_setz (Or.inl (fun q => by rw [q, kv] at k9; exact absurd k9 (by decide)))]) (fun a9 h9 k9 c9 => by rw [ef275, q_setz (Or.inl (fun q => by rw [q, kv] at k9; exact absurd k9 (by decide)))]) (fun a9 h9 k9 c9 => by rw [ef275, q_setz (Or.inl (fun q => by rw [q, kv] at k9; exact absurd k9 (by decide)))]) (fun a9 h9 k9 c9 => by rw [ef275, q_setz (Or.inl (fun q => by rw [q, kv] at k9; exact absurd k9 (by decide)))]) (fun i9 => by rw [ef275, q_setr (Or.inl (fun q => by rw [q, kv] at kn0; exact absurd kn0 (by decide)))]) (fun i9 => by rw [ef275, q_setr (Or.inl (fun q => by rw [q, kv] at kl0; exact absurd kl0 (by decide)))]) (fun i9 => by rw [ef275, q_setr (Or.inl (fun q => by rw [q, kv] at km0; exact absurd km0 (by decide)))])
  have g295 : tw_nw K L 19 f275 := tw_nw_tr g270 (fun a9 h9 k9 => by rw [ef275, q_setj (Or.inr (by decide))])
  have g296 : tw_nw K L 5 f275 := tw_nw_tr g271 (fun a9 h9 k9 => by rw [ef275, q_setj (Or.inl (fun q => by rw [q, kv] at k9; exact absurd k9 (by decide)))])
  refine q_vret cx hr hlk hB dX5_copyFrom_72 ?_
  exact ⟨(tw_cg g293 (by have t0_ : x165 = s0 (1 + Int.toNat lj) 2 := sx165; have t1_ : x178 = s0 (1 + Int.toNat lj) 3 := sx178; have t2_ : x193 = s0 (1 + Int.toNat lj) 4 := sx193; have t3_ : x210 = s0 (1 + Int.toNat lj) 5 := sx210; have t4_ : x229 = s0 (1 + Int.toNat lj) 6 := sx229; have t5_ : x250 = s0 (1 + Int.toNat lj) 7 := sx250; have t6_ : x273 = s0 (1 + Int.toNat lj) 8 := sx273; (try simp only [t0_, t1_, t2_, t3_, t4_, t5_, t6_]); (repeat' split) <;> first | rfl | (exfalso; omega))), g295⟩
