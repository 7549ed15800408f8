set_option maxHeartbeats 4000000 in
set_option maxRecDepth 100000 in
theorem m_nodeAt (l : Launch) (g : q_G) {K : Nat → Nat} {L : List Nat} (hN : L.Nodup) {f : Nat → va_E} (hT : q_Ty g K L f) (v : Nat) (hv : v ∈ L) (kv : K v = 10) (x : Int) (lx : (-2147483648) ≤ x) (ux : x ≤ 2147483647) : q_Ct l g K L yX10_nodeAt cX10_nodeAt 2 (some (.object "WakeVillage$Node")) 0 0 [.ref v, .int (q_i x)] f [] (q_Pr (fun (z : Nat) (f1 : Nat → va_E) => f = f1 ∧ z ∈ L ∧ K z = 5)) := by
  refine q_ofb (by decide +kernel) hN hT (Nat.le_of_ble_eq_true rfl) ?_
  intro p e s m below meth c ls cx hr hlk hB hl
  have hl : lv_has ls 2 [(0, .ref v), (1, .int (q_i x))] := hl
  obtain ⟨H, hH⟩ : ∃ H : Heap, H = s.heap := ⟨_, rfl⟩
  obtain ⟨locs, hlocs⟩ : ∃ z : List Loc, z = [] := ⟨_, rfl⟩
  rw [← hH, ← hlocs] at hB
  rw [← hH, ← hlocs]
  refine q_ald_n cx dX10_nodeAt_0 rfl (lv_at hl 0 rfl) ?_
  obtain ⟨p12, ep12⟩ : ∃ zz, q_r f v 0 = zz := ⟨_, rfl⟩
  refine q_gX10_13 cx hB hv kv ep12 dX10_nodeAt_1 (fun hb13 kb13 => ?_)
  refine q_ild_n cx dX10_nodeAt_4 rfl (lv_at hl 1 rfl) ?_
  refine q_iflt (tgt := 21) cx ⟨by omega, by omega⟩ dX10_nodeAt_5 (by decide) (fun c14 => ?_) (fun c14 => ?_)
  · refine q_iconst cx dX10_nodeAt_21 ?_
    obtain ⟨p15, ep15⟩ : ∃ zz, q_r f p12 (Int.toNat 0) = zz := ⟨_, rfl⟩
    refine q_aald (k2 := 5) (n := 10) cx hB hb13 kb13 (by decide) rfl 7 rfl (by decide) rfl (by decide) (by decide) (by decide) rfl ep15 dX10_nodeAt_22 (fun hb16 kb16 => ?_)
    refine q_aret cx hr (Or.inl ⟨_, rfl⟩) hlk hB dX10_nodeAt_23 ?_
    exact ⟨rfl, hb16, kb16⟩
  · refine q_ild_n cx dX10_nodeAt_8 rfl (lv_at hl 1 rfl) ?_
    refine q_ald_n cx dX10_nodeAt_9 rfl (lv_at hl 0 rfl) ?_
    refine q_gX10_13 cx hB hv kv ep12 dX10_nodeAt_10 (fun hb17 kb17 => ?_)
    refine q_alen (n := 10) cx hB hb17 kb17 (by decide) rfl 7 rfl rfl dX10_nodeAt_13 ?_
    refine q_icge (tgt := 21) cx ⟨by omega, by omega⟩ ⟨by decide, by decide⟩ dX10_nodeAt_14 (by decide) (fun c18 => ?_) (fun c18 => ?_)
    · refine q_iconst cx dX10_nodeAt_21 ?_
      obtain ⟨p19, ep19⟩ : ∃ zz, q_r f p12 (Int.toNat 0) = zz := ⟨_, rfl⟩
      refine q_aald (k2 := 5) (n := 10) cx hB hb17 kb17 (by decide) rfl 7 rfl (by decide) rfl (by decide) (by decide) (by decide) rfl ep19 dX10_nodeAt_22 (fun hb20 kb20 => ?_)
      refine q_aret cx hr (Or.inl ⟨_, rfl⟩) hlk hB dX10_nodeAt_23 ?_
      exact ⟨rfl, hb20, kb20⟩
    · refine q_ild_n cx dX10_nodeAt_17 rfl (lv_at hl 1 rfl) ?_
      refine lv_goto (tgt := 22) cx.1 cx.2.1 dX10_nodeAt_18 (by decide) ?_
      obtain ⟨p21, ep21⟩ : ∃ zz, q_r f p12 (Int.toNat x) = zz := ⟨_, rfl⟩
      refine q_aald (k2 := 5) (n := 10) cx hB hb17 kb17 (by decide) rfl 7 rfl (by decide) rfl (by omega) (by omega) (by decide) rfl ep21 dX10_nodeAt_22 (fun hb22 kb22 => ?_)
      refine q_aret cx hr (Or.inl ⟨_, rfl⟩) hlk hB dX10_nodeAt_23 ?_
      exact ⟨rfl, hb22, kb22⟩
set_option maxHeartbeats 4000000 in
set_option maxRecDepth 100000 in
theorem m_linkAt (l : Launch) (g : q_G) {K : Nat → Nat} {L : List Nat} (hN : L.Nodup) {f : Nat → va_E} (hT : q_Ty g K L f) (v : Nat) (hv : v ∈ L) (kv : K v = 10) (x : Int) (lx : (-2147483648) ≤ x) (ux : x ≤ 2147483647) : q_Ct l g K L yX10_linkAt cX10_linkAt 2 (some (.object "WakeVillage$Link")) 0 0 [.ref v, .int (q_i x)] f [] (q_Pr (fun (z : Nat) (f1 : Nat → va_E) => f = f1 ∧ z ∈ L ∧ K z = 3)) := by
  refine q_ofb (by decide +kernel) hN hT (Nat.le_of_ble_eq_true rfl) ?_
  intro p e s m below meth c ls cx hr hlk hB hl
  have hl : lv_has ls 2 [(0, .ref v), (1, .int (q_i x))] := hl
  obtain ⟨H, hH⟩ : ∃ H : Heap, H = s.heap := ⟨_, rfl⟩
  obtain ⟨locs, hlocs⟩ : ∃ z : List Loc, z = [] := ⟨_, rfl⟩
  rw [← hH, ← hlocs] at hB
  rw [← hH, ← hlocs]
  refine q_ald_n cx dX10_linkAt_0 rfl (lv_at hl 0 rfl) ?_
  obtain ⟨p12, ep12⟩ : ∃ zz, q_r f v 1 = zz := ⟨_, rfl⟩
  refine q_gX10_19 cx hB hv kv ep12 dX10_linkAt_1 (fun hb13 kb13 => ?_)
  refine q_ild_n cx dX10_linkAt_4 rfl (lv_at hl 1 rfl) ?_
  refine q_iflt (tgt := 21) cx ⟨by omega, by omega⟩ dX10_linkAt_5 (by decide) (fun c14 => ?_) (fun c14 => ?_)
  · refine q_iconst cx dX10_linkAt_21 ?_
    obtain ⟨p15, ep15⟩ : ∃ zz, q_r f p12 (Int.toNat 0) = zz := ⟨_, rfl⟩
    refine q_aald (k2 := 3) (n := 16) cx hB hb13 kb13 (by decide) rfl 5 rfl (by decide) rfl (by decide) (by decide) (by decide) rfl ep15 dX10_linkAt_22 (fun hb16 kb16 => ?_)
    refine q_aret cx hr (Or.inl ⟨_, rfl⟩) hlk hB dX10_linkAt_23 ?_
    exact ⟨rfl, hb16, kb16⟩
  · refine q_ild_n cx dX10_linkAt_8 rfl (lv_at hl 1 rfl) ?_
    refine q_ald_n cx dX10_linkAt_9 rfl (lv_at hl 0 rfl) ?_
    refine q_gX10_19 cx hB hv kv ep12 dX10_linkAt_10 (fun hb17 kb17 => ?_)
    refine q_alen (n := 16) cx hB hb17 kb17 (by decide) rfl 5 rfl rfl dX10_linkAt_13 ?_
    refine q_icge (tgt := 21) cx ⟨by omega, by omega⟩ ⟨by decide, by decide⟩ dX10_linkAt_14 (by decide) (fun c18 => ?_) (fun c18 => ?_)
    · refine q_iconst cx dX10_linkAt_21 ?_
      obtain ⟨p19, ep19⟩ : ∃ zz, q_r f p12 (Int.toNat 0) = zz := ⟨_, rfl⟩
      refine q_aald (k2 := 3) (n := 16) cx hB hb17 kb17 (by decide) rfl 5 rfl (by decide) rfl (by decide) (by decide) (by decide) rfl ep19 dX10_linkAt_22 (fun hb20 kb20 => ?_)
      refine q_aret cx hr (Or.inl ⟨_, rfl⟩) hlk hB dX10_linkAt_23 ?_
      exact ⟨rfl, hb20, kb20⟩
    · refine q_ild_n cx dX10_linkAt_17 rfl (lv_at hl 1 rfl) ?_
      refine lv_goto (tgt := 22) cx.1 cx.2.1 dX10_linkAt_18 (by decide) ?_
      obtain ⟨p21, ep21⟩ : ∃ zz, q_r f p12 (Int.toNat x) = zz := ⟨_, rfl⟩
      refine q_aald (k2 := 3) (n := 16) cx hB hb17 kb17 (by decide) rfl 5 rfl (by decide) rfl (by omega) (by omega) (by decide) rfl ep21 dX10_linkAt_22 (fun hb22 kb22 => ?_)
      refine q_aret cx hr (Or.inl ⟨_, rfl⟩) hlk hB dX10_linkAt_23 ?_
      exact ⟨rfl, hb22, kb22⟩
set_option maxHeartbeats 4000000 in
set_option maxRecDepth 100000 in
theorem m_messageAt (l : Launch) (g : q_G) {K : Nat → Nat} {L : List Nat} (hN : L.Nodup) {f : Nat → va_E} (hT : q_Ty g K L f) (v : Nat) (hv : v ∈ L) (kv : K v = 10) (x : Int) (lx : (-2147483648) ≤ x) (ux : x ≤ 2147483647) : q_Ct l g K L yX10_messageAt cX10_messageAt 2 (some (.object "WakeVillage$Message")) 0 0 [.ref v, .int (q_i x)] f [] (q_Pr (fun (z : Nat) (f1 : Nat → va_E) => f = f1 ∧ z ∈ L ∧ K z = 4)) := by
  refine q_ofb (by decide +kernel) hN hT (Nat.le_of_ble_eq_true rfl) ?_
  intro p e s m below meth c ls cx hr hlk hB hl
  have hl : lv_has ls 2 [(0, .ref v), (1, .int (q_i x))] := hl
  obtain ⟨H, hH⟩ : ∃ H : Heap, H = s.heap := ⟨_, rfl⟩
  obtain ⟨locs, hlocs⟩ : ∃ z : List Loc, z = [] := ⟨_, rfl⟩
  rw [← hH, ← hlocs] at hB
  rw [← hH, ← hlocs]
  refine q_ald_n cx dX10_messageAt_0 rfl (lv_at hl 0 rfl) ?_
  obtain ⟨p12, ep12⟩ : ∃ zz, q_r f v 2 = zz := ⟨_, rfl⟩
  refine q_gX10_25 cx hB hv kv ep12 dX10_messageAt_1 (fun hb13 kb13 => ?_)
  refine q_ild_n cx dX10_messageAt_4 rfl (lv_at hl 1 rfl) ?_
  refine q_iflt (tgt := 21) cx ⟨by omega, by omega⟩ dX10_messageAt_5 (by decide) (fun c14 => ?_) (fun c14 => ?_)
  · refine q_iconst cx dX10_messageAt_21 ?_
    obtain ⟨p15, ep15⟩ : ∃ zz, q_r f p12 (Int.toNat 0) = zz := ⟨_, rfl⟩
    refine q_aald (k2 := 4) (n := 61) cx hB hb13 kb13 (by decide) rfl 6 rfl (by decide) rfl (by decide) (by decide) (by decide) rfl ep15 dX10_messageAt_22 (fun hb16 kb16 => ?_)
    refine q_aret cx hr (Or.inl ⟨_, rfl⟩) hlk hB dX10_messageAt_23 ?_
    exact ⟨rfl, hb16, kb16⟩
  · refine q_ild_n cx dX10_messageAt_8 rfl (lv_at hl 1 rfl) ?_
    refine q_ald_n cx dX10_messageAt_9 rfl (lv_at hl 0 rfl) ?_
    refine q_gX10_25 cx hB hv kv ep12 dX10_messageAt_10 (fun hb17 kb17 => ?_)
    refine q_alen (n := 61) cx hB hb17 kb17 (by decide) rfl 6 rfl rfl dX10_messageAt_13 ?_
    refine q_icge (tgt := 21) cx ⟨by omega, by omega⟩ ⟨by decide, by decide⟩ dX10_messageAt_14 (by decide) (fun c18 => ?_) (fun c18 => ?_)
    · refine q_iconst cx dX10_messageAt_21 ?_
      obtain ⟨p19, ep19⟩ : ∃ zz, q_r f p12 (Int.toNat 0) = zz := ⟨_, rfl⟩
      refine q_aald (k2 := 4) (n := 61) cx hB hb17 kb17 (by decide) rfl 6 rfl (by decide) rfl (by decide) (by decide) (by decide) rfl ep19 dX10_messageAt_22 (fun hb20 kb20 => ?_)
      refine q_aret cx hr (Or.inl ⟨_, rfl⟩) hlk hB dX10_messageAt_23 ?_
      exact ⟨rfl, hb20, kb20⟩
    · refine q_ild_n cx dX10_messageAt_17 rfl (lv_at hl 1 rfl) ?_
      refine lv_goto (tgt := 22) cx.1 cx.2.1 dX10_messageAt_18 (by decide) ?_
      obtain ⟨p21, ep21⟩ : ∃ zz, q_r f p12 (Int.toNat x) = zz := ⟨_, rfl⟩
      refine q_aald (k2 := 4) (n := 61) cx hB hb17 kb17 (by decide) rfl 6 rfl (by decide) rfl (by omega) (by omega) (by decide) rfl ep21 dX10_messageAt_22 (fun hb22 kb22 => ?_)
      refine q_aret cx hr (Or.inl ⟨_, rfl⟩) hlk hB dX10_messageAt_23 ?_
      exact ⟨rfl, hb22, kb22⟩
set_option maxHeartbeats 4000000 in
set_option maxRecDepth 100000 in
theorem m_has (l : Launch) (g : q_G) {K : Nat → Nat} {L : List Nat} (hN : L.Nodup) {f : Nat → va_E} (hT : q_Ty g K L f) (x : Int) (lx : (-2147483648) ≤ x) (ux : x ≤ 2147483647) (y : Int) (ly : (-2147483648) ≤ y) (uy : y ≤ 2147483647) : q_Ct l g K L yX10_has cX10_has 2 (some .boolean) 0 0 [.int (q_i x), .int (q_i y)] f [] (q_Pi (fun (z : Int) (f1 : Nat → va_E) => f = f1 ∧ 0 ≤ z ∧ z ≤ 1)) := by
  refine q_ofb (by decide +kernel) hN hT (Nat.le_of_ble_eq_true rfl) ?_
  intro p e s m below meth c ls cx hr hlk hB hl
  have hl : lv_has ls 2 [(0, .int (q_i x)), (1, .int (q_i y))] := hl
  obtain ⟨H, hH⟩ : ∃ H : Heap, H = s.heap := ⟨_, rfl⟩
  obtain ⟨locs, hlocs⟩ : ∃ z : List Loc, z = [] := ⟨_, rfl⟩
  rw [← hH, ← hlocs] at hB
  rw [← hH, ← hlocs]
  refine q_ild_n cx dX10_has_0 rfl (lv_at hl 0 rfl) ?_
  refine q_ild_n cx dX10_has_1 rfl (lv_at hl 1 rfl) ?_
  refine q_ishr cx dX10_has_2 (fun y4 ry4 ey4 => ?_)
  refine q_iconst cx dX10_has_3 ?_
  refine q_iandm cx 1 (by decide) rfl dX10_has_4 (fun y5 ly5 uy5 ey5 => ?_)
  refine q_ifeq (tgt := 12) cx ⟨by omega, by omega⟩ dX10_has_5 (by decide) (fun c6 => ?_) (fun c6 => ?_)
  · refine q_iconst cx dX10_has_12 ?_
    refine q_zret cx hr hlk hB dX10_has_13 (by decide) (by decide) ?_
    exact ⟨rfl, (by decide), (by decide)⟩
  · refine q_iconst cx dX10_has_8 ?_
    refine lv_goto (tgt := 13) cx.1 cx.2.1 dX10_has_9 (by decide) ?_
    refine q_zret cx hr hlk hB dX10_has_13 (by decide) (by decide) ?_
    exact ⟨rfl, (by decide), (by decide)⟩
set_option maxHeartbeats 4000000 in
set_option maxRecDepth 100000 in
theorem m_isOut (l : Launch) (g : q_G) {K : Nat → Nat} {L : List Nat} (hN : L.Nodup) {f : Nat → va_E} (hT : q_Ty g K L f) (v : Nat) (hv : v ∈ L) (kv : K v = 10) (x : Int) (lx : (-2147483648) ≤ x) (ux : x ≤ 2147483647) : q_Ct l g K L yX10_isOut cX10_isOut 2 (some .boolean) 1 21 [.ref v, .int (q_i x)] f [] (q_Pi (fun (z : Int) (f1 : Nat → va_E) => f = f1 ∧ 0 ≤ z ∧ z ≤ 1)) := by
  refine q_ofb (by decide +kernel) hN hT (Nat.le_of_ble_eq_true rfl) ?_
  intro p e s m below meth c ls cx hr hlk hB hl
  have hl : lv_has ls 2 [(0, .ref v), (1, .int (q_i x))] := hl
  obtain ⟨H, hH⟩ : ∃ H : Heap, H = s.heap := ⟨_, rfl⟩
  obtain ⟨locs, hlocs⟩ : ∃ z : List Loc, z = [] := ⟨_, rfl⟩
  rw [← hH, ← hlocs] at hB
  rw [← hH, ← hlocs]
  refine q_ald_n cx dX10_isOut_0 rfl (lv_at hl 0 rfl) ?_
  refine q_ild_n cx dX10_isOut_1 rfl (lv_at hl 1 rfl) ?_
  refine q_cVr (As := [.int (q_i x)]) (rest := []) cx hB (fun _ h => h) hN hv kv (by decide) rfl (m_nodeAt l g hN hB.2.1 v hv kv x (by omega) (by omega)) q_cX10_66 q_dX10_nodeAt (by decide) rfl rfl hl.1 rfl (Nat.le_of_ble_eq_true rfl) dX10_isOut_2 (fun y8 H locs f7 h9 hF hB => ?_)
  obtain ⟨rfl, hy8, ky8⟩ := h9
  obtain ⟨x10, ex10⟩ : ∃ zz, q_z f y8 4 = zz := ⟨_, rfl⟩
  refine q_gX10_101 cx hB hy8 ky8 ex10 dX10_isOut_5 (fun lb11 ub11 => ?_)
  refine q_ifne (tgt := 15) cx ⟨by omega, by omega⟩ dX10_isOut_8 (by decide) (fun c12 => ?_) (fun c12 => ?_)
  · refine q_iconst cx dX10_isOut_15 ?_
    refine q_zret cx hr hlk hB dX10_isOut_16 (by decide) (by decide) ?_
    exact ⟨rfl, (by decide), (by decide)⟩
  · refine q_iconst cx dX10_isOut_11 ?_
    refine lv_goto (tgt := 16) cx.1 cx.2.1 dX10_isOut_12 (by decide) ?_
    refine q_zret cx hr hlk hB dX10_isOut_16 (by decide) (by decide) ?_
    exact ⟨rfl, (by decide), (by decide)⟩
set_option maxHeartbeats 4000000 in
set_option maxRecDepth 100000 in
theorem m_dayOfYear (l : Launch) (g : q_G) {K : Nat → Nat} {L : List Nat} (hN : L.Nodup) {f : Nat → va_E} (hT : q_Ty g K L f) (v : Nat) (hv : v ∈ L) (kv : K v = 10) (x : Int) (lx : (-2147483648) ≤ x) (ux : x ≤ 2147483647) : q_Ct l g K L yX10_dayOfYear cX10_dayOfYear 2 (some .int) 0 0 [.ref v, .int (q_i x)] f [] (q_Pi (fun (z : Int) (f1 : Nat → va_E) => f = f1)) := by
  refine q_ofb (by decide +kernel) hN hT (Nat.le_of_ble_eq_true rfl) ?_
  intro p e s m below meth c ls cx hr hlk hB hl
  have hl : lv_has ls 2 [(0, .ref v), (1, .int (q_i x))] := hl
  obtain ⟨H, hH⟩ : ∃ H : Heap, H = s.heap := ⟨_, rfl⟩
  obtain ⟨locs, hlocs⟩ : ∃ z : List Loc, z = [] := ⟨_, rfl⟩
  rw [← hH, ← hlocs] at hB
  rw [← hH, ← hlocs]
  refine q_ald_n cx dX10_dayOfYear_0 rfl (lv_at hl 0 rfl) ?_
  obtain ⟨x6, ex6⟩ : ∃ zz, q_z f v 6 = zz := ⟨_, rfl⟩
  refine q_gX10_45 cx hB hv kv ex6 dX10_dayOfYear_1 (fun lb7 ub7 => ?_)
  refine q_ifle (tgt := 16) cx ⟨by omega, by omega⟩ dX10_dayOfYear_4 (by decide) (fun c8 => ?_) (fun c8 => ?_)
  · exact absurd c8 (by omega)
  · refine q_ild_n cx dX10_dayOfYear_7 rfl (lv_at hl 1 rfl) ?_
    refine q_ald_n cx dX10_dayOfYear_8 rfl (lv_at hl 0 rfl) ?_
    refine q_gX10_45 cx hB hv kv ex6 dX10_dayOfYear_9 (fun lb9 ub9 => ?_)
    refine q_irem cx ⟨by omega, by omega⟩ ⟨by omega, by omega⟩ (by omega) dX10_dayOfYear_12 (fun y10 ey10 ay10 by10 ny10 => ?_)
    refine lv_goto (tgt := 17) cx.1 cx.2.1 dX10_dayOfYear_13 (by decide) ?_
    refine q_iret cx hr hlk hB dX10_dayOfYear_17 ⟨by omega, by omega⟩ ?_
    exact rfl
set_option maxHeartbeats 4000000 in
set_option maxRecDepth 100000 in
theorem m_dayOf (l : Launch) (g : q_G) {K : Nat → Nat} {L : List Nat} (hN : L.Nodup) {f : Nat → va_E} (hT : q_Ty g K L f) (v : Nat) (hv : v ∈ L) (kv : K v = 10) (x : Int) (lx : (-2147483648) ≤ x) (ux : x ≤ 2147483647) : q_Ct l g K L yX10_dayOf cX10_dayOf 2 (some .int) 1 21 [.ref v, .int (q_i x)] f [] (q_Pi (fun (z : Int) (f1 : Nat → va_E) => f = f1)) := by
  refine q_ofb (by decide +kernel) hN hT (Nat.le_of_ble_eq_true rfl) ?_
  intro p e s m below meth c ls cx hr hlk hB hl
  have hl : lv_has ls 2 [(0, .ref v), (1, .int (q_i x))] := hl
  obtain ⟨H, hH⟩ : ∃ H : Heap, H = s.heap := ⟨_, rfl⟩
  obtain ⟨locs, hlocs⟩ : ∃ z : List Loc, z = [] := ⟨_, rfl⟩
  rw [← hH, ← hlocs] at hB
  rw [← hH, ← hlocs]
  refine q_ald_n cx dX10_dayOf_0 rfl (lv_at hl 0 rfl) ?_
  refine q_ald_n cx dX10_dayOf_1 rfl (lv_at hl 0 rfl) ?_
  obtain ⟨x12, ex12⟩ : ∃ zz, q_z f v 11 = zz := ⟨_, rfl⟩
  refine q_gX10_60 cx hB hv kv ex12 dX10_dayOf_2 (fun lb13 ub13 => ?_)
  refine q_ald_n cx dX10_dayOf_5 rfl (lv_at hl 0 rfl) ?_
  refine q_ild_n cx dX10_dayOf_6 rfl (lv_at hl 1 rfl) ?_
  refine q_cVr (As := [.int (q_i x)]) (rest := [.int (q_i x12), .ref v]) cx hB (fun _ h => h) hN hv kv (by decide) rfl (m_nodeAt l g hN hB.2.1 v hv kv x (by omega) (by omega)) q_cX10_66 q_dX10_nodeAt (by decide) rfl rfl hl.1 rfl (Nat.le_of_ble_eq_true rfl) dX10_dayOf_7 (fun y15 H locs f14 h16 hF hB => ?_)
  obtain ⟨rfl, hy15, ky15⟩ := h16
  obtain ⟨x17, ex17⟩ : ∃ zz, q_z f y15 3 = zz := ⟨_, rfl⟩
  refine q_gX10_98 cx hB hy15 ky15 ex17 dX10_dayOf_10 (fun lb18 ub18 => ?_)
  refine q_iadd cx dX10_dayOf_13 ?_
  refine q_any (fun y19 ry19 ey19 => ?_)
  refine q_cVi (As := [.int (q_i y19)]) (rest := []) cx hB (fun _ h => h) hN hv kv (by decide) rfl (m_dayOfYear l g hN hB.2.1 v hv kv y19 (by omega) (by omega)) q_cX10_156 q_dX10_dayOfYear (by decide) rfl rfl hl.1 rfl (Nat.le_of_ble_eq_true rfl) dX10_dayOf_14 (fun y21 H locs f20 ry21 h22 hF hB => ?_)
  obtain rfl := h22
  refine q_iret cx hr hlk hB dX10_dayOf_17 ⟨by omega, by omega⟩ ?_
  exact rfl
set_option maxHeartbeats 4000000 in
set_option maxRecDepth 100000 in
theorem m_hasDay (l : Launch) (g : q_G) {K : Nat → Nat} {L : List Nat} (hN : L.Nodup) {f : Nat → va_E} (hT : q_Ty g K L f) (x : Int64) (y : Int) (ly : (-2147483648) ≤ y) (uy : y ≤ 2147483647) : q_Ct l g K L yX10_hasDay cX10_hasDay 3 (some .boolean) 0 0 [.long x, .int (q_i y)] f [] (q_Pi (fun (z : Int) (f1 : Nat → va_E) => f = f1 ∧ 0 ≤ z ∧ z ≤ 1)) := by
  refine q_ofb (by decide +kernel) hN hT (Nat.le_of_ble_eq_true rfl) ?_
  intro p e s m below meth c ls cx hr hlk hB hl
  have hl : lv_has ls 3 [(0, .long x), (2, .int (q_i y))] := hl
  obtain ⟨H, hH⟩ : ∃ H : Heap, H = s.heap := ⟨_, rfl⟩
  obtain ⟨locs, hlocs⟩ : ∃ z : List Loc, z = [] := ⟨_, rfl⟩
  rw [← hH, ← hlocs] at hB
  rw [← hH, ← hlocs]
  refine q_lld_n cx dX10_hasDay_0 rfl (lv_at hl 0 rfl) ?_
  refine q_ild_n cx dX10_hasDay_1 rfl (lv_at hl 1 rfl) ?_
  refine lv_lshr cx.1 cx.2.1 dX10_hasDay_2 rfl ?_
  refine lv_topl (fun j5 ej5 => ?_)
  refine q_lconst (z := 1) cx (by decide) dX10_hasDay_3 ?_
  refine lv_land cx.1 cx.2.1 dX10_hasDay_4 ?_
  refine lv_topl (fun j6 ej6 => ?_)
  refine q_lconst (z := 0) cx (by decide) dX10_hasDay_5 ?_
  refine q_lcmp cx dX10_hasDay_6 (fun y7 ly7 uy7 ey7 gy7 hy7 => ?_)
  refine q_ifeq (tgt := 14) cx ⟨by omega, by omega⟩ dX10_hasDay_7 (by decide) (fun c8 => ?_) (fun c8 => ?_)
  · refine q_iconst cx dX10_hasDay_14 ?_
    refine q_zret cx hr hlk hB dX10_hasDay_15 (by decide) (by decide) ?_
    exact ⟨rfl, (by decide), (by decide)⟩
  · refine q_iconst cx dX10_hasDay_10 ?_
    refine lv_goto (tgt := 15) cx.1 cx.2.1 dX10_hasDay_11 (by decide) ?_
    refine q_zret cx hr hlk hB dX10_hasDay_15 (by decide) (by decide) ?_
    exact ⟨rfl, (by decide), (by decide)⟩
set_option maxHeartbeats 4000000 in
set_option maxRecDepth 100000 in
theorem m_tableOf (l : Launch) (g : q_G) {K : Nat → Nat} {L : List Nat} (hN : L.Nodup) {f : Nat → va_E} (hT : q_Ty g K L f) (v : Nat) (hv : v ∈ L) (kv : K v = 10) (x : Int) (lx : (-2147483648) ≤ x) (ux : x ≤ 2147483647) : q_Ct l g K L yX10_tableOf cX10_tableOf 6 (some .long) 1 21 [.ref v, .int (q_i x)] f [] (q_Pl (fun (z : Int64) (f1 : Nat → va_E) => f = f1)) := by
  refine q_ofb (by decide +kernel) hN hT (Nat.le_of_ble_eq_true rfl) ?_
  intro p e s m below meth c ls cx hr hlk hB hl
  have hl : lv_has ls 6 [(0, .ref v), (1, .int (q_i x))] := hl
  have J21 : ∀ (n : Nat) (v21_2 : Nat) (hv21_2 : v21_2 ∈ L) (kv21_2 : K v21_2 = 5) (v21_3 : Int64) (v21_5 : Int) (lv21_5 : 0 ≤ v21_5) (uv21_5 : v21_5 ≤ 2147483647) (hmu : (Int.toNat (2147483647 - v21_5)) < n) (H : Heap) (locs : List Loc) (hB : q_B g K L (fun q => q ∈ L) [] f f s H locs) (ls : Array Slot) (hl : lv_has ls 6 [(0, .ref v), (2, .ref v21_2), (3, .long v21_3), (5, .int (q_i v21_5))]), W p l e { frames := 1, cells := 0, slots := 0, locals := 21 } s m ([.ref v, .int (q_i x)] : List Value).toArray below meth c H locs 0 0 (MQ below (q_Q g K L [] f (q_Pl (fun (z : Int64) (f1 : Nat → va_E) => f = f1))) ([.ref v, .int (q_i x)] : List Value).toArray s 0 0 (fun q => q ∈ L)) (F0 m 21 ls []) := by
    intro n
    induction n with
    | zero =>
      intro v21_2 hv21_2 kv21_2 v21_3 v21_5 lv21_5 uv21_5 hmu
      exact absurd hmu (Nat.not_lt_zero _)
    | succ n ih21 =>
      intro v21_2 hv21_2 kv21_2 v21_3 v21_5 lv21_5 uv21_5 hmu H locs hB ls hl
      have J56 : ∀ (v56_3 : Int64) (buv21_5 : v21_5 ≤ 2147483646) (H : Heap) (locs : List Loc) (hB : q_B g K L (fun q => q ∈ L) [] f f s H locs) (ls : Array Slot) (hl : lv_has ls 6 [(0, .ref v), (2, .ref v21_2), (3, .long v56_3), (5, .int (q_i v21_5))]), W p l e { frames := 1, cells := 0, slots := 0, locals := 21 } s m ([.ref v, .int (q_i x)] : List Value).toArray below meth c H locs 0 0 (MQ below (q_Q g K L [] f (q_Pl (fun (z : Int64) (f1 : Nat → va_E) => f = f1))) ([.ref v, .int (q_i x)] : List Value).toArray s 0 0 (fun q => q ∈ L)) (F0 m 56 ls []) := by
        intro v56_3 buv21_5 H locs hB ls hl
        refine q_iinc (lv' := [(5, .int (q_i (v21_5 + 1))), (0, .ref v), (2, .ref v21_2), (3, .long v56_3)]) cx dX10_tableOf_56 hl (k := 3) rfl (by decide) rfl (fun ls hl => ?_)
        refine lv_goto (tgt := 21) cx.1 cx.2.1 dX10_tableOf_59 (by decide) ?_
        exact ih21 v21_2 hv21_2 kv21_2 v56_3 (v21_5 + 1) (by omega) (by omega) (by omega) H locs hB ls (lv_sub hl [1, 2, 3, 0] rfl)
      refine lv_iload cx.1 cx.2.1 dX10_tableOf_21 (lv_at hl 3 rfl) ?_
      refine q_ald_n cx dX10_tableOf_23 rfl (lv_at hl 0 rfl) ?_
      obtain ⟨x569, ex569⟩ : ∃ zz, q_z f v 3 = zz := ⟨_, rfl⟩
      refine q_gX10_35 cx hB hv kv ex569 dX10_tableOf_24 (fun lb570 ub570 => ?_)
      refine q_icge (tgt := 62) cx ⟨by omega, by omega⟩ ⟨by omega, by omega⟩ dX10_tableOf_27 (by decide) (fun c571 => ?_) (fun c571 => ?_)
      · refine q_lld_n cx dX10_tableOf_62 rfl (lv_at hl 2 rfl) ?_
        refine q_lret cx hr hlk hB dX10_tableOf_63 ?_
        exact rfl
      · refine q_ald_n cx dX10_tableOf_30 rfl (lv_at hl 1 rfl) ?_
        obtain ⟨x572, ex572⟩ : ∃ zz, q_z f v21_2 5 = zz := ⟨_, rfl⟩
        refine q_gX10_104 cx hB hv21_2 kv21_2 ex572 dX10_tableOf_31 (fun lb573 ub573 => ?_)
        refine lv_iload cx.1 cx.2.1 dX10_tableOf_34 (lv_at hl 3 rfl) ?_
        refine q_cSi (As := [.int (q_i x572), .int (q_i v21_5)]) (rest := []) cx hB (fun _ h => h) hN (m_has l g hN hB.2.1 x572 (by omega) (by omega) v21_5 (by omega) (by omega)) q_cX10_181 q_dX10_has (by decide) rfl rfl hl.1 rfl (Nat.le_of_ble_eq_true rfl) dX10_tableOf_36 (fun y575 H locs f574 ry575 h576 hF hB => ?_)
        obtain ⟨rfl, ly575, uy575⟩ := h576
        refine q_ifeq (tgt := 56) cx ⟨by omega, by omega⟩ dX10_tableOf_39 (by decide) (fun c577 => ?_) (fun c577 => ?_)
        · exact J56 v21_3 (by omega) H locs hB ls (lv_sub hl [0, 1, 2, 3] rfl)
        · refine q_lld_n cx dX10_tableOf_42 rfl (lv_at hl 2 rfl) ?_
          refine q_lconst (z := 1) cx (by decide) dX10_tableOf_43 ?_
          refine q_ald_n cx dX10_tableOf_44 rfl (lv_at hl 0 rfl) ?_
          refine lv_iload cx.1 cx.2.1 dX10_tableOf_45 (lv_at hl 3 rfl) ?_
          refine q_cVr (As := [.int (q_i v21_5)]) (rest := [.long (q_l 1), .long v21_3]) cx hB (fun _ h => h) hN hv kv (by decide) rfl (m_nodeAt l g hN hB.2.1 v hv kv v21_5 (by omega) (by omega)) q_cX10_66 q_dX10_nodeAt (by decide) rfl rfl hl.1 rfl (Nat.le_of_ble_eq_true rfl) dX10_tableOf_47 (fun y579 H locs f578 h580 hF hB => ?_)
          obtain ⟨rfl, hy579, ky579⟩ := h580
          obtain ⟨x581, ex581⟩ : ∃ zz, q_z f y579 2 = zz := ⟨_, rfl⟩
          refine q_gX10_95 cx hB hy579 ky579 ex581 dX10_tableOf_50 (fun lb582 ub582 => ?_)
          refine lv_lshl cx.1 cx.2.1 dX10_tableOf_53 rfl ?_
          refine lv_topl (fun j583 ej583 => ?_)
          refine lv_lor cx.1 cx.2.1 dX10_tableOf_54 ?_
          refine lv_topl (fun j584 ej584 => ?_)
          refine lv_lstore_n (lv' := [(3, .long j584), (0, .ref v), (2, .ref v21_2), (5, .int (q_i v21_5))]) cx.1 cx.2.1 dX10_tableOf_55 rfl hl (by decide) rfl (fun ls hl => ?_)
          exact J56 j584 (by omega) H locs hB ls (lv_sub hl [1, 2, 0, 3] rfl)
  obtain ⟨H, hH⟩ : ∃ H : Heap, H = s.heap := ⟨_, rfl⟩
  obtain ⟨locs, hlocs⟩ : ∃ z : List Loc, z = [] := ⟨_, rfl⟩
  rw [← hH, ← hlocs] at hB
  rw [← hH, ← hlocs]
  refine q_ald_n cx dX10_tableOf_0 rfl (lv_at hl 0 rfl) ?_
  refine q_ild_n cx dX10_tableOf_1 rfl (lv_at hl 1 rfl) ?_
  refine q_cVr (As := [.int (q_i x)]) (rest := []) cx hB (fun _ h => h) hN hv kv (by decide) rfl (m_nodeAt l g hN hB.2.1 v hv kv x (by omega) (by omega)) q_cX10_66 q_dX10_nodeAt (by decide) rfl rfl hl.1 rfl (Nat.le_of_ble_eq_true rfl) dX10_tableOf_2 (fun y586 H locs f585 h587 hF hB => ?_)
  obtain ⟨rfl, hy586, ky586⟩ := h587
  refine lv_astore_n (lv' := [(2, .ref y586), (0, .ref v), (1, .int (q_i x))]) cx.1 cx.2.1 dX10_tableOf_5 rfl hl (by decide) rfl (fun ls hl => ?_)
  refine q_ald_n cx dX10_tableOf_6 rfl (lv_at hl 0 rfl) ?_
  obtain ⟨j588, ej588⟩ : ∃ zz, q_j f y586 1 = zz := ⟨_, rfl⟩
  refine q_gX10_92 cx hB hy586 ky586 ej588 dX10_tableOf_7 ?_
  refine q_lconst (z := 1) cx (by decide) dX10_tableOf_10 ?_
  refine q_ald_n cx dX10_tableOf_11 rfl (lv_at hl 0 rfl) ?_
  obtain ⟨x589, ex589⟩ : ∃ zz, q_z f y586 2 = zz := ⟨_, rfl⟩
  refine q_gX10_95 cx hB hy586 ky586 ex589 dX10_tableOf_12 (fun lb590 ub590 => ?_)
  refine lv_lshl cx.1 cx.2.1 dX10_tableOf_15 rfl ?_
  refine lv_topl (fun j591 ej591 => ?_)
  refine lv_lor cx.1 cx.2.1 dX10_tableOf_16 ?_
  refine lv_topl (fun j592 ej592 => ?_)
  refine lv_lstore_n (lv' := [(3, .long j592), (2, .ref y586), (0, .ref v), (1, .int (q_i x))]) cx.1 cx.2.1 dX10_tableOf_17 rfl hl (by decide) rfl (fun ls hl => ?_)
  refine q_iconst cx dX10_tableOf_18 ?_
  refine lv_istore (lv' := [(5, .int (q_i 0)), (3, .long j592), (2, .ref y586), (0, .ref v), (1, .int (q_i x))]) cx.1 cx.2.1 dX10_tableOf_19 hl (by decide) rfl (fun ls hl => ?_)
  exact J21 ((Int.toNat (2147483647 - 0)) + 1) y586 hy586 ky586 j592 0 (by decide) (by decide) (Nat.lt_succ_self _) H locs hB ls (lv_sub hl [3, 2, 1, 0] rfl)
set_option maxHeartbeats 4000000 in
set_option maxRecDepth 100000 in
theorem m_isAwake (l : Launch) (g : q_G) {K : Nat → Nat} {L : List Nat} (hN : L.Nodup) {f : Nat → va_E} (hT : q_Ty g K L f) (v : Nat) (hv : v ∈ L) (kv : K v = 10) (x : Int) (lx : (-2147483648) ≤ x) (ux : x ≤ 2147483647) : q_Ct l g K L yX10_isAwake cX10_isAwake 2 (some .boolean) 2 46 [.ref v, .int (q_i x)] f [] (q_Pi (fun (z : Int) (f1 : Nat → va_E) => f = f1 ∧ 0 ≤ z ∧ z ≤ 1)) := by
  refine q_ofb (by decide +kernel) hN hT (Nat.le_of_ble_eq_true rfl) ?_
  intro p e s m below meth c ls cx hr hlk hB hl
  have hl : lv_has ls 2 [(0, .ref v), (1, .int (q_i x))] := hl
  obtain ⟨H, hH⟩ : ∃ H : Heap, H = s.heap := ⟨_, rfl⟩
  obtain ⟨locs, hlocs⟩ : ∃ z : List Loc, z = [] := ⟨_, rfl⟩
  rw [← hH, ← hlocs] at hB
  rw [← hH, ← hlocs]
  refine q_ald_n cx dX10_isAwake_0 rfl (lv_at hl 0 rfl) ?_
  refine q_ild_n cx dX10_isAwake_1 rfl (lv_at hl 1 rfl) ?_
  refine q_cVi (As := [.int (q_i x)]) (rest := []) cx hB (fun _ h => h) hN hv kv (by decide) rfl (m_isOut l g hN hB.2.1 v hv kv x (by omega) (by omega)) q_cX10_160 q_dX10_isOut (by decide) rfl rfl hl.1 rfl (Nat.le_of_ble_eq_true rfl) dX10_isAwake_2 (fun y16 H locs f15 ry16 h17 hF hB => ?_)
  obtain ⟨rfl, ly16, uy16⟩ := h17
  refine q_ifne (tgt := 28) cx ⟨by omega, by omega⟩ dX10_isAwake_5 (by decide) (fun c18 => ?_) (fun c18 => ?_)
  · refine q_iconst cx dX10_isAwake_28 ?_
    refine q_zret cx hr hlk hB dX10_isAwake_29 (by decide) (by decide) ?_
    exact ⟨rfl, (by decide), (by decide)⟩
  · refine q_ald_n cx dX10_isAwake_8 rfl (lv_at hl 0 rfl) ?_
    refine q_ild_n cx dX10_isAwake_9 rfl (lv_at hl 1 rfl) ?_
    refine q_cVl (As := [.int (q_i x)]) (rest := []) cx hB (fun _ h => h) hN hv kv (by decide) rfl (m_tableOf l g hN hB.2.1 v hv kv x (by omega) (by omega)) q_cX10_174 q_dX10_tableOf (by decide) rfl rfl hl.1 rfl (Nat.le_of_ble_eq_true rfl) dX10_isAwake_10 (fun y20 H locs f19 h21 hF hB => ?_)
    obtain rfl := h21
    refine q_ald_n cx dX10_isAwake_13 rfl (lv_at hl 0 rfl) ?_
    refine q_ild_n cx dX10_isAwake_14 rfl (lv_at hl 1 rfl) ?_
    refine q_cVi (As := [.int (q_i x)]) (rest := [.long y20]) cx hB (fun _ h => h) hN hv kv (by decide) rfl (m_dayOf l g hN hB.2.1 v hv kv x (by omega) (by omega)) q_cX10_178 q_dX10_dayOf (by decide) rfl rfl hl.1 rfl (Nat.le_of_ble_eq_true rfl) dX10_isAwake_15 (fun y23 H locs f22 ry23 h24 hF hB => ?_)
    obtain rfl := h24
    refine q_cSi (As := [.long y20, .int (q_i y23)]) (rest := []) cx hB (fun _ h => h) hN (m_hasDay l g hN hB.2.1 y20 y23 (by omega) (by omega)) q_cX10_170 q_dX10_hasDay (by decide) rfl rfl hl.1 rfl (Nat.le_of_ble_eq_true rfl) dX10_isAwake_18 (fun y26 H locs f25 ry26 h27 hF hB => ?_)
    obtain ⟨rfl, ly26, uy26⟩ := h27
    refine q_ifeq (tgt := 28) cx ⟨by omega, by omega⟩ dX10_isAwake_21 (by decide) (fun c28 => ?_) (fun c28 => ?_)
    · refine q_iconst cx dX10_isAwake_28 ?_
      refine q_zret cx hr hlk hB dX10_isAwake_29 (by decide) (by decide) ?_
      exact ⟨rfl, (by decide), (by decide)⟩
    · refine q_iconst cx dX10_isAwake_24 ?_
      refine lv_goto (tgt := 29) cx.1 cx.2.1 dX10_isAwake_25 (by decide) ?_
      refine q_zret cx hr hlk hB dX10_isAwake_29 (by decide) (by decide) ?_
      exact ⟨rfl, (by decide), (by decide)⟩
set_option maxHeartbeats 4000000 in
set_option maxRecDepth 100000 in
theorem m_energySum (l : Launch) (g : q_G) {K : Nat → Nat} {L : List Nat} (hN : L.Nodup) {f : Nat → va_E} (hT : q_Ty g K L f) (v : Nat) (hv : v ∈ L) (kv : K v = 10) : q_Ct l g K L yX10_energySum cX10_energySum 3 (some .int) 1 21 [.ref v] f [] (q_Pi (fun (z : Int) (f1 : Nat → va_E) => f = f1)) := by
  refine q_ofb (by decide +kernel) hN hT (Nat.le_of_ble_eq_true rfl) ?_
  intro p e s m below meth c ls cx hr hlk hB hl
  have hl : lv_has ls 3 [(0, .ref v)] := hl
  have J4 : ∀ (n : Nat) (v4_1 : Int) (lv4_1 : (-2147483648) ≤ v4_1) (uv4_1 : v4_1 ≤ 2147483647) (v4_2 : Int) (lv4_2 : 0 ≤ v4_2) (uv4_2 : v4_2 ≤ 2147483647) (hmu : (Int.toNat (2147483647 - v4_2)) < n) (H : Heap) (locs : List Loc) (hB : q_B g K L (fun q => q ∈ L) [] f f s H locs) (ls : Array Slot) (hl : lv_has ls 3 [(0, .ref v), (1, .int (q_i v4_1)), (2, .int (q_i v4_2))]), W p l e { frames := 1, cells := 0, slots := 0, locals := 21 } s m ([.ref v] : List Value).toArray below meth c H locs 0 0 (MQ below (q_Q g K L [] f (q_Pi (fun (z : Int) (f1 : Nat → va_E) => f = f1))) ([.ref v] : List Value).toArray s 0 0 (fun q => q ∈ L)) (F0 m 4 ls []) := by
    intro n
    induction n with
    | zero =>
      intro v4_1 lv4_1 uv4_1 v4_2 lv4_2 uv4_2 hmu
      exact absurd hmu (Nat.not_lt_zero _)
    | succ n ih4 =>
      intro v4_1 lv4_1 uv4_1 v4_2 lv4_2 uv4_2 hmu H locs hB ls hl
      refine q_ild_n cx dX10_energySum_4 rfl (lv_at hl 2 rfl) ?_
      refine q_ald_n cx dX10_energySum_5 rfl (lv_at hl 0 rfl) ?_
      obtain ⟨x315, ex315⟩ : ∃ zz, q_z f v 3 = zz := ⟨_, rfl⟩
      refine q_gX10_35 cx hB hv kv ex315 dX10_energySum_6 (fun lb316 ub316 => ?_)
      refine q_icge (tgt := 29) cx ⟨by omega, by omega⟩ ⟨by omega, by omega⟩ dX10_energySum_9 (by decide) (fun c317 => ?_) (fun c317 => ?_)
      · refine q_ild_n cx dX10_energySum_29 rfl (lv_at hl 1 rfl) ?_
        refine q_iret cx hr hlk hB dX10_energySum_30 ⟨by omega, by omega⟩ ?_
        exact rfl
      · refine q_ild_n cx dX10_energySum_12 rfl (lv_at hl 1 rfl) ?_
        refine q_ald_n cx dX10_energySum_13 rfl (lv_at hl 0 rfl) ?_
        refine q_ild_n cx dX10_energySum_14 rfl (lv_at hl 2 rfl) ?_
        refine q_cVr (As := [.int (q_i v4_2)]) (rest := [.int (q_i v4_1)]) cx hB (fun _ h => h) hN hv kv (by decide) rfl (m_nodeAt l g hN hB.2.1 v hv kv v4_2 (by omega) (by omega)) q_cX10_66 q_dX10_nodeAt (by decide) rfl rfl hl.1 rfl (Nat.le_of_ble_eq_true rfl) dX10_energySum_15 (fun y319 H locs f318 h320 hF hB => ?_)
        obtain ⟨rfl, hy319, ky319⟩ := h320
        obtain ⟨x321, ex321⟩ : ∃ zz, q_z f y319 4 = zz := ⟨_, rfl⟩
        refine q_gX10_101 cx hB hy319 ky319 ex321 dX10_energySum_18 (fun lb322 ub322 => ?_)
        refine q_iadd cx dX10_energySum_21 ?_
        refine q_any (fun y323 ry323 ey323 => ?_)
        refine lv_istore_n (lv' := [(1, .int (q_i y323)), (0, .ref v), (2, .int (q_i v4_2))]) cx.1 cx.2.1 dX10_energySum_22 rfl hl (by decide) rfl (fun ls hl => ?_)
        refine q_iinc (lv' := [(2, .int (q_i (v4_2 + 1))), (1, .int (q_i y323)), (0, .ref v)]) cx dX10_energySum_23 hl (k := 2) rfl (by decide) rfl (fun ls hl => ?_)
        refine lv_goto (tgt := 4) cx.1 cx.2.1 dX10_energySum_26 (by decide) ?_
        exact ih4 y323 (by omega) (by omega) (v4_2 + 1) (by omega) (by omega) (by omega) H locs hB ls (lv_sub hl [2, 1, 0] rfl)
  obtain ⟨H, hH⟩ : ∃ H : Heap, H = s.heap := ⟨_, rfl⟩
  obtain ⟨locs, hlocs⟩ : ∃ z : List Loc, z = [] := ⟨_, rfl⟩
  rw [← hH, ← hlocs] at hB
  rw [← hH, ← hlocs]
  refine q_iconst cx dX10_energySum_0 ?_
  refine lv_istore_n (lv' := [(1, .int (q_i 0)), (0, .ref v)]) cx.1 cx.2.1 dX10_energySum_1 rfl hl (by decide) rfl (fun ls hl => ?_)
  refine q_iconst cx dX10_energySum_2 ?_
  refine lv_istore_n (lv' := [(2, .int (q_i 0)), (1, .int (q_i 0)), (0, .ref v)]) cx.1 cx.2.1 dX10_energySum_3 rfl hl (by decide) rfl (fun ls hl => ?_)
  exact J4 ((Int.toNat (2147483647 - 0)) + 1) 0 (by decide) (by decide) 0 (by decide) (by decide) (Nat.lt_succ_self _) H locs hB ls (lv_sub hl [2, 1, 0] rfl)
set_option maxHeartbeats 4000000 in
set_option maxRecDepth 100000 in
theorem m_notOut (l : Launch) (g : q_G) {K : Nat → Nat} {L : List Nat} (hN : L.Nodup) {f : Nat → va_E} (hT : q_Ty g K L f) (v : Nat) (hv : v ∈ L) (kv : K v = 10) : q_Ct l g K L yX10_notOut cX10_notOut 3 (some .int) 1 21 [.ref v] f [] (q_Pi (fun (z : Int) (f1 : Nat → va_E) => f = f1)) := by
  refine q_ofb (by decide +kernel) hN hT (Nat.le_of_ble_eq_true rfl) ?_
  intro p e s m below meth c ls cx hr hlk hB hl
  have hl : lv_has ls 3 [(0, .ref v)] := hl
  have J4 : ∀ (n : Nat) (v4_1 : Int) (lv4_1 : (-2147483648) ≤ v4_1) (uv4_1 : v4_1 ≤ 2147483647) (v4_2 : Int) (lv4_2 : 0 ≤ v4_2) (uv4_2 : v4_2 ≤ 2147483647) (hmu : (Int.toNat (2147483647 - v4_2)) < n) (H : Heap) (locs : List Loc) (hB : q_B g K L (fun q => q ∈ L) [] f f s H locs) (ls : Array Slot) (hl : lv_has ls 3 [(0, .ref v), (1, .int (q_i v4_1)), (2, .int (q_i v4_2))]), W p l e { frames := 1, cells := 0, slots := 0, locals := 21 } s m ([.ref v] : List Value).toArray below meth c H locs 0 0 (MQ below (q_Q g K L [] f (q_Pi (fun (z : Int) (f1 : Nat → va_E) => f = f1))) ([.ref v] : List Value).toArray s 0 0 (fun q => q ∈ L)) (F0 m 4 ls []) := by
    intro n
    induction n with
    | zero =>
      intro v4_1 lv4_1 uv4_1 v4_2 lv4_2 uv4_2 hmu
      exact absurd hmu (Nat.not_lt_zero _)
    | succ n ih4 =>
      intro v4_1 lv4_1 uv4_1 v4_2 lv4_2 uv4_2 hmu H locs hB ls hl
      have J29 : ∀ (v29_1 : Int) (lv29_1 : (-2147483648) ≤ v29_1) (uv29_1 : v29_1 ≤ 2147483647) (buv4_2 : v4_2 ≤ 2147483646) (H : Heap) (locs : List Loc) (hB : q_B g K L (fun q => q ∈ L) [] f f s H locs) (ls : Array Slot) (hl : lv_has ls 3 [(0, .ref v), (1, .int (q_i v29_1)), (2, .int (q_i v4_2))]), W p l e { frames := 1, cells := 0, slots := 0, locals := 21 } s m ([.ref v] : List Value).toArray below meth c H locs 0 0 (MQ below (q_Q g K L [] f (q_Pi (fun (z : Int) (f1 : Nat → va_E) => f = f1))) ([.ref v] : List Value).toArray s 0 0 (fun q => q ∈ L)) (F0 m 29 ls []) := by
        intro v29_1 lv29_1 uv29_1 buv4_2 H locs hB ls hl
        refine q_iinc (lv' := [(2, .int (q_i (v4_2 + 1))), (0, .ref v), (1, .int (q_i v29_1))]) cx dX10_notOut_29 hl (k := 2) rfl (by decide) rfl (fun ls hl => ?_)
        refine lv_goto (tgt := 4) cx.1 cx.2.1 dX10_notOut_32 (by decide) ?_
        exact ih4 v29_1 (by omega) (by omega) (v4_2 + 1) (by omega) (by omega) (by omega) H locs hB ls (lv_sub hl [1, 2, 0] rfl)
      refine q_ild_n cx dX10_notOut_4 rfl (lv_at hl 2 rfl) ?_
      refine q_ald_n cx dX10_notOut_5 rfl (lv_at hl 0 rfl) ?_
      obtain ⟨x386, ex386⟩ : ∃ zz, q_z f v 3 = zz := ⟨_, rfl⟩
      refine q_gX10_35 cx hB hv kv ex386 dX10_notOut_6 (fun lb387 ub387 => ?_)
      refine q_icge (tgt := 35) cx ⟨by omega, by omega⟩ ⟨by omega, by omega⟩ dX10_notOut_9 (by decide) (fun c388 => ?_) (fun c388 => ?_)
      · refine q_ild_n cx dX10_notOut_35 rfl (lv_at hl 1 rfl) ?_
        refine q_iret cx hr hlk hB dX10_notOut_36 ⟨by omega, by omega⟩ ?_
        exact rfl
      · refine q_ald_n cx dX10_notOut_12 rfl (lv_at hl 0 rfl) ?_
        refine q_ild_n cx dX10_notOut_13 rfl (lv_at hl 2 rfl) ?_
        refine q_cVr (As := [.int (q_i v4_2)]) (rest := []) cx hB (fun _ h => h) hN hv kv (by decide) rfl (m_nodeAt l g hN hB.2.1 v hv kv v4_2 (by omega) (by omega)) q_cX10_66 q_dX10_nodeAt (by decide) rfl rfl hl.1 rfl (Nat.le_of_ble_eq_true rfl) dX10_notOut_14 (fun y390 H locs f389 h391 hF hB => ?_)
        obtain ⟨rfl, hy390, ky390⟩ := h391
        obtain ⟨x392, ex392⟩ : ∃ zz, q_z f y390 4 = zz := ⟨_, rfl⟩
        refine q_gX10_101 cx hB hy390 ky390 ex392 dX10_notOut_17 (fun lb393 ub393 => ?_)
        refine q_ifle (tgt := 29) cx ⟨by omega, by omega⟩ dX10_notOut_20 (by decide) (fun c394 => ?_) (fun c394 => ?_)
        · exact J29 v4_1 (by omega) (by omega) (by omega) H locs hB ls (lv_sub hl [0, 1, 2] rfl)
        · refine q_ild_n cx dX10_notOut_23 rfl (lv_at hl 1 rfl) ?_
          refine q_iconst cx dX10_notOut_24 ?_
          refine q_ild_n cx dX10_notOut_25 rfl (lv_at hl 2 rfl) ?_
          refine q_ishl cx dX10_notOut_26 (fun y395 ry395 ey395 => ?_)
          refine q_ior cx dX10_notOut_27 (fun y396 ry396 ey396 => ?_)
          refine lv_istore_n (lv' := [(1, .int (q_i y396)), (0, .ref v), (2, .int (q_i v4_2))]) cx.1 cx.2.1 dX10_notOut_28 rfl hl (by decide) rfl (fun ls hl => ?_)
          exact J29 y396 (by omega) (by omega) (by omega) H locs hB ls (lv_sub hl [1, 0, 2] rfl)
  obtain ⟨H, hH⟩ : ∃ H : Heap, H = s.heap := ⟨_, rfl⟩
  obtain ⟨locs, hlocs⟩ : ∃ z : List Loc, z = [] := ⟨_, rfl⟩
  rw [← hH, ← hlocs] at hB
  rw [← hH, ← hlocs]
  refine q_iconst cx dX10_notOut_0 ?_
  refine lv_istore_n (lv' := [(1, .int (q_i 0)), (0, .ref v)]) cx.1 cx.2.1 dX10_notOut_1 rfl hl (by decide) rfl (fun ls hl => ?_)
  refine q_iconst cx dX10_notOut_2 ?_
  refine lv_istore_n (lv' := [(2, .int (q_i 0)), (1, .int (q_i 0)), (0, .ref v)]) cx.1 cx.2.1 dX10_notOut_3 rfl hl (by decide) rfl (fun ls hl => ?_)
  exact J4 ((Int.toNat (2147483647 - 0)) + 1) 0 (by decide) (by decide) 0 (by decide) (by decide) (Nat.lt_succ_self _) H locs hB ls (lv_sub hl [2, 1, 0] rfl)
