set_option maxHeartbeats 4000000 in
set_option maxRecDepth 100000 in
theorem f_xrequireNode (l : Launch) (g : q_G) {K : Nat → Nat} {L : List Nat} (hN : L.Nodup) {f : Nat → va_E} (hT : q_Ty g K L f) (d0 : Nat → Nat) (s0 : tw_S) (d3 : Nat → Nat) (A9 : Nat → Nat → Nat) (D9 : Nat → Nat → Nat) (S9 : Nat → tw_S) (x : Nat) (hx : x ∈ L) (kx : K x = 11) (a0 : Int) (la0 : 0 ≤ a0) (ua0 : a0 ≤ 9) (so : Nat) (hso : so ∈ L) (kso : K so = 8) (rd : Nat) (hrd : rd ∈ L) (krd : K rd = 9) (fc : Nat) (hfc : fc ∈ L) (kfc : K fc = 1) (hist : Nat) (hhist : hist ∈ L) (khist : K hist = 2) (v0 : Nat) (hv0 : v0 ∈ L) (kv0 : K v0 = 10) (v1 : Nat) (hv1 : v1 ∈ L) (kv1 : K v1 = 13) (ba : Nat) (hba : ba ∈ L) (kba : K ba = 142) (ka : Nat) (hka : ka ∈ L) (kka : K ka = 218) (v3 : Nat) (hv3 : v3 ∈ L) (kv3 : K v3 = 15) (n0 : Nat) (hn0 : n0 ∈ L) (kn0 : K n0 = 110) (l0 : Nat) (hl0 : l0 ∈ L) (kl0 : K l0 = 120) (m0 : Nat) (hm0 : m0 ∈ L) (km0 : K m0 = 130) (n1 : Nat) (hn1 : n1 ∈ L) (kn1 : K n1 = 111) (l1 : Nat) (hl1 : l1 ∈ L) (kl1 : K l1 = 121) (m1 : Nat) (hm1 : m1 ∈ L) (km1 : K m1 = 131) (n3 : Nat) (hn3 : n3 ∈ L) (kn3 : K n3 = 113) (l3 : Nat) (hl3 : l3 ∈ L) (kl3 : K l3 = 123) (m3 : Nat) (hm3 : m3 ∈ L) (km3 : K m3 = 133) (tm : Int) (ltm : 0 ≤ tm) (utm : tm ≤ 9000) (nn : Int) (lnn : 0 ≤ nn) (unn : nn ≤ 10) (ln : Int) (lln : 0 ≤ ln) (uln : ln ≤ 16) (mn : Int) (lmn : 0 ≤ mn) (umn : mn ≤ 59) (yr : Int) (lyr : 4 ≤ yr) (uyr : yr ≤ 60) (sl : Int) (lsl : 0 ≤ sl) (usl : sl ≤ 6) (my : Int) (lmy : 0 ≤ my) (umy : my ≤ 6) (hf0 : q_is (q_z f v0 11) tm) (hf1 : q_is (q_z f v0 3) nn) (hf2 : q_is (q_z f v0 4) ln) (hf3 : q_is (q_z f v0 5) mn) (hf4 : q_is (q_z f v0 6) yr) (hf5 : q_is (q_z f hist 1) sl) (hf6 : q_is (q_z f hist 2) my) (hr0 : q_ir (q_r f x 0) so) (hr1 : q_ir (q_r f x 1) rd) (hr2 : q_ir (q_r f x 3) fc) (hr3 : q_ir (q_r f x 4) hist) (hr4 : q_ir (q_r f x 6) v0) (hr5 : q_ir (q_r f x 7) v1) (hr6 : q_ir (q_r f so 0) ba) (hr7 : q_ir (q_r f hist 0) ka) (hr8 : q_ir (q_r f fc 0) v3) (hr9 : q_ir (q_r f v0 0) n0) (hr10 : q_ir (q_r f v0 1) l0) (hr11 : q_ir (q_r f v0 2) m0) (hr12 : q_ir (q_r f v1 0) n1) (hr13 : q_ir (q_r f v1 1) l1) (hr14 : q_ir (q_r f v1 2) m1) (hr15 : q_ir (q_r f v3 0) n3) (hr16 : q_ir (q_r f v3 1) l3) (hr17 : q_ir (q_r f v3 2) m3) (hp0 : a0 < nn) (hw0 : tw_vw K L 10 5 3 4 f v0 n0 l0 m0 d0 s0) (hz0 : tw_nw K L 5 f) (hhk : tw_hk K L f ka A9 D9 S9) (he3 : ∃ s9 : tw_S, tw_vw K L 15 19 23 27 f v3 n3 l3 m3 d3 s9) (hz3 : tw_nw K L 19 f) : q_Ct l g K L yX11_requireNode cX11_requireNode 2 none 0 0 [.ref x, .int (q_i a0)] f [] (q_Pv (fun (f1 : Nat → va_E) => f = f1)) := by
  refine q_ofb (by decide +kernel) hN hT (Nat.le_of_ble_eq_true rfl) ?_
  intro p e s m below meth c ls cx hr hlk hB hl
  have hl : lv_has ls 2 [(0, .ref x), (1, .int (q_i a0))] := hl
  obtain ⟨H, hH⟩ : ∃ H : Heap, H = s.heap := ⟨_, rfl⟩
  obtain ⟨locs, hlocs⟩ : ∃ z : List Loc, z = [] := ⟨_, rfl⟩
  rw [← hH, ← hlocs] at hB
  rw [← hH, ← hlocs]
  refine q_ild_n cx dX11_requireNode_0 rfl (lv_at hl 1 rfl) ?_
  refine q_iflt (tgt := 15) cx ⟨by omega, by omega⟩ dX11_requireNode_1 (by decide) (fun c6 => ?_) (fun c6 => ?_)
  · exact absurd c6 (by omega)
  · refine q_ild_n cx dX11_requireNode_4 rfl (lv_at hl 1 rfl) ?_
    refine q_ald_n cx dX11_requireNode_5 rfl (lv_at hl 0 rfl) ?_
    refine q_gX11_54 cx hB hx kx hr4 dX11_requireNode_6 (fun hb7 kb7 => ?_)
    obtain ⟨x8, ex8, nx8⟩ : ∃ zz, q_is (q_z f v0 3) zz ∧ zz = nn := ⟨_, hf1, rfl⟩
    have sx8 : q_is x8 (s0 0 3) := tw_g hw0 (tw_v0 hw0) (by omega) (by omega) ex8
    refine q_gX11_101 cx hB hv0 kv0 ex8 dX11_requireNode_9 (fun lb9 ub9 => ?_)
    refine q_iclt (tgt := 26) cx ⟨by omega, by omega⟩ ⟨by omega, by omega⟩ dX11_requireNode_12 (by decide) (fun c10 => ?_) (fun c10 => ?_)
    · refine q_vret cx hr hlk hB dX11_requireNode_26 ?_
      exact rfl
    · exact absurd c10 (by omega)
set_option maxHeartbeats 4000000 in
set_option maxRecDepth 100000 in
theorem f_xrequireMessage (l : Launch) (g : q_G) {K : Nat → Nat} {L : List Nat} (hN : L.Nodup) {f : Nat → va_E} (hT : q_Ty g K L f) (d0 : Nat → Nat) (s0 : tw_S) (d3 : Nat → Nat) (A9 : Nat → Nat → Nat) (D9 : Nat → Nat → Nat) (S9 : Nat → tw_S) (x : Nat) (hx : x ∈ L) (kx : K x = 11) (a0 : Int) (la0 : 0 ≤ a0) (ua0 : a0 ≤ 60) (so : Nat) (hso : so ∈ L) (kso : K so = 8) (rd : Nat) (hrd : rd ∈ L) (krd : K rd = 9) (fc : Nat) (hfc : fc ∈ L) (kfc : K fc = 1) (hist : Nat) (hhist : hist ∈ L) (khist : K hist = 2) (v0 : Nat) (hv0 : v0 ∈ L) (kv0 : K v0 = 10) (v1 : Nat) (hv1 : v1 ∈ L) (kv1 : K v1 = 13) (ba : Nat) (hba : ba ∈ L) (kba : K ba = 142) (ka : Nat) (hka : ka ∈ L) (kka : K ka = 218) (v3 : Nat) (hv3 : v3 ∈ L) (kv3 : K v3 = 15) (n0 : Nat) (hn0 : n0 ∈ L) (kn0 : K n0 = 110) (l0 : Nat) (hl0 : l0 ∈ L) (kl0 : K l0 = 120) (m0 : Nat) (hm0 : m0 ∈ L) (km0 : K m0 = 130) (n1 : Nat) (hn1 : n1 ∈ L) (kn1 : K n1 = 111) (l1 : Nat) (hl1 : l1 ∈ L) (kl1 : K l1 = 121) (m1 : Nat) (hm1 : m1 ∈ L) (km1 : K m1 = 131) (n3 : Nat) (hn3 : n3 ∈ L) (kn3 : K n3 = 113) (l3 : Nat) (hl3 : l3 ∈ L) (kl3 : K l3 = 123) (m3 : Nat) (hm3 : m3 ∈ L) (km3 : K m3 = 133) (tm : Int) (ltm : 0 ≤ tm) (utm : tm ≤ 9000) (nn : Int) (lnn : 0 ≤ nn) (unn : nn ≤ 10) (ln : Int) (lln : 0 ≤ ln) (uln : ln ≤ 16) (mn : Int) (lmn : 0 ≤ mn) (umn : mn ≤ 59) (yr : Int) (lyr : 4 ≤ yr) (uyr : yr ≤ 60) (sl : Int) (lsl : 0 ≤ sl) (usl : sl ≤ 6) (my : Int) (lmy : 0 ≤ my) (umy : my ≤ 6) (hf0 : q_is (q_z f v0 11) tm) (hf1 : q_is (q_z f v0 3) nn) (hf2 : q_is (q_z f v0 4) ln) (hf3 : q_is (q_z f v0 5) mn) (hf4 : q_is (q_z f v0 6) yr) (hf5 : q_is (q_z f hist 1) sl) (hf6 : q_is (q_z f hist 2) my) (hr0 : q_ir (q_r f x 0) so) (hr1 : q_ir (q_r f x 1) rd) (hr2 : q_ir (q_r f x 3) fc) (hr3 : q_ir (q_r f x 4) hist) (hr4 : q_ir (q_r f x 6) v0) (hr5 : q_ir (q_r f x 7) v1) (hr6 : q_ir (q_r f so 0) ba) (hr7 : q_ir (q_r f hist 0) ka) (hr8 : q_ir (q_r f fc 0) v3) (hr9 : q_ir (q_r f v0 0) n0) (hr10 : q_ir (q_r f v0 1) l0) (hr11 : q_ir (q_r f v0 2) m0) (hr12 : q_ir (q_r f v1 0) n1) (hr13 : q_ir (q_r f v1 1) l1) (hr14 : q_ir (q_r f v1 2) m1) (hr15 : q_ir (q_r f v3 0) n3) (hr16 : q_ir (q_r f v3 1) l3) (hr17 : q_ir (q_r f v3 2) m3) (hp0 : a0 < mn) (hw0 : tw_vw K L 10 5 3 4 f v0 n0 l0 m0 d0 s0) (hz0 : tw_nw K L 5 f) (hhk : tw_hk K L f ka A9 D9 S9) (he3 : ∃ s9 : tw_S, tw_vw K L 15 19 23 27 f v3 n3 l3 m3 d3 s9) (hz3 : tw_nw K L 19 f) : q_Ct l g K L yX11_requireMessage cX11_requireMessage 2 none 0 0 [.ref x, .int (q_i a0)] f [] (q_Pv (fun (f1 : Nat → va_E) => f = f1)) := by
  refine q_ofb (by decide +kernel) hN hT (Nat.le_of_ble_eq_true rfl) ?_
  intro p e s m below meth c ls cx hr hlk hB hl
  have hl : lv_has ls 2 [(0, .ref x), (1, .int (q_i a0))] := hl
  obtain ⟨H, hH⟩ : ∃ H : Heap, H = s.heap := ⟨_, rfl⟩
  obtain ⟨locs, hlocs⟩ : ∃ z : List Loc, z = [] := ⟨_, rfl⟩
  rw [← hH, ← hlocs] at hB
  rw [← hH, ← hlocs]
  refine q_ild_n cx dX11_requireMessage_0 rfl (lv_at hl 1 rfl) ?_
  refine q_iflt (tgt := 15) cx ⟨by omega, by omega⟩ dX11_requireMessage_1 (by decide) (fun c6 => ?_) (fun c6 => ?_)
  · exact absurd c6 (by omega)
  · refine q_ild_n cx dX11_requireMessage_4 rfl (lv_at hl 1 rfl) ?_
    refine q_ald_n cx dX11_requireMessage_5 rfl (lv_at hl 0 rfl) ?_
    refine q_gX11_54 cx hB hx kx hr4 dX11_requireMessage_6 (fun hb7 kb7 => ?_)
    obtain ⟨x8, ex8, nx8⟩ : ∃ zz, q_is (q_z f v0 5) zz ∧ zz = mn := ⟨_, hf3, rfl⟩
    have sx8 : q_is x8 (s0 0 5) := tw_g hw0 (tw_v0 hw0) (by omega) (by omega) ex8
    refine q_gX11_340 cx hB hv0 kv0 ex8 dX11_requireMessage_9 (fun lb9 ub9 => ?_)
    refine q_iclt (tgt := 26) cx ⟨by omega, by omega⟩ ⟨by omega, by omega⟩ dX11_requireMessage_12 (by decide) (fun c10 => ?_) (fun c10 => ?_)
    · refine q_vret cx hr hlk hB dX11_requireMessage_26 ?_
      exact rfl
    · exact absurd c10 (by omega)
set_option maxHeartbeats 4000000 in
set_option maxRecDepth 100000 in
theorem f_xrequireDay (l : Launch) (g : q_G) {K : Nat → Nat} {L : List Nat} (hN : L.Nodup) {f : Nat → va_E} (hT : q_Ty g K L f) (d0 : Nat → Nat) (s0 : tw_S) (d3 : Nat → Nat) (A9 : Nat → Nat → Nat) (D9 : Nat → Nat → Nat) (S9 : Nat → tw_S) (x : Nat) (hx : x ∈ L) (kx : K x = 11) (a0 : Int) (la0 : 0 ≤ a0) (ua0 : a0 ≤ 59) (so : Nat) (hso : so ∈ L) (kso : K so = 8) (rd : Nat) (hrd : rd ∈ L) (krd : K rd = 9) (fc : Nat) (hfc : fc ∈ L) (kfc : K fc = 1) (hist : Nat) (hhist : hist ∈ L) (khist : K hist = 2) (v0 : Nat) (hv0 : v0 ∈ L) (kv0 : K v0 = 10) (v1 : Nat) (hv1 : v1 ∈ L) (kv1 : K v1 = 13) (ba : Nat) (hba : ba ∈ L) (kba : K ba = 142) (ka : Nat) (hka : ka ∈ L) (kka : K ka = 218) (v3 : Nat) (hv3 : v3 ∈ L) (kv3 : K v3 = 15) (n0 : Nat) (hn0 : n0 ∈ L) (kn0 : K n0 = 110) (l0 : Nat) (hl0 : l0 ∈ L) (kl0 : K l0 = 120) (m0 : Nat) (hm0 : m0 ∈ L) (km0 : K m0 = 130) (n1 : Nat) (hn1 : n1 ∈ L) (kn1 : K n1 = 111) (l1 : Nat) (hl1 : l1 ∈ L) (kl1 : K l1 = 121) (m1 : Nat) (hm1 : m1 ∈ L) (km1 : K m1 = 131) (n3 : Nat) (hn3 : n3 ∈ L) (kn3 : K n3 = 113) (l3 : Nat) (hl3 : l3 ∈ L) (kl3 : K l3 = 123) (m3 : Nat) (hm3 : m3 ∈ L) (km3 : K m3 = 133) (tm : Int) (ltm : 0 ≤ tm) (utm : tm ≤ 9000) (nn : Int) (lnn : 0 ≤ nn) (unn : nn ≤ 10) (ln : Int) (lln : 0 ≤ ln) (uln : ln ≤ 16) (mn : Int) (lmn : 0 ≤ mn) (umn : mn ≤ 59) (yr : Int) (lyr : 4 ≤ yr) (uyr : yr ≤ 60) (sl : Int) (lsl : 0 ≤ sl) (usl : sl ≤ 6) (my : Int) (lmy : 0 ≤ my) (umy : my ≤ 6) (hf0 : q_is (q_z f v0 11) tm) (hf1 : q_is (q_z f v0 3) nn) (hf2 : q_is (q_z f v0 4) ln) (hf3 : q_is (q_z f v0 5) mn) (hf4 : q_is (q_z f v0 6) yr) (hf5 : q_is (q_z f hist 1) sl) (hf6 : q_is (q_z f hist 2) my) (hr0 : q_ir (q_r f x 0) so) (hr1 : q_ir (q_r f x 1) rd) (hr2 : q_ir (q_r f x 3) fc) (hr3 : q_ir (q_r f x 4) hist) (hr4 : q_ir (q_r f x 6) v0) (hr5 : q_ir (q_r f x 7) v1) (hr6 : q_ir (q_r f so 0) ba) (hr7 : q_ir (q_r f hist 0) ka) (hr8 : q_ir (q_r f fc 0) v3) (hr9 : q_ir (q_r f v0 0) n0) (hr10 : q_ir (q_r f v0 1) l0) (hr11 : q_ir (q_r f v0 2) m0) (hr12 : q_ir (q_r f v1 0) n1) (hr13 : q_ir (q_r f v1 1) l1) (hr14 : q_ir (q_r f v1 2) m1) (hr15 : q_ir (q_r f v3 0) n3) (hr16 : q_ir (q_r f v3 1) l3) (hr17 : q_ir (q_r f v3 2) m3) (hp0 : a0 < yr) (hw0 : tw_vw K L 10 5 3 4 f v0 n0 l0 m0 d0 s0) (hz0 : tw_nw K L 5 f) (hhk : tw_hk K L f ka A9 D9 S9) (he3 : ∃ s9 : tw_S, tw_vw K L 15 19 23 27 f v3 n3 l3 m3 d3 s9) (hz3 : tw_nw K L 19 f) : q_Ct l g K L yX11_requireDay cX11_requireDay 2 none 1 21 [.ref x, .int (q_i a0)] f [] (q_Pv (fun (f1 : Nat → va_E) => f = f1)) := by
  refine q_ofb (by decide +kernel) hN hT (Nat.le_of_ble_eq_true rfl) ?_
  intro p e s m below meth c ls cx hr hlk hB hl
  have hl : lv_has ls 2 [(0, .ref x), (1, .int (q_i a0))] := hl
  obtain ⟨H, hH⟩ : ∃ H : Heap, H = s.heap := ⟨_, rfl⟩
  obtain ⟨locs, hlocs⟩ : ∃ z : List Loc, z = [] := ⟨_, rfl⟩
  rw [← hH, ← hlocs] at hB
  rw [← hH, ← hlocs]
  refine q_ald_n cx dX11_requireDay_0 rfl (lv_at hl 0 rfl) ?_
  refine q_gX11_54 cx hB hx kx hr4 dX11_requireDay_1 (fun hb6 kb6 => ?_)
  refine q_ild_n cx dX11_requireDay_4 rfl (lv_at hl 1 rfl) ?_
  refine q_cVi (As := [.int (q_i a0)]) (rest := []) cx hB (fun _ h => h) hN hv0 kv0 (by decide) rfl (f_isDay l g hN hB.2.1 v0 hv0 kv0 a0 (by omega) (by omega) yr (by omega) (by omega) hf4 (by omega)) q_cX11_345 q_dX10_isDay (by decide) rfl rfl hl.1 rfl (Nat.le_of_ble_eq_true rfl) dX11_requireDay_5 (fun y8 H locs f7 ry8 h9 hF hB => ?_)
  obtain ⟨rfl, qy8⟩ := h9
  subst qy8
  refine q_ifne (tgt := 22) cx ⟨by decide, by decide⟩ dX11_requireDay_8 (by decide) (fun c10 => ?_) (fun c10 => ?_)
  · refine q_vret cx hr hlk hB dX11_requireDay_22 ?_
    exact rfl
  · exact absurd c10 (by omega)
set_option maxHeartbeats 4000000 in
set_option maxRecDepth 100000 in
theorem f_xrequireDifferent (l : Launch) (g : q_G) {K : Nat → Nat} {L : List Nat} (hN : L.Nodup) {f : Nat → va_E} (hT : q_Ty g K L f) (d0 : Nat → Nat) (s0 : tw_S) (d3 : Nat → Nat) (A9 : Nat → Nat → Nat) (D9 : Nat → Nat → Nat) (S9 : Nat → tw_S) (x : Nat) (hx : x ∈ L) (kx : K x = 11) (a0 : Int) (la0 : 0 ≤ a0) (ua0 : a0 ≤ 9) (b0 : Int) (lb0 : 0 ≤ b0) (ub0 : b0 ≤ 9) (so : Nat) (hso : so ∈ L) (kso : K so = 8) (rd : Nat) (hrd : rd ∈ L) (krd : K rd = 9) (fc : Nat) (hfc : fc ∈ L) (kfc : K fc = 1) (hist : Nat) (hhist : hist ∈ L) (khist : K hist = 2) (v0 : Nat) (hv0 : v0 ∈ L) (kv0 : K v0 = 10) (v1 : Nat) (hv1 : v1 ∈ L) (kv1 : K v1 = 13) (ba : Nat) (hba : ba ∈ L) (kba : K ba = 142) (ka : Nat) (hka : ka ∈ L) (kka : K ka = 218) (v3 : Nat) (hv3 : v3 ∈ L) (kv3 : K v3 = 15) (n0 : Nat) (hn0 : n0 ∈ L) (kn0 : K n0 = 110) (l0 : Nat) (hl0 : l0 ∈ L) (kl0 : K l0 = 120) (m0 : Nat) (hm0 : m0 ∈ L) (km0 : K m0 = 130) (n1 : Nat) (hn1 : n1 ∈ L) (kn1 : K n1 = 111) (l1 : Nat) (hl1 : l1 ∈ L) (kl1 : K l1 = 121) (m1 : Nat) (hm1 : m1 ∈ L) (km1 : K m1 = 131) (n3 : Nat) (hn3 : n3 ∈ L) (kn3 : K n3 = 113) (l3 : Nat) (hl3 : l3 ∈ L) (kl3 : K l3 = 123) (m3 : Nat) (hm3 : m3 ∈ L) (km3 : K m3 = 133) (tm : Int) (ltm : 0 ≤ tm) (utm : tm ≤ 9000) (nn : Int) (lnn : 0 ≤ nn) (unn : nn ≤ 10) (ln : Int) (lln : 0 ≤ ln) (uln : ln ≤ 16) (mn : Int) (lmn : 0 ≤ mn) (umn : mn ≤ 59) (yr : Int) (lyr : 4 ≤ yr) (uyr : yr ≤ 60) (sl : Int) (lsl : 0 ≤ sl) (usl : sl ≤ 6) (my : Int) (lmy : 0 ≤ my) (umy : my ≤ 6) (hf0 : q_is (q_z f v0 11) tm) (hf1 : q_is (q_z f v0 3) nn) (hf2 : q_is (q_z f v0 4) ln) (hf3 : q_is (q_z f v0 5) mn) (hf4 : q_is (q_z f v0 6) yr) (hf5 : q_is (q_z f hist 1) sl) (hf6 : q_is (q_z f hist 2) my) (hr0 : q_ir (q_r f x 0) so) (hr1 : q_ir (q_r f x 1) rd) (hr2 : q_ir (q_r f x 3) fc) (hr3 : q_ir (q_r f x 4) hist) (hr4 : q_ir (q_r f x 6) v0) (hr5 : q_ir (q_r f x 7) v1) (hr6 : q_ir (q_r f so 0) ba) (hr7 : q_ir (q_r f hist 0) ka) (hr8 : q_ir (q_r f fc 0) v3) (hr9 : q_ir (q_r f v0 0) n0) (hr10 : q_ir (q_r f v0 1) l0) (hr11 : q_ir (q_r f v0 2) m0) (hr12 : q_ir (q_r f v1 0) n1) (hr13 : q_ir (q_r f v1 1) l1) (hr14 : q_ir (q_r f v1 2) m1) (hr15 : q_ir (q_r f v3 0) n3) (hr16 : q_ir (q_r f v3 1) l3) (hr17 : q_ir (q_r f v3 2) m3) (hp0 : a0 ≠ b0) (hw0 : tw_vw K L 10 5 3 4 f v0 n0 l0 m0 d0 s0) (hz0 : tw_nw K L 5 f) (hhk : tw_hk K L f ka A9 D9 S9) (he3 : ∃ s9 : tw_S, tw_vw K L 15 19 23 27 f v3 n3 l3 m3 d3 s9) (hz3 : tw_nw K L 19 f) : q_Ct l g K L yX11_requireDifferent cX11_requireDifferent 3 none 0 0 [.ref x, .int (q_i a0), .int (q_i b0)] f [] (q_Pv (fun (f1 : Nat → va_E) => f = f1)) := by
  refine q_ofb (by decide +kernel) hN hT (Nat.le_of_ble_eq_true rfl) ?_
  intro p e s m below meth c ls cx hr hlk hB hl
  have hl : lv_has ls 3 [(0, .ref x), (1, .int (q_i a0)), (2, .int (q_i b0))] := hl
  obtain ⟨H, hH⟩ : ∃ H : Heap, H = s.heap := ⟨_, rfl⟩
  obtain ⟨locs, hlocs⟩ : ∃ z : List Loc, z = [] := ⟨_, rfl⟩
  rw [← hH, ← hlocs] at hB
  rw [← hH, ← hlocs]
  refine q_ild_n cx dX11_requireDifferent_0 rfl (lv_at hl 1 rfl) ?_
  refine q_ild_n cx dX11_requireDifferent_1 rfl (lv_at hl 2 rfl) ?_
  refine q_icne (tgt := 16) cx ⟨by omega, by omega⟩ ⟨by omega, by omega⟩ dX11_requireDifferent_2 (by decide) (fun c2 => ?_) (fun c2 => ?_)
  · refine q_vret cx hr hlk hB dX11_requireDifferent_16 ?_
    exact rfl
  · exact absurd c2 (by omega)
set_option maxHeartbeats 4000000 in
set_option maxRecDepth 100000 in
theorem f_xsetting (l : Launch) (g : q_G) {K : Nat → Nat} {L : List Nat} (hN : L.Nodup) {f : Nat → va_E} (hT : q_Ty g K L f) (d0 : Nat → Nat) (s0 : tw_S) (d3 : Nat → Nat) (A9 : Nat → Nat → Nat) (D9 : Nat → Nat → Nat) (S9 : Nat → tw_S) (x : Nat) (hx : x ∈ L) (kx : K x = 11) (a0 : Int) (la0 : 0 ≤ a0) (ua0 : a0 ≤ 9) (so : Nat) (hso : so ∈ L) (kso : K so = 8) (rd : Nat) (hrd : rd ∈ L) (krd : K rd = 9) (fc : Nat) (hfc : fc ∈ L) (kfc : K fc = 1) (hist : Nat) (hhist : hist ∈ L) (khist : K hist = 2) (v0 : Nat) (hv0 : v0 ∈ L) (kv0 : K v0 = 10) (v1 : Nat) (hv1 : v1 ∈ L) (kv1 : K v1 = 13) (ba : Nat) (hba : ba ∈ L) (kba : K ba = 142) (ka : Nat) (hka : ka ∈ L) (kka : K ka = 218) (v3 : Nat) (hv3 : v3 ∈ L) (kv3 : K v3 = 15) (n0 : Nat) (hn0 : n0 ∈ L) (kn0 : K n0 = 110) (l0 : Nat) (hl0 : l0 ∈ L) (kl0 : K l0 = 120) (m0 : Nat) (hm0 : m0 ∈ L) (km0 : K m0 = 130) (n1 : Nat) (hn1 : n1 ∈ L) (kn1 : K n1 = 111) (l1 : Nat) (hl1 : l1 ∈ L) (kl1 : K l1 = 121) (m1 : Nat) (hm1 : m1 ∈ L) (km1 : K m1 = 131) (n3 : Nat) (hn3 : n3 ∈ L) (kn3 : K n3 = 113) (l3 : Nat) (hl3 : l3 ∈ L) (kl3 : K l3 = 123) (m3 : Nat) (hm3 : m3 ∈ L) (km3 : K m3 = 133) (tm : Int) (ltm : 0 ≤ tm) (utm : tm ≤ 9000) (nn : Int) (lnn : 0 ≤ nn) (unn : nn ≤ 10) (ln : Int) (lln : 0 ≤ ln) (uln : ln ≤ 16) (mn : Int) (lmn : 0 ≤ mn) (umn : mn ≤ 59) (yr : Int) (lyr : 4 ≤ yr) (uyr : yr ≤ 60) (sl : Int) (lsl : 0 ≤ sl) (usl : sl ≤ 6) (my : Int) (lmy : 0 ≤ my) (umy : my ≤ 6) (hf0 : q_is (q_z f v0 11) tm) (hf1 : q_is (q_z f v0 3) nn) (hf2 : q_is (q_z f v0 4) ln) (hf3 : q_is (q_z f v0 5) mn) (hf4 : q_is (q_z f v0 6) yr) (hf5 : q_is (q_z f hist 1) sl) (hf6 : q_is (q_z f hist 2) my) (hr0 : q_ir (q_r f x 0) so) (hr1 : q_ir (q_r f x 1) rd) (hr2 : q_ir (q_r f x 3) fc) (hr3 : q_ir (q_r f x 4) hist) (hr4 : q_ir (q_r f x 6) v0) (hr5 : q_ir (q_r f x 7) v1) (hr6 : q_ir (q_r f so 0) ba) (hr7 : q_ir (q_r f hist 0) ka) (hr8 : q_ir (q_r f fc 0) v3) (hr9 : q_ir (q_r f v0 0) n0) (hr10 : q_ir (q_r f v0 1) l0) (hr11 : q_ir (q_r f v0 2) m0) (hr12 : q_ir (q_r f v1 0) n1) (hr13 : q_ir (q_r f v1 1) l1) (hr14 : q_ir (q_r f v1 2) m1) (hr15 : q_ir (q_r f v3 0) n3) (hr16 : q_ir (q_r f v3 1) l3) (hr17 : q_ir (q_r f v3 2) m3) (hw0 : tw_vw K L 10 5 3 4 f v0 n0 l0 m0 d0 s0) (hz0 : tw_nw K L 5 f) (hhk : tw_hk K L f ka A9 D9 S9) (he3 : ∃ s9 : tw_S, tw_vw K L 15 19 23 27 f v3 n3 l3 m3 d3 s9) (hz3 : tw_nw K L 19 f) : q_Ct l g K L yX11_setting cX11_setting 2 (some .int) 3 65 [.ref x, .int (q_i a0)] f [] (q_Pi (fun (z : Int) (f1 : Nat → va_E) => f = f1 ∧ (z = tw_vf s0 a0))) := by
  refine q_ofb (by decide +kernel) hN hT (Nat.le_of_ble_eq_true rfl) ?_
  intro p e s m below meth c ls cx hr hlk hB hl
  have hl : lv_has ls 2 [(0, .ref x), (1, .int (q_i a0))] := hl
  obtain ⟨H, hH⟩ : ∃ H : Heap, H = s.heap := ⟨_, rfl⟩
  obtain ⟨locs, hlocs⟩ : ∃ z : List Loc, z = [] := ⟨_, rfl⟩
  rw [← hH, ← hlocs] at hB
  rw [← hH, ← hlocs]
  refine q_ild_n cx dX11_setting_0 rfl (lv_at hl 1 rfl) ?_
  refine q_iflt (tgt := 10) cx ⟨by omega, by omega⟩ dX11_setting_1 (by decide) (fun c9 => ?_) (fun c9 => ?_)
  · exact absurd c9 (by omega)
  · refine q_ild_n cx dX11_setting_4 rfl (lv_at hl 1 rfl) ?_
    refine q_bipush cx dX11_setting_5 rfl ?_
    refine q_iclt (tgt := 20) cx ⟨by omega, by omega⟩ ⟨by decide, by decide⟩ dX11_setting_7 (by decide) (fun c10 => ?_) (fun c10 => ?_)
    · refine q_ild_n cx dX11_setting_20 rfl (lv_at hl 1 rfl) ?_
      refine q_bipush cx dX11_setting_21 rfl ?_
      refine q_icne (tgt := 36) cx ⟨by omega, by omega⟩ ⟨by decide, by decide⟩ dX11_setting_23 (by decide) (fun c11 => ?_) (fun c11 => ?_)
      · refine q_ald_n cx dX11_setting_36 rfl (lv_at hl 0 rfl) ?_
        refine q_gX11_54 cx hB hx kx hr4 dX11_setting_37 (fun hb12 kb12 => ?_)
        refine q_ild_n cx dX11_setting_40 rfl (lv_at hl 1 rfl) ?_
        refine q_cVi (As := [.int (q_i a0)]) (rest := []) cx hB (fun _ h => h) hN hv0 kv0 (by decide) rfl (f_vfigure l g hN hB.2.1 d0 s0 v0 hv0 kv0 a0 (by omega) (by omega) n0 hn0 kn0 l0 hl0 kl0 m0 hm0 km0 tm (by omega) (by omega) nn (by omega) (by omega) mn (by omega) (by omega) hf0 hf1 hf3 hr9 hr10 hr11 hw0 hz0) q_cX11_125 q_dX10_figure (by decide) rfl rfl hl.1 rfl (Nat.le_of_ble_eq_true rfl) dX11_setting_41 (fun y14 H locs f13 ry14 h15 hF hB => ?_)
        obtain ⟨rfl, t16⟩ := h15
        refine q_iret cx hr hlk hB dX11_setting_44 ⟨by omega, by omega⟩ ?_
        exact ⟨rfl, (by have t0_ : y14 = tw_vf s0 a0 := t16; (try simp only [t0_]); (repeat' split) <;> first | rfl | (exfalso; omega))⟩
      · exact absurd c11 (by omega)
    · exact absurd c10 (by omega)
set_option maxHeartbeats 4000000 in
set_option maxRecDepth 100000 in
theorem f_xnode (l : Launch) (g : q_G) {K : Nat → Nat} {L : List Nat} (hN : L.Nodup) {f : Nat → va_E} (hT : q_Ty g K L f) (d0 : Nat → Nat) (s0 : tw_S) (d3 : Nat → Nat) (A9 : Nat → Nat → Nat) (D9 : Nat → Nat → Nat) (S9 : Nat → tw_S) (x : Nat) (hx : x ∈ L) (kx : K x = 11) (a0 : Int) (la0 : 0 ≤ a0) (ua0 : a0 ≤ 9) (b0 : Int) (lb0 : 0 ≤ b0) (ub0 : b0 ≤ 10) (so : Nat) (hso : so ∈ L) (kso : K so = 8) (rd : Nat) (hrd : rd ∈ L) (krd : K rd = 9) (fc : Nat) (hfc : fc ∈ L) (kfc : K fc = 1) (hist : Nat) (hhist : hist ∈ L) (khist : K hist = 2) (v0 : Nat) (hv0 : v0 ∈ L) (kv0 : K v0 = 10) (v1 : Nat) (hv1 : v1 ∈ L) (kv1 : K v1 = 13) (ba : Nat) (hba : ba ∈ L) (kba : K ba = 142) (ka : Nat) (hka : ka ∈ L) (kka : K ka = 218) (v3 : Nat) (hv3 : v3 ∈ L) (kv3 : K v3 = 15) (n0 : Nat) (hn0 : n0 ∈ L) (kn0 : K n0 = 110) (l0 : Nat) (hl0 : l0 ∈ L) (kl0 : K l0 = 120) (m0 : Nat) (hm0 : m0 ∈ L) (km0 : K m0 = 130) (n1 : Nat) (hn1 : n1 ∈ L) (kn1 : K n1 = 111) (l1 : Nat) (hl1 : l1 ∈ L) (kl1 : K l1 = 121) (m1 : Nat) (hm1 : m1 ∈ L) (km1 : K m1 = 131) (n3 : Nat) (hn3 : n3 ∈ L) (kn3 : K n3 = 113) (l3 : Nat) (hl3 : l3 ∈ L) (kl3 : K l3 = 123) (m3 : Nat) (hm3 : m3 ∈ L) (km3 : K m3 = 133) (tm : Int) (ltm : 0 ≤ tm) (utm : tm ≤ 9000) (nn : Int) (lnn : 0 ≤ nn) (unn : nn ≤ 10) (ln : Int) (lln : 0 ≤ ln) (uln : ln ≤ 16) (mn : Int) (lmn : 0 ≤ mn) (umn : mn ≤ 59) (yr : Int) (lyr : 4 ≤ yr) (uyr : yr ≤ 60) (sl : Int) (lsl : 0 ≤ sl) (usl : sl ≤ 6) (my : Int) (lmy : 0 ≤ my) (umy : my ≤ 6) (hf0 : q_is (q_z f v0 11) tm) (hf1 : q_is (q_z f v0 3) nn) (hf2 : q_is (q_z f v0 4) ln) (hf3 : q_is (q_z f v0 5) mn) (hf4 : q_is (q_z f v0 6) yr) (hf5 : q_is (q_z f hist 1) sl) (hf6 : q_is (q_z f hist 2) my) (hr0 : q_ir (q_r f x 0) so) (hr1 : q_ir (q_r f x 1) rd) (hr2 : q_ir (q_r f x 3) fc) (hr3 : q_ir (q_r f x 4) hist) (hr4 : q_ir (q_r f x 6) v0) (hr5 : q_ir (q_r f x 7) v1) (hr6 : q_ir (q_r f so 0) ba) (hr7 : q_ir (q_r f hist 0) ka) (hr8 : q_ir (q_r f fc 0) v3) (hr9 : q_ir (q_r f v0 0) n0) (hr10 : q_ir (q_r f v0 1) l0) (hr11 : q_ir (q_r f v0 2) m0) (hr12 : q_ir (q_r f v1 0) n1) (hr13 : q_ir (q_r f v1 1) l1) (hr14 : q_ir (q_r f v1 2) m1) (hr15 : q_ir (q_r f v3 0) n3) (hr16 : q_ir (q_r f v3 1) l3) (hr17 : q_ir (q_r f v3 2) m3) (hp0 : a0 < nn) (hw0 : tw_vw K L 10 5 3 4 f v0 n0 l0 m0 d0 s0) (hz0 : tw_nw K L 5 f) (hhk : tw_hk K L f ka A9 D9 S9) (he3 : ∃ s9 : tw_S, tw_vw K L 15 19 23 27 f v3 n3 l3 m3 d3 s9) (hz3 : tw_nw K L 19 f) : q_Ct l g K L yX11_node cX11_node 3 (some .int) 4 90 [.ref x, .int (q_i a0), .int (q_i b0)] f [] (q_Pi (fun (z : Int) (f1 : Nat → va_E) => f = f1 ∧ (z = tw_nf s0 a0 b0))) := by
  refine q_ofb (by decide +kernel) hN hT (Nat.le_of_ble_eq_true rfl) ?_
  intro p e s m below meth c ls cx hr hlk hB hl
  have hl : lv_has ls 3 [(0, .ref x), (1, .int (q_i a0)), (2, .int (q_i b0))] := hl
  obtain ⟨H, hH⟩ : ∃ H : Heap, H = s.heap := ⟨_, rfl⟩
  obtain ⟨locs, hlocs⟩ : ∃ z : List Loc, z = [] := ⟨_, rfl⟩
  rw [← hH, ← hlocs] at hB
  rw [← hH, ← hlocs]
  refine q_ald_n cx dX11_node_0 rfl (lv_at hl 0 rfl) ?_
  refine q_ild_n cx dX11_node_1 rfl (lv_at hl 1 rfl) ?_
  refine q_cVv (As := [.int (q_i a0)]) (rest := []) cx hB (fun _ h => h) hN hx kx (by decide) rfl (f_xrequireNode l g hN hB.2.1 d0 s0 d3 A9 D9 S9 x hx kx a0 (by omega) (by omega) so hso kso rd hrd krd fc hfc kfc hist hhist khist v0 hv0 kv0 v1 hv1 kv1 ba hba kba ka hka kka v3 hv3 kv3 n0 hn0 kn0 l0 hl0 kl0 m0 hm0 km0 n1 hn1 kn1 l1 hl1 kl1 m1 hm1 km1 n3 hn3 kn3 l3 hl3 kl3 m3 hm3 km3 tm (by omega) (by omega) nn (by omega) (by omega) ln (by omega) (by omega) mn (by omega) (by omega) yr (by omega) (by omega) sl (by omega) (by omega) my (by omega) (by omega) hf0 hf1 hf2 hf3 hf4 hf5 hf6 hr0 hr1 hr2 hr3 hr4 hr5 hr6 hr7 hr8 hr9 hr10 hr11 hr12 hr13 hr14 hr15 hr16 hr17 (by omega) hw0 hz0 hhk he3 hz3) q_cX11_129 q_dX11_requireNode (by decide) rfl rfl hl.1 rfl (Nat.le_of_ble_eq_true rfl) dX11_node_2 (fun H locs f11 h13 hF hB => ?_)
  obtain rfl := h13
  refine q_ild_n cx dX11_node_5 rfl (lv_at hl 2 rfl) ?_
  refine q_iflt (tgt := 15) cx ⟨by omega, by omega⟩ dX11_node_6 (by decide) (fun c14 => ?_) (fun c14 => ?_)
  · exact absurd c14 (by omega)
  · refine q_ild_n cx dX11_node_9 rfl (lv_at hl 2 rfl) ?_
    refine q_bipush cx dX11_node_10 rfl ?_
    refine q_iclt (tgt := 25) cx ⟨by omega, by omega⟩ ⟨by decide, by decide⟩ dX11_node_12 (by decide) (fun c15 => ?_) (fun c15 => ?_)
    · refine q_ald_n cx dX11_node_25 rfl (lv_at hl 0 rfl) ?_
      refine q_gX11_54 cx hB hx kx hr4 dX11_node_26 (fun hb16 kb16 => ?_)
      refine q_ild_n cx dX11_node_29 rfl (lv_at hl 1 rfl) ?_
      refine q_ild_n cx dX11_node_30 rfl (lv_at hl 2 rfl) ?_
      refine q_cVi (As := [.int (q_i a0), .int (q_i b0)]) (rest := []) cx hB (fun _ h => h) hN hv0 kv0 (by decide) rfl (f_nodeFigure l g hN hB.2.1 d0 s0 v0 hv0 kv0 a0 (by omega) (by omega) b0 (by omega) (by omega) n0 hn0 kn0 l0 hl0 kl0 m0 hm0 km0 tm (by omega) (by omega) nn (by omega) (by omega) mn (by omega) (by omega) hf0 hf1 hf3 hr9 hr10 hr11 hw0 hz0) q_cX11_134 q_dX10_nodeFigure (by decide) rfl rfl hl.1 rfl (Nat.le_of_ble_eq_true rfl) dX11_node_31 (fun y18 H locs f17 ry18 h19 hF hB => ?_)
      obtain ⟨rfl, t20⟩ := h19
      refine q_iret cx hr hlk hB dX11_node_34 ⟨by omega, by omega⟩ ?_
      exact ⟨rfl, (by have t0_ : y18 = tw_nf s0 a0 b0 := t20; (try simp only [t0_]); (repeat' split) <;> first | rfl | (exfalso; omega))⟩
    · exact absurd c15 (by omega)
set_option maxHeartbeats 4000000 in
set_option maxRecDepth 100000 in
theorem f_xlink (l : Launch) (g : q_G) {K : Nat → Nat} {L : List Nat} (hN : L.Nodup) {f : Nat → va_E} (hT : q_Ty g K L f) (d0 : Nat → Nat) (s0 : tw_S) (d3 : Nat → Nat) (A9 : Nat → Nat → Nat) (D9 : Nat → Nat → Nat) (S9 : Nat → tw_S) (x : Nat) (hx : x ∈ L) (kx : K x = 11) (a0 : Int) (la0 : 0 ≤ a0) (ua0 : a0 ≤ 15) (b0 : Int) (lb0 : 0 ≤ b0) (ub0 : b0 ≤ 4) (so : Nat) (hso : so ∈ L) (kso : K so = 8) (rd : Nat) (hrd : rd ∈ L) (krd : K rd = 9) (fc : Nat) (hfc : fc ∈ L) (kfc : K fc = 1) (hist : Nat) (hhist : hist ∈ L) (khist : K hist = 2) (v0 : Nat) (hv0 : v0 ∈ L) (kv0 : K v0 = 10) (v1 : Nat) (hv1 : v1 ∈ L) (kv1 : K v1 = 13) (ba : Nat) (hba : ba ∈ L) (kba : K ba = 142) (ka : Nat) (hka : ka ∈ L) (kka : K ka = 218) (v3 : Nat) (hv3 : v3 ∈ L) (kv3 : K v3 = 15) (n0 : Nat) (hn0 : n0 ∈ L) (kn0 : K n0 = 110) (l0 : Nat) (hl0 : l0 ∈ L) (kl0 : K l0 = 120) (m0 : Nat) (hm0 : m0 ∈ L) (km0 : K m0 = 130) (n1 : Nat) (hn1 : n1 ∈ L) (kn1 : K n1 = 111) (l1 : Nat) (hl1 : l1 ∈ L) (kl1 : K l1 = 121) (m1 : Nat) (hm1 : m1 ∈ L) (km1 : K m1 = 131) (n3 : Nat) (hn3 : n3 ∈ L) (kn3 : K n3 = 113) (l3 : Nat) (hl3 : l3 ∈ L) (kl3 : K l3 = 123) (m3 : Nat) (hm3 : m3 ∈ L) (km3 : K m3 = 133) (tm : Int) (ltm : 0 ≤ tm) (utm : tm ≤ 9000) (nn : Int) (lnn : 0 ≤ nn) (unn : nn ≤ 10) (ln : Int) (lln : 0 ≤ ln) (uln : ln ≤ 16) (mn : Int) (lmn : 0 ≤ mn) (umn : mn ≤ 59) (yr : Int) (lyr : 4 ≤ yr) (uyr : yr ≤ 60) (sl : Int) (lsl : 0 ≤ sl) (usl : sl ≤ 6) (my : Int) (lmy : 0 ≤ my) (umy : my ≤ 6) (hf0 : q_is (q_z f v0 11) tm) (hf1 : q_is (q_z f v0 3) nn) (hf2 : q_is (q_z f v0 4) ln) (hf3 : q_is (q_z f v0 5) mn) (hf4 : q_is (q_z f v0 6) yr) (hf5 : q_is (q_z f hist 1) sl) (hf6 : q_is (q_z f hist 2) my) (hr0 : q_ir (q_r f x 0) so) (hr1 : q_ir (q_r f x 1) rd) (hr2 : q_ir (q_r f x 3) fc) (hr3 : q_ir (q_r f x 4) hist) (hr4 : q_ir (q_r f x 6) v0) (hr5 : q_ir (q_r f x 7) v1) (hr6 : q_ir (q_r f so 0) ba) (hr7 : q_ir (q_r f hist 0) ka) (hr8 : q_ir (q_r f fc 0) v3) (hr9 : q_ir (q_r f v0 0) n0) (hr10 : q_ir (q_r f v0 1) l0) (hr11 : q_ir (q_r f v0 2) m0) (hr12 : q_ir (q_r f v1 0) n1) (hr13 : q_ir (q_r f v1 1) l1) (hr14 : q_ir (q_r f v1 2) m1) (hr15 : q_ir (q_r f v3 0) n3) (hr16 : q_ir (q_r f v3 1) l3) (hr17 : q_ir (q_r f v3 2) m3) (hp0 : a0 < ln) (hw0 : tw_vw K L 10 5 3 4 f v0 n0 l0 m0 d0 s0) (hz0 : tw_nw K L 5 f) (hhk : tw_hk K L f ka A9 D9 S9) (he3 : ∃ s9 : tw_S, tw_vw K L 15 19 23 27 f v3 n3 l3 m3 d3 s9) (hz3 : tw_nw K L 19 f) : q_Ct l g K L yX11_link cX11_link 3 (some .int) 1 21 [.ref x, .int (q_i a0), .int (q_i b0)] f [] (q_Pi (fun (z : Int) (f1 : Nat → va_E) => f = f1 ∧ (z = tw_lf s0 a0 b0))) := by
  refine q_ofb (by decide +kernel) hN hT (Nat.le_of_ble_eq_true rfl) ?_
  intro p e s m below meth c ls cx hr hlk hB hl
  have hl : lv_has ls 3 [(0, .ref x), (1, .int (q_i a0)), (2, .int (q_i b0))] := hl
  obtain ⟨H, hH⟩ : ∃ H : Heap, H = s.heap := ⟨_, rfl⟩
  obtain ⟨locs, hlocs⟩ : ∃ z : List Loc, z = [] := ⟨_, rfl⟩
  rw [← hH, ← hlocs] at hB
  rw [← hH, ← hlocs]
  refine q_ild_n cx dX11_link_0 rfl (lv_at hl 1 rfl) ?_
  refine q_iflt (tgt := 15) cx ⟨by omega, by omega⟩ dX11_link_1 (by decide) (fun c17 => ?_) (fun c17 => ?_)
  · exact absurd c17 (by omega)
  · refine q_ild_n cx dX11_link_4 rfl (lv_at hl 1 rfl) ?_
    refine q_ald_n cx dX11_link_5 rfl (lv_at hl 0 rfl) ?_
    refine q_gX11_54 cx hB hx kx hr4 dX11_link_6 (fun hb18 kb18 => ?_)
    obtain ⟨x19, ex19, nx19⟩ : ∃ zz, q_is (q_z f v0 4) zz ∧ zz = ln := ⟨_, hf2, rfl⟩
    have sx19 : q_is x19 (s0 0 4) := tw_g hw0 (tw_v0 hw0) (by omega) (by omega) ex19
    refine q_gX11_138 cx hB hv0 kv0 ex19 dX11_link_9 (fun lb20 ub20 => ?_)
    refine q_iclt (tgt := 25) cx ⟨by omega, by omega⟩ ⟨by omega, by omega⟩ dX11_link_12 (by decide) (fun c21 => ?_) (fun c21 => ?_)
    · refine q_ild_n cx dX11_link_25 rfl (lv_at hl 2 rfl) ?_
      refine q_iflt (tgt := 34) cx ⟨by omega, by omega⟩ dX11_link_26 (by decide) (fun c22 => ?_) (fun c22 => ?_)
      · exact absurd c22 (by omega)
      · refine q_ild_n cx dX11_link_29 rfl (lv_at hl 2 rfl) ?_
        refine q_iconst cx dX11_link_30 ?_
        refine q_iclt (tgt := 44) cx ⟨by omega, by omega⟩ ⟨by decide, by decide⟩ dX11_link_31 (by decide) (fun c23 => ?_) (fun c23 => ?_)
        · refine q_ald_n cx dX11_link_44 rfl (lv_at hl 0 rfl) ?_
          refine q_gX11_54 cx hB hx kx hr4 dX11_link_45 (fun hb24 kb24 => ?_)
          refine q_ild_n cx dX11_link_48 rfl (lv_at hl 1 rfl) ?_
          refine q_cVr (As := [.int (q_i a0)]) (rest := []) cx hB (fun _ h => h) hN hv0 kv0 (by decide) rfl (f_linkAt0 l g hN hB.2.1 d0 s0 v0 hv0 kv0 a0 (by omega) (by omega) n0 hn0 kn0 l0 hl0 kl0 m0 hm0 km0 hr9 hr10 hr11 hw0) q_cX11_148 q_dX10_linkAt (by decide) rfl rfl hl.1 rfl (Nat.le_of_ble_eq_true rfl) dX11_link_49 (fun y26 H locs f25 h27 hF hB => ?_)
          obtain ⟨rfl, hy26, ky26, t28⟩ := h27
          refine q_ild_n cx dX11_link_52 rfl (lv_at hl 2 rfl) ?_
          refine q_cVi (As := [.int (q_i b0)]) (rest := []) cx hB (fun _ h => h) hN hy26 ky26 (by decide) rfl (f_figure11 l g hN hB.2.1 d0 s0 y26 hy26 ky26 b0 (by omega) (by omega) v0 hv0 kv0 n0 hn0 kn0 l0 hl0 kl0 m0 hm0 km0 a0 (by omega) (by omega) t28 hw0) q_cX11_152 q_dX3_figure (by decide) rfl rfl hl.1 rfl (Nat.le_of_ble_eq_true rfl) dX11_link_53 (fun y30 H locs f29 ry30 h31 hF hB => ?_)
          obtain ⟨rfl, t32⟩ := h31
          refine q_iret cx hr hlk hB dX11_link_56 ⟨by omega, by omega⟩ ?_
          exact ⟨rfl, (by have t0_ : x19 = s0 0 4 := sx19; have t1_ : y30 = tw_lf s0 a0 b0 := t32; (try simp only [t0_, t1_]); (repeat' split) <;> first | rfl | (exfalso; omega))⟩
        · exact absurd c23 (by omega)
    · exact absurd c21 (by omega)
set_option maxHeartbeats 4000000 in
set_option maxRecDepth 100000 in
theorem f_xmessage (l : Launch) (g : q_G) {K : Nat → Nat} {L : List Nat} (hN : L.Nodup) {f : Nat → va_E} (hT : q_Ty g K L f) (d0 : Nat → Nat) (s0 : tw_S) (d3 : Nat → Nat) (A9 : Nat → Nat → Nat) (D9 : Nat → Nat → Nat) (S9 : Nat → tw_S) (x : Nat) (hx : x ∈ L) (kx : K x = 11) (a0 : Int) (la0 : 0 ≤ a0) (ua0 : a0 ≤ 60) (b0 : Int) (lb0 : 0 ≤ b0) (ub0 : b0 ≤ 7) (so : Nat) (hso : so ∈ L) (kso : K so = 8) (rd : Nat) (hrd : rd ∈ L) (krd : K rd = 9) (fc : Nat) (hfc : fc ∈ L) (kfc : K fc = 1) (hist : Nat) (hhist : hist ∈ L) (khist : K hist = 2) (v0 : Nat) (hv0 : v0 ∈ L) (kv0 : K v0 = 10) (v1 : Nat) (hv1 : v1 ∈ L) (kv1 : K v1 = 13) (ba : Nat) (hba : ba ∈ L) (kba : K ba = 142) (ka : Nat) (hka : ka ∈ L) (kka : K ka = 218) (v3 : Nat) (hv3 : v3 ∈ L) (kv3 : K v3 = 15) (n0 : Nat) (hn0 : n0 ∈ L) (kn0 : K n0 = 110) (l0 : Nat) (hl0 : l0 ∈ L) (kl0 : K l0 = 120) (m0 : Nat) (hm0 : m0 ∈ L) (km0 : K m0 = 130) (n1 : Nat) (hn1 : n1 ∈ L) (kn1 : K n1 = 111) (l1 : Nat) (hl1 : l1 ∈ L) (kl1 : K l1 = 121) (m1 : Nat) (hm1 : m1 ∈ L) (km1 : K m1 = 131) (n3 : Nat) (hn3 : n3 ∈ L) (kn3 : K n3 = 113) (l3 : Nat) (hl3 : l3 ∈ L) (kl3 : K l3 = 123) (m3 : Nat) (hm3 : m3 ∈ L) (km3 : K m3 = 133) (tm : Int) (ltm : 0 ≤ tm) (utm : tm ≤ 9000) (nn : Int) (lnn : 0 ≤ nn) (unn : nn ≤ 10) (ln : Int) (lln : 0 ≤ ln) (uln : ln ≤ 16) (mn : Int) (lmn : 0 ≤ mn) (umn : mn ≤ 59) (yr : Int) (lyr : 4 ≤ yr) (uyr : yr ≤ 60) (sl : Int) (lsl : 0 ≤ sl) (usl : sl ≤ 6) (my : Int) (lmy : 0 ≤ my) (umy : my ≤ 6) (hf0 : q_is (q_z f v0 11) tm) (hf1 : q_is (q_z f v0 3) nn) (hf2 : q_is (q_z f v0 4) ln) (hf3 : q_is (q_z f v0 5) mn) (hf4 : q_is (q_z f v0 6) yr) (hf5 : q_is (q_z f hist 1) sl) (hf6 : q_is (q_z f hist 2) my) (hr0 : q_ir (q_r f x 0) so) (hr1 : q_ir (q_r f x 1) rd) (hr2 : q_ir (q_r f x 3) fc) (hr3 : q_ir (q_r f x 4) hist) (hr4 : q_ir (q_r f x 6) v0) (hr5 : q_ir (q_r f x 7) v1) (hr6 : q_ir (q_r f so 0) ba) (hr7 : q_ir (q_r f hist 0) ka) (hr8 : q_ir (q_r f fc 0) v3) (hr9 : q_ir (q_r f v0 0) n0) (hr10 : q_ir (q_r f v0 1) l0) (hr11 : q_ir (q_r f v0 2) m0) (hr12 : q_ir (q_r f v1 0) n1) (hr13 : q_ir (q_r f v1 1) l1) (hr14 : q_ir (q_r f v1 2) m1) (hr15 : q_ir (q_r f v3 0) n3) (hr16 : q_ir (q_r f v3 1) l3) (hr17 : q_ir (q_r f v3 2) m3) (hp0 : a0 < mn) (hw0 : tw_vw K L 10 5 3 4 f v0 n0 l0 m0 d0 s0) (hz0 : tw_nw K L 5 f) (hhk : tw_hk K L f ka A9 D9 S9) (he3 : ∃ s9 : tw_S, tw_vw K L 15 19 23 27 f v3 n3 l3 m3 d3 s9) (hz3 : tw_nw K L 19 f) : q_Ct l g K L yX11_message cX11_message 3 (some .int) 1 21 [.ref x, .int (q_i a0), .int (q_i b0)] f [] (q_Pi (fun (z : Int) (f1 : Nat → va_E) => f = f1 ∧ (z = tw_mf s0 a0 b0))) := by
  refine q_ofb (by decide +kernel) hN hT (Nat.le_of_ble_eq_true rfl) ?_
  intro p e s m below meth c ls cx hr hlk hB hl
  have hl : lv_has ls 3 [(0, .ref x), (1, .int (q_i a0)), (2, .int (q_i b0))] := hl
  obtain ⟨H, hH⟩ : ∃ H : Heap, H = s.heap := ⟨_, rfl⟩
  obtain ⟨locs, hlocs⟩ : ∃ z : List Loc, z = [] := ⟨_, rfl⟩
  rw [← hH, ← hlocs] at hB
  rw [← hH, ← hlocs]
  refine q_ald_n cx dX11_message_0 rfl (lv_at hl 0 rfl) ?_
  refine q_ild_n cx dX11_message_1 rfl (lv_at hl 1 rfl) ?_
  refine q_cVv (As := [.int (q_i a0)]) (rest := []) cx hB (fun _ h => h) hN hx kx (by decide) rfl (f_xrequireMessage l g hN hB.2.1 d0 s0 d3 A9 D9 S9 x hx kx a0 (by omega) (by omega) so hso kso rd hrd krd fc hfc kfc hist hhist khist v0 hv0 kv0 v1 hv1 kv1 ba hba kba ka hka kka v3 hv3 kv3 n0 hn0 kn0 l0 hl0 kl0 m0 hm0 km0 n1 hn1 kn1 l1 hl1 kl1 m1 hm1 km1 n3 hn3 kn3 l3 hl3 kl3 m3 hm3 km3 tm (by omega) (by omega) nn (by omega) (by omega) ln (by omega) (by omega) mn (by omega) (by omega) yr (by omega) (by omega) sl (by omega) (by omega) my (by omega) (by omega) hf0 hf1 hf2 hf3 hf4 hf5 hf6 hr0 hr1 hr2 hr3 hr4 hr5 hr6 hr7 hr8 hr9 hr10 hr11 hr12 hr13 hr14 hr15 hr16 hr17 (by omega) hw0 hz0 hhk he3 hz3) q_cX11_155 q_dX11_requireMessage (by decide) rfl rfl hl.1 rfl (Nat.le_of_ble_eq_true rfl) dX11_message_2 (fun H locs f15 h17 hF hB => ?_)
  obtain rfl := h17
  refine q_ild_n cx dX11_message_5 rfl (lv_at hl 2 rfl) ?_
  refine q_iflt (tgt := 15) cx ⟨by omega, by omega⟩ dX11_message_6 (by decide) (fun c18 => ?_) (fun c18 => ?_)
  · exact absurd c18 (by omega)
  · refine q_ild_n cx dX11_message_9 rfl (lv_at hl 2 rfl) ?_
    refine q_bipush cx dX11_message_10 rfl ?_
    refine q_iclt (tgt := 25) cx ⟨by omega, by omega⟩ ⟨by decide, by decide⟩ dX11_message_12 (by decide) (fun c19 => ?_) (fun c19 => ?_)
    · refine q_ald_n cx dX11_message_25 rfl (lv_at hl 0 rfl) ?_
      refine q_gX11_54 cx hB hx kx hr4 dX11_message_26 (fun hb20 kb20 => ?_)
      refine q_ild_n cx dX11_message_29 rfl (lv_at hl 1 rfl) ?_
      refine q_cVr (As := [.int (q_i a0)]) (rest := []) cx hB (fun _ h => h) hN hv0 kv0 (by decide) rfl (f_messageAt0 l g hN hB.2.1 d0 s0 v0 hv0 kv0 a0 (by omega) (by omega) n0 hn0 kn0 l0 hl0 kl0 m0 hm0 km0 hr9 hr10 hr11 hw0) q_cX11_160 q_dX10_messageAt (by decide) rfl rfl hl.1 rfl (Nat.le_of_ble_eq_true rfl) dX11_message_30 (fun y22 H locs f21 h23 hF hB => ?_)
      obtain ⟨rfl, hy22, ky22, t24⟩ := h23
      refine q_ild_n cx dX11_message_33 rfl (lv_at hl 2 rfl) ?_
      refine q_cVi (As := [.int (q_i b0)]) (rest := []) cx hB (fun _ h => h) hN hy22 ky22 (by decide) rfl (f_figure27 l g hN hB.2.1 d0 s0 y22 hy22 ky22 b0 (by omega) (by omega) v0 hv0 kv0 n0 hn0 kn0 l0 hl0 kl0 m0 hm0 km0 a0 (by omega) (by omega) t24 hw0) q_cX11_164 q_dX4_figure (by decide) rfl rfl hl.1 rfl (Nat.le_of_ble_eq_true rfl) dX11_message_34 (fun y26 H locs f25 ry26 h27 hF hB => ?_)
      obtain ⟨rfl, t28⟩ := h27
      refine q_iret cx hr hlk hB dX11_message_37 ⟨by omega, by omega⟩ ?_
      exact ⟨rfl, (by have t0_ : y26 = tw_mf s0 a0 b0 := t28; (try simp only [t0_]); (repeat' split) <;> first | rfl | (exfalso; omega))⟩
    · exact absurd c19 (by omega)
set_option maxHeartbeats 4000000 in
set_option maxRecDepth 100000 in
theorem f_xinTable (l : Launch) (g : q_G) {K : Nat → Nat} {L : List Nat} (hN : L.Nodup) {f : Nat → va_E} (hT : q_Ty g K L f) (d0 : Nat → Nat) (s0 : tw_S) (d3 : Nat → Nat) (A9 : Nat → Nat → Nat) (D9 : Nat → Nat → Nat) (S9 : Nat → tw_S) (x : Nat) (hx : x ∈ L) (kx : K x = 11) (a0 : Int) (la0 : 0 ≤ a0) (ua0 : a0 ≤ 9) (b0 : Int) (lb0 : 0 ≤ b0) (ub0 : b0 ≤ 59) (so : Nat) (hso : so ∈ L) (kso : K so = 8) (rd : Nat) (hrd : rd ∈ L) (krd : K rd = 9) (fc : Nat) (hfc : fc ∈ L) (kfc : K fc = 1) (hist : Nat) (hhist : hist ∈ L) (khist : K hist = 2) (v0 : Nat) (hv0 : v0 ∈ L) (kv0 : K v0 = 10) (v1 : Nat) (hv1 : v1 ∈ L) (kv1 : K v1 = 13) (ba : Nat) (hba : ba ∈ L) (kba : K ba = 142) (ka : Nat) (hka : ka ∈ L) (kka : K ka = 218) (v3 : Nat) (hv3 : v3 ∈ L) (kv3 : K v3 = 15) (n0 : Nat) (hn0 : n0 ∈ L) (kn0 : K n0 = 110) (l0 : Nat) (hl0 : l0 ∈ L) (kl0 : K l0 = 120) (m0 : Nat) (hm0 : m0 ∈ L) (km0 : K m0 = 130) (n1 : Nat) (hn1 : n1 ∈ L) (kn1 : K n1 = 111) (l1 : Nat) (hl1 : l1 ∈ L) (kl1 : K l1 = 121) (m1 : Nat) (hm1 : m1 ∈ L) (km1 : K m1 = 131) (n3 : Nat) (hn3 : n3 ∈ L) (kn3 : K n3 = 113) (l3 : Nat) (hl3 : l3 ∈ L) (kl3 : K l3 = 123) (m3 : Nat) (hm3 : m3 ∈ L) (km3 : K m3 = 133) (tm : Int) (ltm : 0 ≤ tm) (utm : tm ≤ 9000) (nn : Int) (lnn : 0 ≤ nn) (unn : nn ≤ 10) (ln : Int) (lln : 0 ≤ ln) (uln : ln ≤ 16) (mn : Int) (lmn : 0 ≤ mn) (umn : mn ≤ 59) (yr : Int) (lyr : 4 ≤ yr) (uyr : yr ≤ 60) (sl : Int) (lsl : 0 ≤ sl) (usl : sl ≤ 6) (my : Int) (lmy : 0 ≤ my) (umy : my ≤ 6) (hf0 : q_is (q_z f v0 11) tm) (hf1 : q_is (q_z f v0 3) nn) (hf2 : q_is (q_z f v0 4) ln) (hf3 : q_is (q_z f v0 5) mn) (hf4 : q_is (q_z f v0 6) yr) (hf5 : q_is (q_z f hist 1) sl) (hf6 : q_is (q_z f hist 2) my) (hr0 : q_ir (q_r f x 0) so) (hr1 : q_ir (q_r f x 1) rd) (hr2 : q_ir (q_r f x 3) fc) (hr3 : q_ir (q_r f x 4) hist) (hr4 : q_ir (q_r f x 6) v0) (hr5 : q_ir (q_r f x 7) v1) (hr6 : q_ir (q_r f so 0) ba) (hr7 : q_ir (q_r f hist 0) ka) (hr8 : q_ir (q_r f fc 0) v3) (hr9 : q_ir (q_r f v0 0) n0) (hr10 : q_ir (q_r f v0 1) l0) (hr11 : q_ir (q_r f v0 2) m0) (hr12 : q_ir (q_r f v1 0) n1) (hr13 : q_ir (q_r f v1 1) l1) (hr14 : q_ir (q_r f v1 2) m1) (hr15 : q_ir (q_r f v3 0) n3) (hr16 : q_ir (q_r f v3 1) l3) (hr17 : q_ir (q_r f v3 2) m3) (hp0 : a0 < nn) (hp1 : b0 < yr) (hw0 : tw_vw K L 10 5 3 4 f v0 n0 l0 m0 d0 s0) (hz0 : tw_nw K L 5 f) (hhk : tw_hk K L f ka A9 D9 S9) (he3 : ∃ s9 : tw_S, tw_vw K L 15 19 23 27 f v3 n3 l3 m3 d3 s9) (hz3 : tw_nw K L 19 f) : q_Ct l g K L yX11_inTable cX11_inTable 3 (some .boolean) 2 46 [.ref x, .int (q_i a0), .int (q_i b0)] f [] (q_Pi (fun (z : Int) (f1 : Nat → va_E) => (f = f1 ∧ z = 1 ∧ (tw_hd (tw_tb s0 a0) b0 = 1)) ∨ (f = f1 ∧ z = 0 ∧ (tw_hd (tw_tb s0 a0) b0 = 0)))) := by
  refine q_ofb (by decide +kernel) hN hT (Nat.le_of_ble_eq_true rfl) ?_
  intro p e s m below meth c ls cx hr hlk hB hl
  have hl : lv_has ls 3 [(0, .ref x), (1, .int (q_i a0)), (2, .int (q_i b0))] := hl
  obtain ⟨H, hH⟩ : ∃ H : Heap, H = s.heap := ⟨_, rfl⟩
  obtain ⟨locs, hlocs⟩ : ∃ z : List Loc, z = [] := ⟨_, rfl⟩
  rw [← hH, ← hlocs] at hB
  rw [← hH, ← hlocs]
  refine q_ald_n cx dX11_inTable_0 rfl (lv_at hl 0 rfl) ?_
  refine q_ild_n cx dX11_inTable_1 rfl (lv_at hl 1 rfl) ?_
  refine q_cVv (As := [.int (q_i a0)]) (rest := []) cx hB (fun _ h => h) hN hx kx (by decide) rfl (f_xrequireNode l g hN hB.2.1 d0 s0 d3 A9 D9 S9 x hx kx a0 (by omega) (by omega) so hso kso rd hrd krd fc hfc kfc hist hhist khist v0 hv0 kv0 v1 hv1 kv1 ba hba kba ka hka kka v3 hv3 kv3 n0 hn0 kn0 l0 hl0 kl0 m0 hm0 km0 n1 hn1 kn1 l1 hl1 kl1 m1 hm1 km1 n3 hn3 kn3 l3 hl3 kl3 m3 hm3 km3 tm (by omega) (by omega) nn (by omega) (by omega) ln (by omega) (by omega) mn (by omega) (by omega) yr (by omega) (by omega) sl (by omega) (by omega) my (by omega) (by omega) hf0 hf1 hf2 hf3 hf4 hf5 hf6 hr0 hr1 hr2 hr3 hr4 hr5 hr6 hr7 hr8 hr9 hr10 hr11 hr12 hr13 hr14 hr15 hr16 hr17 (by omega) hw0 hz0 hhk he3 hz3) q_cX11_129 q_dX11_requireNode (by decide) rfl rfl hl.1 rfl (Nat.le_of_ble_eq_true rfl) dX11_inTable_2 (fun H locs f19 h21 hF hB => ?_)
  obtain rfl := h21
  refine q_ald_n cx dX11_inTable_5 rfl (lv_at hl 0 rfl) ?_
  refine q_ild_n cx dX11_inTable_6 rfl (lv_at hl 2 rfl) ?_
  refine q_cVv (As := [.int (q_i b0)]) (rest := []) cx hB (fun _ h => h) hN hx kx (by decide) rfl (f_xrequireDay l g hN hB.2.1 d0 s0 d3 A9 D9 S9 x hx kx b0 (by omega) (by omega) so hso kso rd hrd krd fc hfc kfc hist hhist khist v0 hv0 kv0 v1 hv1 kv1 ba hba kba ka hka kka v3 hv3 kv3 n0 hn0 kn0 l0 hl0 kl0 m0 hm0 km0 n1 hn1 kn1 l1 hl1 kl1 m1 hm1 km1 n3 hn3 kn3 l3 hl3 kl3 m3 hm3 km3 tm (by omega) (by omega) nn (by omega) (by omega) ln (by omega) (by omega) mn (by omega) (by omega) yr (by omega) (by omega) sl (by omega) (by omega) my (by omega) (by omega) hf0 hf1 hf2 hf3 hf4 hf5 hf6 hr0 hr1 hr2 hr3 hr4 hr5 hr6 hr7 hr8 hr9 hr10 hr11 hr12 hr13 hr14 hr15 hr16 hr17 (by omega) hw0 hz0 hhk he3 hz3) q_cX11_181 q_dX11_requireDay (by decide) rfl rfl hl.1 rfl (Nat.le_of_ble_eq_true rfl) dX11_inTable_7 (fun H locs f22 h24 hF hB => ?_)
  obtain rfl := h24
  refine q_ald_n cx dX11_inTable_10 rfl (lv_at hl 0 rfl) ?_
  refine q_gX11_54 cx hB hx kx hr4 dX11_inTable_11 (fun hb25 kb25 => ?_)
  refine q_ild_n cx dX11_inTable_14 rfl (lv_at hl 1 rfl) ?_
  refine q_cVl (As := [.int (q_i a0)]) (rest := []) cx hB (fun _ h => h) hN hv0 kv0 (by decide) rfl (f_tableOf0 l g hN hB.2.1 d0 s0 v0 hv0 kv0 a0 (by omega) (by omega) n0 hn0 kn0 l0 hl0 kl0 m0 hm0 km0 nn (by omega) (by omega) hf1 hr9 hr10 hr11 hw0 hz0) q_cX11_184 q_dX10_tableOf (by decide) rfl rfl hl.1 rfl (Nat.le_of_ble_eq_true rfl) dX11_inTable_15 (fun y27 H locs f26 h28 hF hB => ?_)
  obtain ⟨rfl, t29⟩ := h28
  refine q_ild_n cx dX11_inTable_18 rfl (lv_at hl 2 rfl) ?_
  refine q_cSi (As := [.long y27, .int (q_i b0)]) (rest := []) cx hB (fun _ h => h) hN (f_hasDay l g hN hB.2.1 y27 b0 (by omega) (by omega)) q_cX11_188 q_dX10_hasDay (by decide) rfl rfl hl.1 rfl (Nat.le_of_ble_eq_true rfl) dX11_inTable_19 (fun y31 H locs f30 ry31 h32 hF hB => ?_)
  rcases h32 with h33 | h34
  · obtain ⟨rfl, qy31, t35⟩ := h33
    subst qy31
    refine q_zret cx hr hlk hB dX11_inTable_22 (by decide) (by decide) ?_
    exact (Or.inl ⟨rfl, rfl, (by have t0_ : y27 = tw_tb s0 a0 := t29; have u0_ : tw_hd (tw_tb s0 a0) b0 = 1 := (by have e9 := t35; simp only [t0_] at e9; exact e9); (try simp only [t0_]); (repeat' split) <;> first | rfl | (exfalso; omega))⟩)
  · obtain ⟨rfl, qy31, t36⟩ := h34
    subst qy31
    refine q_zret cx hr hlk hB dX11_inTable_22 (by decide) (by decide) ?_
    exact (Or.inr ⟨rfl, rfl, (by have t0_ : y27 = tw_tb s0 a0 := t29; have u0_ : tw_hd (tw_tb s0 a0) b0 = 0 := (by have e9 := t36; simp only [t0_] at e9; exact e9); (try simp only [t0_]); (repeat' split) <;> first | rfl | (exfalso; omega))⟩)
set_option maxHeartbeats 4000000 in
set_option maxRecDepth 100000 in
theorem f_xawakeIn (l : Launch) (g : q_G) {K : Nat → Nat} {L : List Nat} (hN : L.Nodup) {f : Nat → va_E} (hT : q_Ty g K L f) (d0 : Nat → Nat) (s0 : tw_S) (d3 : Nat → Nat) (A9 : Nat → Nat → Nat) (D9 : Nat → Nat → Nat) (S9 : Nat → tw_S) (x : Nat) (hx : x ∈ L) (kx : K x = 11) (a0 : Int) (la0 : 0 ≤ a0) (ua0 : a0 ≤ 99) (so : Nat) (hso : so ∈ L) (kso : K so = 8) (rd : Nat) (hrd : rd ∈ L) (krd : K rd = 9) (fc : Nat) (hfc : fc ∈ L) (kfc : K fc = 1) (hist : Nat) (hhist : hist ∈ L) (khist : K hist = 2) (v0 : Nat) (hv0 : v0 ∈ L) (kv0 : K v0 = 10) (v1 : Nat) (hv1 : v1 ∈ L) (kv1 : K v1 = 13) (ba : Nat) (hba : ba ∈ L) (kba : K ba = 142) (ka : Nat) (hka : ka ∈ L) (kka : K ka = 218) (v3 : Nat) (hv3 : v3 ∈ L) (kv3 : K v3 = 15) (n0 : Nat) (hn0 : n0 ∈ L) (kn0 : K n0 = 110) (l0 : Nat) (hl0 : l0 ∈ L) (kl0 : K l0 = 120) (m0 : Nat) (hm0 : m0 ∈ L) (km0 : K m0 = 130) (n1 : Nat) (hn1 : n1 ∈ L) (kn1 : K n1 = 111) (l1 : Nat) (hl1 : l1 ∈ L) (kl1 : K l1 = 121) (m1 : Nat) (hm1 : m1 ∈ L) (km1 : K m1 = 131) (n3 : Nat) (hn3 : n3 ∈ L) (kn3 : K n3 = 113) (l3 : Nat) (hl3 : l3 ∈ L) (kl3 : K l3 = 123) (m3 : Nat) (hm3 : m3 ∈ L) (km3 : K m3 = 133) (tm : Int) (ltm : 0 ≤ tm) (utm : tm ≤ 9000) (nn : Int) (lnn : 0 ≤ nn) (unn : nn ≤ 10) (ln : Int) (lln : 0 ≤ ln) (uln : ln ≤ 16) (mn : Int) (lmn : 0 ≤ mn) (umn : mn ≤ 59) (yr : Int) (lyr : 4 ≤ yr) (uyr : yr ≤ 60) (sl : Int) (lsl : 0 ≤ sl) (usl : sl ≤ 6) (my : Int) (lmy : 0 ≤ my) (umy : my ≤ 6) (hf0 : q_is (q_z f v0 11) tm) (hf1 : q_is (q_z f v0 3) nn) (hf2 : q_is (q_z f v0 4) ln) (hf3 : q_is (q_z f v0 5) mn) (hf4 : q_is (q_z f v0 6) yr) (hf5 : q_is (q_z f hist 1) sl) (hf6 : q_is (q_z f hist 2) my) (hr0 : q_ir (q_r f x 0) so) (hr1 : q_ir (q_r f x 1) rd) (hr2 : q_ir (q_r f x 3) fc) (hr3 : q_ir (q_r f x 4) hist) (hr4 : q_ir (q_r f x 6) v0) (hr5 : q_ir (q_r f x 7) v1) (hr6 : q_ir (q_r f so 0) ba) (hr7 : q_ir (q_r f hist 0) ka) (hr8 : q_ir (q_r f fc 0) v3) (hr9 : q_ir (q_r f v0 0) n0) (hr10 : q_ir (q_r f v0 1) l0) (hr11 : q_ir (q_r f v0 2) m0) (hr12 : q_ir (q_r f v1 0) n1) (hr13 : q_ir (q_r f v1 1) l1) (hr14 : q_ir (q_r f v1 2) m1) (hr15 : q_ir (q_r f v3 0) n3) (hr16 : q_ir (q_r f v3 1) l3) (hr17 : q_ir (q_r f v3 2) m3) (hw0 : tw_vw K L 10 5 3 4 f v0 n0 l0 m0 d0 s0) (hz0 : tw_nw K L 5 f) (hhk : tw_hk K L f ka A9 D9 S9) (he3 : ∃ s9 : tw_S, tw_vw K L 15 19 23 27 f v3 n3 l3 m3 d3 s9) (hz3 : tw_nw K L 19 f) : q_Ct l g K L yX11_awakeIn cX11_awakeIn 2 (some .int) 4 92 [.ref x, .int (q_i a0)] f [] (q_Pi (fun (z : Int) (f1 : Nat → va_E) => f = f1 ∧ (z = tw_aa s0 a0))) := by
  refine q_ofb (by decide +kernel) hN hT (Nat.le_of_ble_eq_true rfl) ?_
  intro p e s m below meth c ls cx hr hlk hB hl
  have hl : lv_has ls 2 [(0, .ref x), (1, .int (q_i a0))] := hl
  obtain ⟨H, hH⟩ : ∃ H : Heap, H = s.heap := ⟨_, rfl⟩
  obtain ⟨locs, hlocs⟩ : ∃ z : List Loc, z = [] := ⟨_, rfl⟩
  rw [← hH, ← hlocs] at hB
  rw [← hH, ← hlocs]
  refine q_ild_n cx dX11_awakeIn_0 rfl (lv_at hl 1 rfl) ?_
  refine q_iflt (tgt := 10) cx ⟨by omega, by omega⟩ dX11_awakeIn_1 (by decide) (fun c8 => ?_) (fun c8 => ?_)
  · exact absurd c8 (by omega)
  · refine q_ild_n cx dX11_awakeIn_4 rfl (lv_at hl 1 rfl) ?_
    refine q_bipush cx dX11_awakeIn_5 rfl ?_
    refine q_icle (tgt := 20) cx ⟨by omega, by omega⟩ ⟨by decide, by decide⟩ dX11_awakeIn_7 (by decide) (fun c9 => ?_) (fun c9 => ?_)
    · refine q_ald_n cx dX11_awakeIn_20 rfl (lv_at hl 0 rfl) ?_
      refine q_gX11_54 cx hB hx kx hr4 dX11_awakeIn_21 (fun hb10 kb10 => ?_)
      refine q_ild_n cx dX11_awakeIn_24 rfl (lv_at hl 1 rfl) ?_
      refine q_cVi (As := [.int (q_i a0)]) (rest := []) cx hB (fun _ h => h) hN hv0 kv0 (by decide) rfl (f_awakeAfter0 l g hN hB.2.1 d0 s0 v0 hv0 kv0 a0 (by omega) (by omega) n0 hn0 kn0 l0 hl0 kl0 m0 hm0 km0 tm (by omega) (by omega) nn (by omega) (by omega) hf0 hf1 hr9 hr10 hr11 hw0 hz0) q_cX11_207 q_dX10_awakeAfter (by decide) rfl rfl hl.1 rfl (Nat.le_of_ble_eq_true rfl) dX11_awakeIn_25 (fun y12 H locs f11 ry12 h13 hF hB => ?_)
      obtain ⟨rfl, t14⟩ := h13
      refine q_iret cx hr hlk hB dX11_awakeIn_28 ⟨by omega, by omega⟩ ?_
      exact ⟨rfl, (by have t0_ : y12 = tw_aa s0 a0 := t14; (try simp only [t0_]); (repeat' split) <;> first | rfl | (exfalso; omega))⟩
    · exact absurd c9 (by omega)
set_option maxHeartbeats 4000000 in
set_option maxRecDepth 100000 in
theorem f_xmeetsIn (l : Launch) (g : q_G) {K : Nat → Nat} {L : List Nat} (hN : L.Nodup) {f : Nat → va_E} (hT : q_Ty g K L f) (d0 : Nat → Nat) (s0 : tw_S) (d3 : Nat → Nat) (A9 : Nat → Nat → Nat) (D9 : Nat → Nat → Nat) (S9 : Nat → tw_S) (x : Nat) (hx : x ∈ L) (kx : K x = 11) (a0 : Int) (la0 : 0 ≤ a0) (ua0 : a0 ≤ 9) (b0 : Int) (lb0 : 0 ≤ b0) (ub0 : b0 ≤ 9) (so : Nat) (hso : so ∈ L) (kso : K so = 8) (rd : Nat) (hrd : rd ∈ L) (krd : K rd = 9) (fc : Nat) (hfc : fc ∈ L) (kfc : K fc = 1) (hist : Nat) (hhist : hist ∈ L) (khist : K hist = 2) (v0 : Nat) (hv0 : v0 ∈ L) (kv0 : K v0 = 10) (v1 : Nat) (hv1 : v1 ∈ L) (kv1 : K v1 = 13) (ba : Nat) (hba : ba ∈ L) (kba : K ba = 142) (ka : Nat) (hka : ka ∈ L) (kka : K ka = 218) (v3 : Nat) (hv3 : v3 ∈ L) (kv3 : K v3 = 15) (n0 : Nat) (hn0 : n0 ∈ L) (kn0 : K n0 = 110) (l0 : Nat) (hl0 : l0 ∈ L) (kl0 : K l0 = 120) (m0 : Nat) (hm0 : m0 ∈ L) (km0 : K m0 = 130) (n1 : Nat) (hn1 : n1 ∈ L) (kn1 : K n1 = 111) (l1 : Nat) (hl1 : l1 ∈ L) (kl1 : K l1 = 121) (m1 : Nat) (hm1 : m1 ∈ L) (km1 : K m1 = 131) (n3 : Nat) (hn3 : n3 ∈ L) (kn3 : K n3 = 113) (l3 : Nat) (hl3 : l3 ∈ L) (kl3 : K l3 = 123) (m3 : Nat) (hm3 : m3 ∈ L) (km3 : K m3 = 133) (tm : Int) (ltm : 0 ≤ tm) (utm : tm ≤ 9000) (nn : Int) (lnn : 0 ≤ nn) (unn : nn ≤ 10) (ln : Int) (lln : 0 ≤ ln) (uln : ln ≤ 16) (mn : Int) (lmn : 0 ≤ mn) (umn : mn ≤ 59) (yr : Int) (lyr : 4 ≤ yr) (uyr : yr ≤ 60) (sl : Int) (lsl : 0 ≤ sl) (usl : sl ≤ 6) (my : Int) (lmy : 0 ≤ my) (umy : my ≤ 6) (hf0 : q_is (q_z f v0 11) tm) (hf1 : q_is (q_z f v0 3) nn) (hf2 : q_is (q_z f v0 4) ln) (hf3 : q_is (q_z f v0 5) mn) (hf4 : q_is (q_z f v0 6) yr) (hf5 : q_is (q_z f hist 1) sl) (hf6 : q_is (q_z f hist 2) my) (hr0 : q_ir (q_r f x 0) so) (hr1 : q_ir (q_r f x 1) rd) (hr2 : q_ir (q_r f x 3) fc) (hr3 : q_ir (q_r f x 4) hist) (hr4 : q_ir (q_r f x 6) v0) (hr5 : q_ir (q_r f x 7) v1) (hr6 : q_ir (q_r f so 0) ba) (hr7 : q_ir (q_r f hist 0) ka) (hr8 : q_ir (q_r f fc 0) v3) (hr9 : q_ir (q_r f v0 0) n0) (hr10 : q_ir (q_r f v0 1) l0) (hr11 : q_ir (q_r f v0 2) m0) (hr12 : q_ir (q_r f v1 0) n1) (hr13 : q_ir (q_r f v1 1) l1) (hr14 : q_ir (q_r f v1 2) m1) (hr15 : q_ir (q_r f v3 0) n3) (hr16 : q_ir (q_r f v3 1) l3) (hr17 : q_ir (q_r f v3 2) m3) (hp0 : a0 < nn) (hp1 : b0 < nn) (hp2 : a0 ≠ b0) (hw0 : tw_vw K L 10 5 3 4 f v0 n0 l0 m0 d0 s0) (hz0 : tw_nw K L 5 f) (hhk : tw_hk K L f ka A9 D9 S9) (he3 : ∃ s9 : tw_S, tw_vw K L 15 19 23 27 f v3 n3 l3 m3 d3 s9) (hz3 : tw_nw K L 19 f) : q_Ct l g K L yX11_meetsIn cX11_meetsIn 3 (some .int) 4 93 [.ref x, .int (q_i a0), .int (q_i b0)] f [] (q_Pi (fun (z : Int) (f1 : Nat → va_E) => f = f1 ∧ (z = tw_me s0 a0 (s0 (1 + Int.toNat a0) 3) b0))) := by
  refine q_ofb (by decide +kernel) hN hT (Nat.le_of_ble_eq_true rfl) ?_
  intro p e s m below meth c ls cx hr hlk hB hl
  have hl : lv_has ls 3 [(0, .ref x), (1, .int (q_i a0)), (2, .int (q_i b0))] := hl
  obtain ⟨H, hH⟩ : ∃ H : Heap, H = s.heap := ⟨_, rfl⟩
  obtain ⟨locs, hlocs⟩ : ∃ z : List Loc, z = [] := ⟨_, rfl⟩
  rw [← hH, ← hlocs] at hB
  rw [← hH, ← hlocs]
  refine q_ald_n cx dX11_meetsIn_0 rfl (lv_at hl 0 rfl) ?_
  refine q_ild_n cx dX11_meetsIn_1 rfl (lv_at hl 1 rfl) ?_
  refine q_cVv (As := [.int (q_i a0)]) (rest := []) cx hB (fun _ h => h) hN hx kx (by decide) rfl (f_xrequireNode l g hN hB.2.1 d0 s0 d3 A9 D9 S9 x hx kx a0 (by omega) (by omega) so hso kso rd hrd krd fc hfc kfc hist hhist khist v0 hv0 kv0 v1 hv1 kv1 ba hba kba ka hka kka v3 hv3 kv3 n0 hn0 kn0 l0 hl0 kl0 m0 hm0 km0 n1 hn1 kn1 l1 hl1 kl1 m1 hm1 km1 n3 hn3 kn3 l3 hl3 kl3 m3 hm3 km3 tm (by omega) (by omega) nn (by omega) (by omega) ln (by omega) (by omega) mn (by omega) (by omega) yr (by omega) (by omega) sl (by omega) (by omega) my (by omega) (by omega) hf0 hf1 hf2 hf3 hf4 hf5 hf6 hr0 hr1 hr2 hr3 hr4 hr5 hr6 hr7 hr8 hr9 hr10 hr11 hr12 hr13 hr14 hr15 hr16 hr17 (by omega) hw0 hz0 hhk he3 hz3) q_cX11_129 q_dX11_requireNode (by decide) rfl rfl hl.1 rfl (Nat.le_of_ble_eq_true rfl) dX11_meetsIn_2 (fun H locs f21 h23 hF hB => ?_)
  obtain rfl := h23
  refine q_ald_n cx dX11_meetsIn_5 rfl (lv_at hl 0 rfl) ?_
  refine q_ild_n cx dX11_meetsIn_6 rfl (lv_at hl 2 rfl) ?_
  refine q_cVv (As := [.int (q_i b0)]) (rest := []) cx hB (fun _ h => h) hN hx kx (by decide) rfl (f_xrequireNode l g hN hB.2.1 d0 s0 d3 A9 D9 S9 x hx kx b0 (by omega) (by omega) so hso kso rd hrd krd fc hfc kfc hist hhist khist v0 hv0 kv0 v1 hv1 kv1 ba hba kba ka hka kka v3 hv3 kv3 n0 hn0 kn0 l0 hl0 kl0 m0 hm0 km0 n1 hn1 kn1 l1 hl1 kl1 m1 hm1 km1 n3 hn3 kn3 l3 hl3 kl3 m3 hm3 km3 tm (by omega) (by omega) nn (by omega) (by omega) ln (by omega) (by omega) mn (by omega) (by omega) yr (by omega) (by omega) sl (by omega) (by omega) my (by omega) (by omega) hf0 hf1 hf2 hf3 hf4 hf5 hf6 hr0 hr1 hr2 hr3 hr4 hr5 hr6 hr7 hr8 hr9 hr10 hr11 hr12 hr13 hr14 hr15 hr16 hr17 (by omega) hw0 hz0 hhk he3 hz3) q_cX11_129 q_dX11_requireNode (by decide) rfl rfl hl.1 rfl (Nat.le_of_ble_eq_true rfl) dX11_meetsIn_7 (fun H locs f24 h26 hF hB => ?_)
  obtain rfl := h26
  refine q_ild_n cx dX11_meetsIn_10 rfl (lv_at hl 1 rfl) ?_
  refine q_ild_n cx dX11_meetsIn_11 rfl (lv_at hl 2 rfl) ?_
  refine q_icne (tgt := 19) cx ⟨by omega, by omega⟩ ⟨by omega, by omega⟩ dX11_meetsIn_12 (by decide) (fun c27 => ?_) (fun c27 => ?_)
  · refine q_ald_n cx dX11_meetsIn_19 rfl (lv_at hl 0 rfl) ?_
    refine q_gX11_54 cx hB hx kx hr4 dX11_meetsIn_20 (fun hb28 kb28 => ?_)
    refine q_ild_n cx dX11_meetsIn_23 rfl (lv_at hl 1 rfl) ?_
    refine q_ald_n cx dX11_meetsIn_24 rfl (lv_at hl 0 rfl) ?_
    refine q_gX11_54 cx hB hx kx hr4 dX11_meetsIn_25 (fun hb29 kb29 => ?_)
    refine q_ild_n cx dX11_meetsIn_28 rfl (lv_at hl 1 rfl) ?_
    refine q_cVr (As := [.int (q_i a0)]) (rest := [.int (q_i a0), .ref v0]) cx hB (fun _ h => h) hN hv0 kv0 (by decide) rfl (f_nodeAt0 l g hN hB.2.1 d0 s0 v0 hv0 kv0 a0 (by omega) (by omega) n0 hn0 kn0 l0 hl0 kl0 m0 hm0 km0 hr9 hr10 hr11 hw0) q_cX11_167 q_dX10_nodeAt (by decide) rfl rfl hl.1 rfl (Nat.le_of_ble_eq_true rfl) dX11_meetsIn_29 (fun y31 H locs f30 h32 hF hB => ?_)
    obtain ⟨rfl, hy31, ky31, t33⟩ := h32
    obtain ⟨x34, ex34⟩ : ∃ zz, q_is (q_z f y31 3) zz := ⟨_, q_isr _⟩
    obtain ⟨lx34, ux34⟩ := q_isb ex34 (q_fib hB.2.1 hy31 ky31 (by decide) rfl)
    obtain ⟨x35, ex35, nx35⟩ : ∃ zz, q_is (q_z f y31 3) zz ∧ zz = x34 := ⟨_, ex34, rfl⟩
    have sx35 : q_is x35 (s0 (1 + Int.toNat a0) 3) := tw_g hw0 t33 (by omega) (by omega) ex35
    refine q_gX11_210 cx hB hy31 ky31 ex35 dX11_meetsIn_32 (fun lb36 ub36 => ?_)
    refine q_ild_n cx dX11_meetsIn_35 rfl (lv_at hl 2 rfl) ?_
    refine q_cVi (As := [.int (q_i a0), .int (q_i x35), .int (q_i b0)]) (rest := []) cx hB (fun _ h => h) hN hv0 kv0 (by decide) rfl (f_meetingIn0 l g hN hB.2.1 d0 s0 v0 hv0 kv0 a0 (by omega) (by omega) x35 (by omega) (by omega) b0 (by omega) (by omega) n0 hn0 kn0 l0 hl0 kl0 m0 hm0 km0 tm (by omega) (by omega) nn (by omega) (by omega) yr (by omega) (by omega) hf0 hf1 hf4 hr9 hr10 hr11 hw0 hz0) q_cX11_213 q_dX10_meetingIn (by decide) rfl rfl hl.1 rfl (Nat.le_of_ble_eq_true rfl) dX11_meetsIn_36 (fun y38 H locs f37 ry38 h39 hF hB => ?_)
    obtain ⟨rfl, ly38, uy38, t40⟩ := h39
    refine q_iret cx hr hlk hB dX11_meetsIn_39 ⟨by omega, by omega⟩ ?_
    exact ⟨rfl, (by have t0_ : x35 = s0 (1 + Int.toNat a0) 3 := sx35; have t1_ : y38 = tw_me s0 a0 (s0 (1 + Int.toNat a0) 3) b0 := Eq.trans t40 (by simp only [t0_]); (try simp only [t0_, t1_]); (repeat' split) <;> first | rfl | (exfalso; omega))⟩
  · exact absurd c27 (by omega)
set_option maxHeartbeats 4000000 in
set_option maxRecDepth 100000 in
theorem f_xarrives (l : Launch) (g : q_G) {K : Nat → Nat} {L : List Nat} (hN : L.Nodup) {f : Nat → va_E} (hT : q_Ty g K L f) (d0 : Nat → Nat) (s0 : tw_S) (d3 : Nat → Nat) (A9 : Nat → Nat → Nat) (D9 : Nat → Nat → Nat) (S9 : Nat → tw_S) (x : Nat) (hx : x ∈ L) (kx : K x = 11) (a0 : Int) (la0 : 0 ≤ a0) (ua0 : a0 ≤ 60) (so : Nat) (hso : so ∈ L) (kso : K so = 8) (rd : Nat) (hrd : rd ∈ L) (krd : K rd = 9) (fc : Nat) (hfc : fc ∈ L) (kfc : K fc = 1) (hist : Nat) (hhist : hist ∈ L) (khist : K hist = 2) (v0 : Nat) (hv0 : v0 ∈ L) (kv0 : K v0 = 10) (v1 : Nat) (hv1 : v1 ∈ L) (kv1 : K v1 = 13) (ba : Nat) (hba : ba ∈ L) (kba : K ba = 142) (ka : Nat) (hka : ka ∈ L) (kka : K ka = 218) (v3 : Nat) (hv3 : v3 ∈ L) (kv3 : K v3 = 15) (n0 : Nat) (hn0 : n0 ∈ L) (kn0 : K n0 = 110) (l0 : Nat) (hl0 : l0 ∈ L) (kl0 : K l0 = 120) (m0 : Nat) (hm0 : m0 ∈ L) (km0 : K m0 = 130) (n1 : Nat) (hn1 : n1 ∈ L) (kn1 : K n1 = 111) (l1 : Nat) (hl1 : l1 ∈ L) (kl1 : K l1 = 121) (m1 : Nat) (hm1 : m1 ∈ L) (km1 : K m1 = 131) (n3 : Nat) (hn3 : n3 ∈ L) (kn3 : K n3 = 113) (l3 : Nat) (hl3 : l3 ∈ L) (kl3 : K l3 = 123) (m3 : Nat) (hm3 : m3 ∈ L) (km3 : K m3 = 133) (tm : Int) (ltm : 0 ≤ tm) (utm : tm ≤ 9000) (nn : Int) (lnn : 0 ≤ nn) (unn : nn ≤ 10) (ln : Int) (lln : 0 ≤ ln) (uln : ln ≤ 16) (mn : Int) (lmn : 0 ≤ mn) (umn : mn ≤ 59) (yr : Int) (lyr : 4 ≤ yr) (uyr : yr ≤ 60) (sl : Int) (lsl : 0 ≤ sl) (usl : sl ≤ 6) (my : Int) (lmy : 0 ≤ my) (umy : my ≤ 6) (hf0 : q_is (q_z f v0 11) tm) (hf1 : q_is (q_z f v0 3) nn) (hf2 : q_is (q_z f v0 4) ln) (hf3 : q_is (q_z f v0 5) mn) (hf4 : q_is (q_z f v0 6) yr) (hf5 : q_is (q_z f hist 1) sl) (hf6 : q_is (q_z f hist 2) my) (hr0 : q_ir (q_r f x 0) so) (hr1 : q_ir (q_r f x 1) rd) (hr2 : q_ir (q_r f x 3) fc) (hr3 : q_ir (q_r f x 4) hist) (hr4 : q_ir (q_r f x 6) v0) (hr5 : q_ir (q_r f x 7) v1) (hr6 : q_ir (q_r f so 0) ba) (hr7 : q_ir (q_r f hist 0) ka) (hr8 : q_ir (q_r f fc 0) v3) (hr9 : q_ir (q_r f v0 0) n0) (hr10 : q_ir (q_r f v0 1) l0) (hr11 : q_ir (q_r f v0 2) m0) (hr12 : q_ir (q_r f v1 0) n1) (hr13 : q_ir (q_r f v1 1) l1) (hr14 : q_ir (q_r f v1 2) m1) (hr15 : q_ir (q_r f v3 0) n3) (hr16 : q_ir (q_r f v3 1) l3) (hr17 : q_ir (q_r f v3 2) m3) (hp0 : a0 < mn) (hw0 : tw_vw K L 10 5 3 4 f v0 n0 l0 m0 d0 s0) (hz0 : tw_nw K L 5 f) (hhk : tw_hk K L f ka A9 D9 S9) (he3 : ∃ s9 : tw_S, tw_vw K L 15 19 23 27 f v3 n3 l3 m3 d3 s9) (hz3 : tw_nw K L 19 f) : q_Ct l g K L yX11_arrives cX11_arrives 2 (some .int) 7 171 [.ref x, .int (q_i a0)] f [(15, 3, 15), (19, 0, 9), (23, 0, 4), (27, 0, 7)] (q_Pi (fun (z : Int) (f1 : Nat → va_E) => (-1) ≤ z ∧ z ≤ 200 ∧ (∃ τ9 : tw_S, z = tw_ar (tw_cp τ9 s0) a0 200) ∧ (∃ s9 : tw_S, tw_vw K L 15 19 23 27 f1 v3 n3 l3 m3 d3 s9) ∧ (tw_nw K L 19 f1))) := by
  refine q_ofb (by decide +kernel) hN hT (Nat.le_of_ble_eq_true rfl) ?_
  intro p e s m below meth c ls cx hr hlk hB hl
  have hl : lv_has ls 2 [(0, .ref x), (1, .int (q_i a0))] := hl
  obtain ⟨H, hH⟩ : ∃ H : Heap, H = s.heap := ⟨_, rfl⟩
  obtain ⟨locs, hlocs⟩ : ∃ z : List Loc, z = [] := ⟨_, rfl⟩
  rw [← hH, ← hlocs] at hB
  rw [← hH, ← hlocs]
  refine q_ald_n cx dX11_arrives_0 rfl (lv_at hl 0 rfl) ?_
  refine q_ild_n cx dX11_arrives_1 rfl (lv_at hl 1 rfl) ?_
  refine q_cVv (As := [.int (q_i a0)]) (rest := []) cx hB (fun _ h => h) hN hx kx (by decide) rfl (f_xrequireMessage l g hN hB.2.1 d0 s0 d3 A9 D9 S9 x hx kx a0 (by omega) (by omega) so hso kso rd hrd krd fc hfc kfc hist hhist khist v0 hv0 kv0 v1 hv1 kv1 ba hba kba ka hka kka v3 hv3 kv3 n0 hn0 kn0 l0 hl0 kl0 m0 hm0 km0 n1 hn1 kn1 l1 hl1 kl1 m1 hm1 km1 n3 hn3 kn3 l3 hl3 kl3 m3 hm3 km3 tm (by omega) (by omega) nn (by omega) (by omega) ln (by omega) (by omega) mn (by omega) (by omega) yr (by omega) (by omega) sl (by omega) (by omega) my (by omega) (by omega) hf0 hf1 hf2 hf3 hf4 hf5 hf6 hr0 hr1 hr2 hr3 hr4 hr5 hr6 hr7 hr8 hr9 hr10 hr11 hr12 hr13 hr14 hr15 hr16 hr17 (by omega) hw0 hz0 hhk he3 hz3) q_cX11_155 q_dX11_requireMessage (by decide) rfl rfl hl.1 rfl (Nat.le_of_ble_eq_true rfl) dX11_arrives_2 (fun H locs f40 h42 hF hB => ?_)
  obtain rfl := h42
  refine q_ald_n cx dX11_arrives_5 rfl (lv_at hl 0 rfl) ?_
  refine q_gX11_33 cx hB hx kx hr2 dX11_arrives_6 (fun hb43 kb43 => ?_)
  refine q_ald_n cx dX11_arrives_9 rfl (lv_at hl 0 rfl) ?_
  refine q_gX11_54 cx hB hx kx hr4 dX11_arrives_10 (fun hb44 kb44 => ?_)
  refine q_ild_n cx dX11_arrives_13 rfl (lv_at hl 1 rfl) ?_
  refine q_cVi (As := [.ref v0, .int (q_i a0)]) (rest := []) cx hB (fun _ h => h) hN hfc kfc (by decide) rfl (f_ticksToArrival l g hN hB.2.1 d0 s0 d3 fc hfc kfc v0 hv0 kv0 a0 (by omega) (by omega) v3 hv3 kv3 n3 hn3 kn3 l3 hl3 kl3 m3 hm3 km3 n0 hn0 kn0 l0 hl0 kl0 m0 hm0 km0 tm (by omega) (by omega) nn (by omega) (by omega) ln (by omega) (by omega) mn (by omega) (by omega) hf0 hf1 hf2 hf3 hr8 hr15 hr16 hr17 hr9 hr10 hr11 hw0 hz0 he3 hz3) q_cX11_239 q_dX1_ticksToArrival (by decide) rfl rfl hl.1 rfl (Nat.le_of_ble_eq_true rfl) dX11_arrives_14 (fun y46 H locs f45 ry46 h47 hF hB => ?_)
  obtain ⟨ly46, uy46, t48, g49, g50⟩ := h47
  have z51 : q_is (q_z f45 v0 11) tm := Eq.trans (hF.z hv0 (by rw [kv0]; rfl)) hf0
  have z52 : q_is (q_z f45 v0 3) nn := Eq.trans (hF.z hv0 (by rw [kv0]; rfl)) hf1
  have z53 : q_is (q_z f45 v0 4) ln := Eq.trans (hF.z hv0 (by rw [kv0]; rfl)) hf2
  have z54 : q_is (q_z f45 v0 5) mn := Eq.trans (hF.z hv0 (by rw [kv0]; rfl)) hf3
  have z55 : q_is (q_z f45 v0 6) yr := Eq.trans (hF.z hv0 (by rw [kv0]; rfl)) hf4
  have z56 : q_is (q_z f45 hist 1) sl := Eq.trans (hF.z hhist (by rw [khist]; rfl)) hf5
  have z57 : q_is (q_z f45 hist 2) my := Eq.trans (hF.z hhist (by rw [khist]; rfl)) hf6
  have z58 : q_ir (q_r f45 x 0) so := Eq.trans (hF.r hx (by rw [kx]; rfl)) hr0
  have z59 : q_ir (q_r f45 x 1) rd := Eq.trans (hF.r hx (by rw [kx]; rfl)) hr1
  have z60 : q_ir (q_r f45 x 3) fc := Eq.trans (hF.r hx (by rw [kx]; rfl)) hr2
  have z61 : q_ir (q_r f45 x 4) hist := Eq.trans (hF.r hx (by rw [kx]; rfl)) hr3
  have z62 : q_ir (q_r f45 x 6) v0 := Eq.trans (hF.r hx (by rw [kx]; rfl)) hr4
  have z63 : q_ir (q_r f45 x 7) v1 := Eq.trans (hF.r hx (by rw [kx]; rfl)) hr5
  have z64 : q_ir (q_r f45 so 0) ba := Eq.trans (hF.r hso (by rw [kso]; rfl)) hr6
  have z65 : q_ir (q_r f45 hist 0) ka := Eq.trans (hF.r hhist (by rw [khist]; rfl)) hr7
  have z66 : q_ir (q_r f45 fc 0) v3 := Eq.trans (hF.r hfc (by rw [kfc]; rfl)) hr8
  have z67 : q_ir (q_r f45 v0 0) n0 := Eq.trans (hF.r hv0 (by rw [kv0]; rfl)) hr9
  have z68 : q_ir (q_r f45 v0 1) l0 := Eq.trans (hF.r hv0 (by rw [kv0]; rfl)) hr10
  have z69 : q_ir (q_r f45 v0 2) m0 := Eq.trans (hF.r hv0 (by rw [kv0]; rfl)) hr11
  have z70 : q_ir (q_r f45 v1 0) n1 := Eq.trans (hF.r hv1 (by rw [kv1]; rfl)) hr12
  have z71 : q_ir (q_r f45 v1 1) l1 := Eq.trans (hF.r hv1 (by rw [kv1]; rfl)) hr13
  have z72 : q_ir (q_r f45 v1 2) m1 := Eq.trans (hF.r hv1 (by rw [kv1]; rfl)) hr14
  have z73 : q_ir (q_r f45 v3 0) n3 := Eq.trans (hF.r hv3 (by rw [kv3]; rfl)) hr15
  have z74 : q_ir (q_r f45 v3 1) l3 := Eq.trans (hF.r hv3 (by rw [kv3]; rfl)) hr16
  have z75 : q_ir (q_r f45 v3 2) m3 := Eq.trans (hF.r hv3 (by rw [kv3]; rfl)) hr17
  have g76 : tw_vw K L 10 5 3 4 f45 v0 n0 l0 m0 d0 s0 := tw_vw_tr hw0 (fun a9 h9 k9 c9 => hF.z h9 (by rw [k9]; rfl)) (fun a9 h9 k9 c9 => hF.z h9 (by rw [k9]; rfl)) (fun a9 h9 k9 c9 => hF.z h9 (by rw [k9]; rfl)) (fun a9 h9 k9 c9 => hF.z h9 (by rw [k9]; rfl)) (fun i9 => hF.r hn0 (by rw [kn0]; rfl)) (fun i9 => hF.r hl0 (by rw [kl0]; rfl)) (fun i9 => hF.r hm0 (by rw [km0]; rfl))
  have g77 : tw_nw K L 5 f45 := tw_nw_tr hz0 (fun a9 h9 k9 => hF.j h9 (by rw [k9]; rfl))
  have g78 : tw_hk K L f45 ka A9 D9 S9 := tw_hk_tr hhk (fun a9 h9 k9 i9 => hF a9 h9 i9 (tw_krw rfl k9))
  refine q_iret cx hr hlk hB dX11_arrives_17 ⟨by omega, by omega⟩ ?_
  exact ⟨(by omega), (by omega), t48, g49, g50⟩
set_option maxHeartbeats 4000000 in
set_option maxRecDepth 100000 in
theorem f_xwouldArrive (l : Launch) (g : q_G) {K : Nat → Nat} {L : List Nat} (hN : L.Nodup) {f : Nat → va_E} (hT : q_Ty g K L f) (d0 : Nat → Nat) (s0 : tw_S) (d3 : Nat → Nat) (A9 : Nat → Nat → Nat) (D9 : Nat → Nat → Nat) (S9 : Nat → tw_S) (x : Nat) (hx : x ∈ L) (kx : K x = 11) (a0 : Int) (la0 : 0 ≤ a0) (ua0 : a0 ≤ 9) (b0 : Int) (lb0 : 0 ≤ b0) (ub0 : b0 ≤ 9) (z0 : Int) (lz0 : 0 ≤ z0) (uz0 : z0 ≤ 1) (so : Nat) (hso : so ∈ L) (kso : K so = 8) (rd : Nat) (hrd : rd ∈ L) (krd : K rd = 9) (fc : Nat) (hfc : fc ∈ L) (kfc : K fc = 1) (hist : Nat) (hhist : hist ∈ L) (khist : K hist = 2) (v0 : Nat) (hv0 : v0 ∈ L) (kv0 : K v0 = 10) (v1 : Nat) (hv1 : v1 ∈ L) (kv1 : K v1 = 13) (ba : Nat) (hba : ba ∈ L) (kba : K ba = 142) (ka : Nat) (hka : ka ∈ L) (kka : K ka = 218) (v3 : Nat) (hv3 : v3 ∈ L) (kv3 : K v3 = 15) (n0 : Nat) (hn0 : n0 ∈ L) (kn0 : K n0 = 110) (l0 : Nat) (hl0 : l0 ∈ L) (kl0 : K l0 = 120) (m0 : Nat) (hm0 : m0 ∈ L) (km0 : K m0 = 130) (n1 : Nat) (hn1 : n1 ∈ L) (kn1 : K n1 = 111) (l1 : Nat) (hl1 : l1 ∈ L) (kl1 : K l1 = 121) (m1 : Nat) (hm1 : m1 ∈ L) (km1 : K m1 = 131) (n3 : Nat) (hn3 : n3 ∈ L) (kn3 : K n3 = 113) (l3 : Nat) (hl3 : l3 ∈ L) (kl3 : K l3 = 123) (m3 : Nat) (hm3 : m3 ∈ L) (km3 : K m3 = 133) (tm : Int) (ltm : 0 ≤ tm) (utm : tm ≤ 9000) (nn : Int) (lnn : 0 ≤ nn) (unn : nn ≤ 10) (ln : Int) (lln : 0 ≤ ln) (uln : ln ≤ 16) (mn : Int) (lmn : 0 ≤ mn) (umn : mn ≤ 59) (yr : Int) (lyr : 4 ≤ yr) (uyr : yr ≤ 60) (sl : Int) (lsl : 0 ≤ sl) (usl : sl ≤ 6) (my : Int) (lmy : 0 ≤ my) (umy : my ≤ 6) (hf0 : q_is (q_z f v0 11) tm) (hf1 : q_is (q_z f v0 3) nn) (hf2 : q_is (q_z f v0 4) ln) (hf3 : q_is (q_z f v0 5) mn) (hf4 : q_is (q_z f v0 6) yr) (hf5 : q_is (q_z f hist 1) sl) (hf6 : q_is (q_z f hist 2) my) (hr0 : q_ir (q_r f x 0) so) (hr1 : q_ir (q_r f x 1) rd) (hr2 : q_ir (q_r f x 3) fc) (hr3 : q_ir (q_r f x 4) hist) (hr4 : q_ir (q_r f x 6) v0) (hr5 : q_ir (q_r f x 7) v1) (hr6 : q_ir (q_r f so 0) ba) (hr7 : q_ir (q_r f hist 0) ka) (hr8 : q_ir (q_r f fc 0) v3) (hr9 : q_ir (q_r f v0 0) n0) (hr10 : q_ir (q_r f v0 1) l0) (hr11 : q_ir (q_r f v0 2) m0) (hr12 : q_ir (q_r f v1 0) n1) (hr13 : q_ir (q_r f v1 1) l1) (hr14 : q_ir (q_r f v1 2) m1) (hr15 : q_ir (q_r f v3 0) n3) (hr16 : q_ir (q_r f v3 1) l3) (hr17 : q_ir (q_r f v3 2) m3) (hp0 : a0 < nn) (hp1 : b0 < nn) (hp2 : a0 ≠ b0) (hw0 : tw_vw K L 10 5 3 4 f v0 n0 l0 m0 d0 s0) (hz0 : tw_nw K L 5 f) (hhk : tw_hk K L f ka A9 D9 S9) (he3 : ∃ s9 : tw_S, tw_vw K L 15 19 23 27 f v3 n3 l3 m3 d3 s9) (hz3 : tw_nw K L 19 f) : q_Ct l g K L yX11_wouldArrive cX11_wouldArrive 4 (some .int) 7 173 [.ref x, .int (q_i a0), .int (q_i b0), .int (q_i z0)] f [(15, 3, 15), (19, 0, 9), (23, 0, 4), (27, 0, 7)] (q_Pi (fun (z : Int) (f1 : Nat → va_E) => (-1) ≤ z ∧ z ≤ 200 ∧ (∃ τ9 : tw_S, z = tw_ia s0 τ9 a0 b0 z0) ∧ (∃ s9 : tw_S, tw_vw K L 15 19 23 27 f1 v3 n3 l3 m3 d3 s9) ∧ (tw_nw K L 19 f1))) := by
  refine q_ofb (by decide +kernel) hN hT (Nat.le_of_ble_eq_true rfl) ?_
  intro p e s m below meth c ls cx hr hlk hB hl
  have hl : lv_has ls 4 [(0, .ref x), (1, .int (q_i a0)), (2, .int (q_i b0)), (3, .int (q_i z0))] := hl
  obtain ⟨H, hH⟩ : ∃ H : Heap, H = s.heap := ⟨_, rfl⟩
  obtain ⟨locs, hlocs⟩ : ∃ z : List Loc, z = [] := ⟨_, rfl⟩
  rw [← hH, ← hlocs] at hB
  rw [← hH, ← hlocs]
  refine q_ald_n cx dX11_wouldArrive_0 rfl (lv_at hl 0 rfl) ?_
  refine q_ild_n cx dX11_wouldArrive_1 rfl (lv_at hl 1 rfl) ?_
  refine q_cVv (As := [.int (q_i a0)]) (rest := []) cx hB (fun _ h => h) hN hx kx (by decide) rfl (f_xrequireNode l g hN hB.2.1 d0 s0 d3 A9 D9 S9 x hx kx a0 (by omega) (by omega) so hso kso rd hrd krd fc hfc kfc hist hhist khist v0 hv0 kv0 v1 hv1 kv1 ba hba kba ka hka kka v3 hv3 kv3 n0 hn0 kn0 l0 hl0 kl0 m0 hm0 km0 n1 hn1 kn1 l1 hl1 kl1 m1 hm1 km1 n3 hn3 kn3 l3 hl3 kl3 m3 hm3 km3 tm (by omega) (by omega) nn (by omega) (by omega) ln (by omega) (by omega) mn (by omega) (by omega) yr (by omega) (by omega) sl (by omega) (by omega) my (by omega) (by omega) hf0 hf1 hf2 hf3 hf4 hf5 hf6 hr0 hr1 hr2 hr3 hr4 hr5 hr6 hr7 hr8 hr9 hr10 hr11 hr12 hr13 hr14 hr15 hr16 hr17 (by omega) hw0 hz0 hhk he3 hz3) q_cX11_129 q_dX11_requireNode (by decide) rfl rfl hl.1 rfl (Nat.le_of_ble_eq_true rfl) dX11_wouldArrive_2 (fun H locs f46 h48 hF hB => ?_)
  obtain rfl := h48
  refine q_ald_n cx dX11_wouldArrive_5 rfl (lv_at hl 0 rfl) ?_
  refine q_ild_n cx dX11_wouldArrive_6 rfl (lv_at hl 2 rfl) ?_
  refine q_cVv (As := [.int (q_i b0)]) (rest := []) cx hB (fun _ h => h) hN hx kx (by decide) rfl (f_xrequireNode l g hN hB.2.1 d0 s0 d3 A9 D9 S9 x hx kx b0 (by omega) (by omega) so hso kso rd hrd krd fc hfc kfc hist hhist khist v0 hv0 kv0 v1 hv1 kv1 ba hba kba ka hka kka v3 hv3 kv3 n0 hn0 kn0 l0 hl0 kl0 m0 hm0 km0 n1 hn1 kn1 l1 hl1 kl1 m1 hm1 km1 n3 hn3 kn3 l3 hl3 kl3 m3 hm3 km3 tm (by omega) (by omega) nn (by omega) (by omega) ln (by omega) (by omega) mn (by omega) (by omega) yr (by omega) (by omega) sl (by omega) (by omega) my (by omega) (by omega) hf0 hf1 hf2 hf3 hf4 hf5 hf6 hr0 hr1 hr2 hr3 hr4 hr5 hr6 hr7 hr8 hr9 hr10 hr11 hr12 hr13 hr14 hr15 hr16 hr17 (by omega) hw0 hz0 hhk he3 hz3) q_cX11_129 q_dX11_requireNode (by decide) rfl rfl hl.1 rfl (Nat.le_of_ble_eq_true rfl) dX11_wouldArrive_7 (fun H locs f49 h51 hF hB => ?_)
  obtain rfl := h51
  refine q_ald_n cx dX11_wouldArrive_10 rfl (lv_at hl 0 rfl) ?_
  refine q_ild_n cx dX11_wouldArrive_11 rfl (lv_at hl 1 rfl) ?_
  refine q_ild_n cx dX11_wouldArrive_12 rfl (lv_at hl 2 rfl) ?_
  refine q_cVv (As := [.int (q_i a0), .int (q_i b0)]) (rest := []) cx hB (fun _ h => h) hN hx kx (by decide) rfl (f_xrequireDifferent l g hN hB.2.1 d0 s0 d3 A9 D9 S9 x hx kx a0 (by omega) (by omega) b0 (by omega) (by omega) so hso kso rd hrd krd fc hfc kfc hist hhist khist v0 hv0 kv0 v1 hv1 kv1 ba hba kba ka hka kka v3 hv3 kv3 n0 hn0 kn0 l0 hl0 kl0 m0 hm0 km0 n1 hn1 kn1 l1 hl1 kl1 m1 hm1 km1 n3 hn3 kn3 l3 hl3 kl3 m3 hm3 km3 tm (by omega) (by omega) nn (by omega) (by omega) ln (by omega) (by omega) mn (by omega) (by omega) yr (by omega) (by omega) sl (by omega) (by omega) my (by omega) (by omega) hf0 hf1 hf2 hf3 hf4 hf5 hf6 hr0 hr1 hr2 hr3 hr4 hr5 hr6 hr7 hr8 hr9 hr10 hr11 hr12 hr13 hr14 hr15 hr16 hr17 (by omega) hw0 hz0 hhk he3 hz3) q_cX11_243 q_dX11_requireDifferent (by decide) rfl rfl hl.1 rfl (Nat.le_of_ble_eq_true rfl) dX11_wouldArrive_13 (fun H locs f52 h54 hF hB => ?_)
  obtain rfl := h54
  refine q_ald_n cx dX11_wouldArrive_16 rfl (lv_at hl 0 rfl) ?_
  refine q_gX11_33 cx hB hx kx hr2 dX11_wouldArrive_17 (fun hb55 kb55 => ?_)
  refine q_ald_n cx dX11_wouldArrive_20 rfl (lv_at hl 0 rfl) ?_
  refine q_gX11_54 cx hB hx kx hr4 dX11_wouldArrive_21 (fun hb56 kb56 => ?_)
  refine q_ild_n cx dX11_wouldArrive_24 rfl (lv_at hl 1 rfl) ?_
  refine q_ild_n cx dX11_wouldArrive_25 rfl (lv_at hl 2 rfl) ?_
  refine q_ild_n cx dX11_wouldArrive_26 rfl (lv_at hl 3 rfl) ?_
  refine q_cVi (As := [.ref v0, .int (q_i a0), .int (q_i b0), .int (q_i z0)]) (rest := []) cx hB (fun _ h => h) hN hfc kfc (by decide) rfl (f_ticksIfSent l g hN hB.2.1 d0 s0 d3 fc hfc kfc v0 hv0 kv0 a0 (by omega) (by omega) b0 (by omega) (by omega) z0 (by omega) (by omega) v3 hv3 kv3 n3 hn3 kn3 l3 hl3 kl3 m3 hm3 km3 n0 hn0 kn0 l0 hl0 kl0 m0 hm0 km0 tm (by omega) (by omega) nn (by omega) (by omega) ln (by omega) (by omega) mn (by omega) (by omega) hf0 hf1 hf2 hf3 hr8 hr15 hr16 hr17 hr9 hr10 hr11 hw0 hz0 he3 hz3) q_cX11_247 q_dX1_ticksIfSent (by decide) rfl rfl hl.1 rfl (Nat.le_of_ble_eq_true rfl) dX11_wouldArrive_27 (fun y58 H locs f57 ry58 h59 hF hB => ?_)
  obtain ⟨ly58, uy58, t60, g61, g62⟩ := h59
  have z63 : q_is (q_z f57 v0 11) tm := Eq.trans (hF.z hv0 (by rw [kv0]; rfl)) hf0
  have z64 : q_is (q_z f57 v0 3) nn := Eq.trans (hF.z hv0 (by rw [kv0]; rfl)) hf1
  have z65 : q_is (q_z f57 v0 4) ln := Eq.trans (hF.z hv0 (by rw [kv0]; rfl)) hf2
  have z66 : q_is (q_z f57 v0 5) mn := Eq.trans (hF.z hv0 (by rw [kv0]; rfl)) hf3
  have z67 : q_is (q_z f57 v0 6) yr := Eq.trans (hF.z hv0 (by rw [kv0]; rfl)) hf4
  have z68 : q_is (q_z f57 hist 1) sl := Eq.trans (hF.z hhist (by rw [khist]; rfl)) hf5
  have z69 : q_is (q_z f57 hist 2) my := Eq.trans (hF.z hhist (by rw [khist]; rfl)) hf6
  have z70 : q_ir (q_r f57 x 0) so := Eq.trans (hF.r hx (by rw [kx]; rfl)) hr0
  have z71 : q_ir (q_r f57 x 1) rd := Eq.trans (hF.r hx (by rw [kx]; rfl)) hr1
  have z72 : q_ir (q_r f57 x 3) fc := Eq.trans (hF.r hx (by rw [kx]; rfl)) hr2
  have z73 : q_ir (q_r f57 x 4) hist := Eq.trans (hF.r hx (by rw [kx]; rfl)) hr3
  have z74 : q_ir (q_r f57 x 6) v0 := Eq.trans (hF.r hx (by rw [kx]; rfl)) hr4
  have z75 : q_ir (q_r f57 x 7) v1 := Eq.trans (hF.r hx (by rw [kx]; rfl)) hr5
  have z76 : q_ir (q_r f57 so 0) ba := Eq.trans (hF.r hso (by rw [kso]; rfl)) hr6
  have z77 : q_ir (q_r f57 hist 0) ka := Eq.trans (hF.r hhist (by rw [khist]; rfl)) hr7
  have z78 : q_ir (q_r f57 fc 0) v3 := Eq.trans (hF.r hfc (by rw [kfc]; rfl)) hr8
  have z79 : q_ir (q_r f57 v0 0) n0 := Eq.trans (hF.r hv0 (by rw [kv0]; rfl)) hr9
  have z80 : q_ir (q_r f57 v0 1) l0 := Eq.trans (hF.r hv0 (by rw [kv0]; rfl)) hr10
  have z81 : q_ir (q_r f57 v0 2) m0 := Eq.trans (hF.r hv0 (by rw [kv0]; rfl)) hr11
  have z82 : q_ir (q_r f57 v1 0) n1 := Eq.trans (hF.r hv1 (by rw [kv1]; rfl)) hr12
  have z83 : q_ir (q_r f57 v1 1) l1 := Eq.trans (hF.r hv1 (by rw [kv1]; rfl)) hr13
  have z84 : q_ir (q_r f57 v1 2) m1 := Eq.trans (hF.r hv1 (by rw [kv1]; rfl)) hr14
  have z85 : q_ir (q_r f57 v3 0) n3 := Eq.trans (hF.r hv3 (by rw [kv3]; rfl)) hr15
  have z86 : q_ir (q_r f57 v3 1) l3 := Eq.trans (hF.r hv3 (by rw [kv3]; rfl)) hr16
  have z87 : q_ir (q_r f57 v3 2) m3 := Eq.trans (hF.r hv3 (by rw [kv3]; rfl)) hr17
  have g88 : tw_vw K L 10 5 3 4 f57 v0 n0 l0 m0 d0 s0 := tw_vw_tr hw0 (fun a9 h9 k9 c9 => hF.z h9 (by rw [k9]; rfl)) (fun a9 h9 k9 c9 => hF.z h9 (by rw [k9]; rfl)) (fun a9 h9 k9 c9 => hF.z h9 (by rw [k9]; rfl)) (fun a9 h9 k9 c9 => hF.z h9 (by rw [k9]; rfl)) (fun i9 => hF.r hn0 (by rw [kn0]; rfl)) (fun i9 => hF.r hl0 (by rw [kl0]; rfl)) (fun i9 => hF.r hm0 (by rw [km0]; rfl))
  have g89 : tw_nw K L 5 f57 := tw_nw_tr hz0 (fun a9 h9 k9 => hF.j h9 (by rw [k9]; rfl))
  have g90 : tw_hk K L f57 ka A9 D9 S9 := tw_hk_tr hhk (fun a9 h9 k9 i9 => hF a9 h9 i9 (tw_krw rfl k9))
  refine q_iret cx hr hlk hB dX11_wouldArrive_30 ⟨by omega, by omega⟩ ?_
  exact ⟨(by omega), (by omega), t60, g61, g62⟩
set_option maxHeartbeats 4000000 in
set_option maxRecDepth 100000 in
theorem f_xenergyIn (l : Launch) (g : q_G) {K : Nat → Nat} {L : List Nat} (hN : L.Nodup) {f : Nat → va_E} (hT : q_Ty g K L f) (d0 : Nat → Nat) (s0 : tw_S) (d3 : Nat → Nat) (A9 : Nat → Nat → Nat) (D9 : Nat → Nat → Nat) (S9 : Nat → tw_S) (x : Nat) (hx : x ∈ L) (kx : K x = 11) (a0 : Int) (la0 : 0 ≤ a0) (ua0 : a0 ≤ 9) (b0 : Int) (lb0 : 0 ≤ b0) (ub0 : b0 ≤ 200) (so : Nat) (hso : so ∈ L) (kso : K so = 8) (rd : Nat) (hrd : rd ∈ L) (krd : K rd = 9) (fc : Nat) (hfc : fc ∈ L) (kfc : K fc = 1) (hist : Nat) (hhist : hist ∈ L) (khist : K hist = 2) (v0 : Nat) (hv0 : v0 ∈ L) (kv0 : K v0 = 10) (v1 : Nat) (hv1 : v1 ∈ L) (kv1 : K v1 = 13) (ba : Nat) (hba : ba ∈ L) (kba : K ba = 142) (ka : Nat) (hka : ka ∈ L) (kka : K ka = 218) (v3 : Nat) (hv3 : v3 ∈ L) (kv3 : K v3 = 15) (n0 : Nat) (hn0 : n0 ∈ L) (kn0 : K n0 = 110) (l0 : Nat) (hl0 : l0 ∈ L) (kl0 : K l0 = 120) (m0 : Nat) (hm0 : m0 ∈ L) (km0 : K m0 = 130) (n1 : Nat) (hn1 : n1 ∈ L) (kn1 : K n1 = 111) (l1 : Nat) (hl1 : l1 ∈ L) (kl1 : K l1 = 121) (m1 : Nat) (hm1 : m1 ∈ L) (km1 : K m1 = 131) (n3 : Nat) (hn3 : n3 ∈ L) (kn3 : K n3 = 113) (l3 : Nat) (hl3 : l3 ∈ L) (kl3 : K l3 = 123) (m3 : Nat) (hm3 : m3 ∈ L) (km3 : K m3 = 133) (tm : Int) (ltm : 0 ≤ tm) (utm : tm ≤ 9000) (nn : Int) (lnn : 0 ≤ nn) (unn : nn ≤ 10) (ln : Int) (lln : 0 ≤ ln) (uln : ln ≤ 16) (mn : Int) (lmn : 0 ≤ mn) (umn : mn ≤ 59) (yr : Int) (lyr : 4 ≤ yr) (uyr : yr ≤ 60) (sl : Int) (lsl : 0 ≤ sl) (usl : sl ≤ 6) (my : Int) (lmy : 0 ≤ my) (umy : my ≤ 6) (hf0 : q_is (q_z f v0 11) tm) (hf1 : q_is (q_z f v0 3) nn) (hf2 : q_is (q_z f v0 4) ln) (hf3 : q_is (q_z f v0 5) mn) (hf4 : q_is (q_z f v0 6) yr) (hf5 : q_is (q_z f hist 1) sl) (hf6 : q_is (q_z f hist 2) my) (hr0 : q_ir (q_r f x 0) so) (hr1 : q_ir (q_r f x 1) rd) (hr2 : q_ir (q_r f x 3) fc) (hr3 : q_ir (q_r f x 4) hist) (hr4 : q_ir (q_r f x 6) v0) (hr5 : q_ir (q_r f x 7) v1) (hr6 : q_ir (q_r f so 0) ba) (hr7 : q_ir (q_r f hist 0) ka) (hr8 : q_ir (q_r f fc 0) v3) (hr9 : q_ir (q_r f v0 0) n0) (hr10 : q_ir (q_r f v0 1) l0) (hr11 : q_ir (q_r f v0 2) m0) (hr12 : q_ir (q_r f v1 0) n1) (hr13 : q_ir (q_r f v1 1) l1) (hr14 : q_ir (q_r f v1 2) m1) (hr15 : q_ir (q_r f v3 0) n3) (hr16 : q_ir (q_r f v3 1) l3) (hr17 : q_ir (q_r f v3 2) m3) (hp0 : a0 < nn) (hw0 : tw_vw K L 10 5 3 4 f v0 n0 l0 m0 d0 s0) (hz0 : tw_nw K L 5 f) (hhk : tw_hk K L f ka A9 D9 S9) (he3 : ∃ s9 : tw_S, tw_vw K L 15 19 23 27 f v3 n3 l3 m3 d3 s9) (hz3 : tw_nw K L 19 f) : q_Ct l g K L yX11_energyIn cX11_energyIn 3 (some .int) 6 148 [.ref x, .int (q_i a0), .int (q_i b0)] f [(15, 3, 15), (19, 0, 9), (23, 0, 4), (27, 0, 7)] (q_Pi (fun (z : Int) (f1 : Nat → va_E) => (∃ τ9 : tw_S, z = (tw_tsl (tw_cp τ9 s0) (Int.toNat b0)) (1 + Int.toNat a0) 4) ∧ (∃ s9 : tw_S, tw_vw K L 15 19 23 27 f1 v3 n3 l3 m3 d3 s9) ∧ (tw_nw K L 19 f1))) := by
  refine q_ofb (by decide +kernel) hN hT (Nat.le_of_ble_eq_true rfl) ?_
  intro p e s m below meth c ls cx hr hlk hB hl
  have hl : lv_has ls 3 [(0, .ref x), (1, .int (q_i a0)), (2, .int (q_i b0))] := hl
  obtain ⟨H, hH⟩ : ∃ H : Heap, H = s.heap := ⟨_, rfl⟩
  obtain ⟨locs, hlocs⟩ : ∃ z : List Loc, z = [] := ⟨_, rfl⟩
  rw [← hH, ← hlocs] at hB
  rw [← hH, ← hlocs]
  refine q_ald_n cx dX11_energyIn_0 rfl (lv_at hl 0 rfl) ?_
  refine q_ild_n cx dX11_energyIn_1 rfl (lv_at hl 1 rfl) ?_
  refine q_cVv (As := [.int (q_i a0)]) (rest := []) cx hB (fun _ h => h) hN hx kx (by decide) rfl (f_xrequireNode l g hN hB.2.1 d0 s0 d3 A9 D9 S9 x hx kx a0 (by omega) (by omega) so hso kso rd hrd krd fc hfc kfc hist hhist khist v0 hv0 kv0 v1 hv1 kv1 ba hba kba ka hka kka v3 hv3 kv3 n0 hn0 kn0 l0 hl0 kl0 m0 hm0 km0 n1 hn1 kn1 l1 hl1 kl1 m1 hm1 km1 n3 hn3 kn3 l3 hl3 kl3 m3 hm3 km3 tm (by omega) (by omega) nn (by omega) (by omega) ln (by omega) (by omega) mn (by omega) (by omega) yr (by omega) (by omega) sl (by omega) (by omega) my (by omega) (by omega) hf0 hf1 hf2 hf3 hf4 hf5 hf6 hr0 hr1 hr2 hr3 hr4 hr5 hr6 hr7 hr8 hr9 hr10 hr11 hr12 hr13 hr14 hr15 hr16 hr17 (by omega) hw0 hz0 hhk he3 hz3) q_cX11_129 q_dX11_requireNode (by decide) rfl rfl hl.1 rfl (Nat.le_of_ble_eq_true rfl) dX11_energyIn_2 (fun H locs f42 h44 hF hB => ?_)
  obtain rfl := h44
  refine q_ild_n cx dX11_energyIn_5 rfl (lv_at hl 2 rfl) ?_
  refine q_iflt (tgt := 16) cx ⟨by omega, by omega⟩ dX11_energyIn_6 (by decide) (fun c45 => ?_) (fun c45 => ?_)
  · exact absurd c45 (by omega)
  · refine q_ild_n cx dX11_energyIn_9 rfl (lv_at hl 2 rfl) ?_
    refine q_sipush cx dX11_energyIn_10 rfl ?_
    refine q_icle (tgt := 26) cx ⟨by omega, by omega⟩ ⟨by decide, by decide⟩ dX11_energyIn_13 (by decide) (fun c46 => ?_) (fun c46 => ?_)
    · refine q_ald_n cx dX11_energyIn_26 rfl (lv_at hl 0 rfl) ?_
      refine q_gX11_33 cx hB hx kx hr2 dX11_energyIn_27 (fun hb47 kb47 => ?_)
      refine q_ald_n cx dX11_energyIn_30 rfl (lv_at hl 0 rfl) ?_
      refine q_gX11_54 cx hB hx kx hr4 dX11_energyIn_31 (fun hb48 kb48 => ?_)
      refine q_ild_n cx dX11_energyIn_34 rfl (lv_at hl 1 rfl) ?_
      refine q_ild_n cx dX11_energyIn_35 rfl (lv_at hl 2 rfl) ?_
      refine q_cVi (As := [.ref v0, .int (q_i a0), .int (q_i b0)]) (rest := []) cx hB (fun _ h => h) hN hfc kfc (by decide) rfl (f_energyAfter l g hN hB.2.1 d0 s0 d3 fc hfc kfc v0 hv0 kv0 a0 (by omega) (by omega) b0 (by omega) (by omega) v3 hv3 kv3 n3 hn3 kn3 l3 hl3 kl3 m3 hm3 km3 n0 hn0 kn0 l0 hl0 kl0 m0 hm0 km0 tm (by omega) (by omega) nn (by omega) (by omega) ln (by omega) (by omega) mn (by omega) (by omega) hf0 hf1 hf2 hf3 hr8 hr15 hr16 hr17 hr9 hr10 hr11 hw0 hz0 he3 hz3) q_cX11_254 q_dX1_energyAfter (by decide) rfl rfl hl.1 rfl (Nat.le_of_ble_eq_true rfl) dX11_energyIn_36 (fun y50 H locs f49 ry50 h51 hF hB => ?_)
      obtain ⟨t52, g53, g54⟩ := h51
      have z55 : q_is (q_z f49 v0 11) tm := Eq.trans (hF.z hv0 (by rw [kv0]; rfl)) hf0
      have z56 : q_is (q_z f49 v0 3) nn := Eq.trans (hF.z hv0 (by rw [kv0]; rfl)) hf1
      have z57 : q_is (q_z f49 v0 4) ln := Eq.trans (hF.z hv0 (by rw [kv0]; rfl)) hf2
      have z58 : q_is (q_z f49 v0 5) mn := Eq.trans (hF.z hv0 (by rw [kv0]; rfl)) hf3
      have z59 : q_is (q_z f49 v0 6) yr := Eq.trans (hF.z hv0 (by rw [kv0]; rfl)) hf4
      have z60 : q_is (q_z f49 hist 1) sl := Eq.trans (hF.z hhist (by rw [khist]; rfl)) hf5
      have z61 : q_is (q_z f49 hist 2) my := Eq.trans (hF.z hhist (by rw [khist]; rfl)) hf6
      have z62 : q_ir (q_r f49 x 0) so := Eq.trans (hF.r hx (by rw [kx]; rfl)) hr0
      have z63 : q_ir (q_r f49 x 1) rd := Eq.trans (hF.r hx (by rw [kx]; rfl)) hr1
      have z64 : q_ir (q_r f49 x 3) fc := Eq.trans (hF.r hx (by rw [kx]; rfl)) hr2
      have z65 : q_ir (q_r f49 x 4) hist := Eq.trans (hF.r hx (by rw [kx]; rfl)) hr3
      have z66 : q_ir (q_r f49 x 6) v0 := Eq.trans (hF.r hx (by rw [kx]; rfl)) hr4
      have z67 : q_ir (q_r f49 x 7) v1 := Eq.trans (hF.r hx (by rw [kx]; rfl)) hr5
      have z68 : q_ir (q_r f49 so 0) ba := Eq.trans (hF.r hso (by rw [kso]; rfl)) hr6
      have z69 : q_ir (q_r f49 hist 0) ka := Eq.trans (hF.r hhist (by rw [khist]; rfl)) hr7
      have z70 : q_ir (q_r f49 fc 0) v3 := Eq.trans (hF.r hfc (by rw [kfc]; rfl)) hr8
      have z71 : q_ir (q_r f49 v0 0) n0 := Eq.trans (hF.r hv0 (by rw [kv0]; rfl)) hr9
      have z72 : q_ir (q_r f49 v0 1) l0 := Eq.trans (hF.r hv0 (by rw [kv0]; rfl)) hr10
      have z73 : q_ir (q_r f49 v0 2) m0 := Eq.trans (hF.r hv0 (by rw [kv0]; rfl)) hr11
      have z74 : q_ir (q_r f49 v1 0) n1 := Eq.trans (hF.r hv1 (by rw [kv1]; rfl)) hr12
      have z75 : q_ir (q_r f49 v1 1) l1 := Eq.trans (hF.r hv1 (by rw [kv1]; rfl)) hr13
      have z76 : q_ir (q_r f49 v1 2) m1 := Eq.trans (hF.r hv1 (by rw [kv1]; rfl)) hr14
      have z77 : q_ir (q_r f49 v3 0) n3 := Eq.trans (hF.r hv3 (by rw [kv3]; rfl)) hr15
      have z78 : q_ir (q_r f49 v3 1) l3 := Eq.trans (hF.r hv3 (by rw [kv3]; rfl)) hr16
      have z79 : q_ir (q_r f49 v3 2) m3 := Eq.trans (hF.r hv3 (by rw [kv3]; rfl)) hr17
      have g80 : tw_vw K L 10 5 3 4 f49 v0 n0 l0 m0 d0 s0 := tw_vw_tr hw0 (fun a9 h9 k9 c9 => hF.z h9 (by rw [k9]; rfl)) (fun a9 h9 k9 c9 => hF.z h9 (by rw [k9]; rfl)) (fun a9 h9 k9 c9 => hF.z h9 (by rw [k9]; rfl)) (fun a9 h9 k9 c9 => hF.z h9 (by rw [k9]; rfl)) (fun i9 => hF.r hn0 (by rw [kn0]; rfl)) (fun i9 => hF.r hl0 (by rw [kl0]; rfl)) (fun i9 => hF.r hm0 (by rw [km0]; rfl))
      have g81 : tw_nw K L 5 f49 := tw_nw_tr hz0 (fun a9 h9 k9 => hF.j h9 (by rw [k9]; rfl))
      have g82 : tw_hk K L f49 ka A9 D9 S9 := tw_hk_tr hhk (fun a9 h9 k9 i9 => hF a9 h9 i9 (tw_krw rfl k9))
      refine q_iret cx hr hlk hB dX11_energyIn_39 ⟨by omega, by omega⟩ ?_
      exact ⟨t52, g53, g54⟩
    · exact absurd c46 (by omega)
set_option maxHeartbeats 4000000 in
set_option maxRecDepth 100000 in
theorem f_xoutIn (l : Launch) (g : q_G) {K : Nat → Nat} {L : List Nat} (hN : L.Nodup) {f : Nat → va_E} (hT : q_Ty g K L f) (d0 : Nat → Nat) (s0 : tw_S) (d3 : Nat → Nat) (A9 : Nat → Nat → Nat) (D9 : Nat → Nat → Nat) (S9 : Nat → tw_S) (x : Nat) (hx : x ∈ L) (kx : K x = 11) (a0 : Int) (la0 : 0 ≤ a0) (ua0 : a0 ≤ 9) (so : Nat) (hso : so ∈ L) (kso : K so = 8) (rd : Nat) (hrd : rd ∈ L) (krd : K rd = 9) (fc : Nat) (hfc : fc ∈ L) (kfc : K fc = 1) (hist : Nat) (hhist : hist ∈ L) (khist : K hist = 2) (v0 : Nat) (hv0 : v0 ∈ L) (kv0 : K v0 = 10) (v1 : Nat) (hv1 : v1 ∈ L) (kv1 : K v1 = 13) (ba : Nat) (hba : ba ∈ L) (kba : K ba = 142) (ka : Nat) (hka : ka ∈ L) (kka : K ka = 218) (v3 : Nat) (hv3 : v3 ∈ L) (kv3 : K v3 = 15) (n0 : Nat) (hn0 : n0 ∈ L) (kn0 : K n0 = 110) (l0 : Nat) (hl0 : l0 ∈ L) (kl0 : K l0 = 120) (m0 : Nat) (hm0 : m0 ∈ L) (km0 : K m0 = 130) (n1 : Nat) (hn1 : n1 ∈ L) (kn1 : K n1 = 111) (l1 : Nat) (hl1 : l1 ∈ L) (kl1 : K l1 = 121) (m1 : Nat) (hm1 : m1 ∈ L) (km1 : K m1 = 131) (n3 : Nat) (hn3 : n3 ∈ L) (kn3 : K n3 = 113) (l3 : Nat) (hl3 : l3 ∈ L) (kl3 : K l3 = 123) (m3 : Nat) (hm3 : m3 ∈ L) (km3 : K m3 = 133) (tm : Int) (ltm : 0 ≤ tm) (utm : tm ≤ 9000) (nn : Int) (lnn : 0 ≤ nn) (unn : nn ≤ 10) (ln : Int) (lln : 0 ≤ ln) (uln : ln ≤ 16) (mn : Int) (lmn : 0 ≤ mn) (umn : mn ≤ 59) (yr : Int) (lyr : 4 ≤ yr) (uyr : yr ≤ 60) (sl : Int) (lsl : 0 ≤ sl) (usl : sl ≤ 6) (my : Int) (lmy : 0 ≤ my) (umy : my ≤ 6) (hf0 : q_is (q_z f v0 11) tm) (hf1 : q_is (q_z f v0 3) nn) (hf2 : q_is (q_z f v0 4) ln) (hf3 : q_is (q_z f v0 5) mn) (hf4 : q_is (q_z f v0 6) yr) (hf5 : q_is (q_z f hist 1) sl) (hf6 : q_is (q_z f hist 2) my) (hr0 : q_ir (q_r f x 0) so) (hr1 : q_ir (q_r f x 1) rd) (hr2 : q_ir (q_r f x 3) fc) (hr3 : q_ir (q_r f x 4) hist) (hr4 : q_ir (q_r f x 6) v0) (hr5 : q_ir (q_r f x 7) v1) (hr6 : q_ir (q_r f so 0) ba) (hr7 : q_ir (q_r f hist 0) ka) (hr8 : q_ir (q_r f fc 0) v3) (hr9 : q_ir (q_r f v0 0) n0) (hr10 : q_ir (q_r f v0 1) l0) (hr11 : q_ir (q_r f v0 2) m0) (hr12 : q_ir (q_r f v1 0) n1) (hr13 : q_ir (q_r f v1 1) l1) (hr14 : q_ir (q_r f v1 2) m1) (hr15 : q_ir (q_r f v3 0) n3) (hr16 : q_ir (q_r f v3 1) l3) (hr17 : q_ir (q_r f v3 2) m3) (hp0 : a0 < nn) (hw0 : tw_vw K L 10 5 3 4 f v0 n0 l0 m0 d0 s0) (hz0 : tw_nw K L 5 f) (hhk : tw_hk K L f ka A9 D9 S9) (he3 : ∃ s9 : tw_S, tw_vw K L 15 19 23 27 f v3 n3 l3 m3 d3 s9) (hz3 : tw_nw K L 19 f) : q_Ct l g K L yX11_outIn cX11_outIn 2 (some .int) 6 148 [.ref x, .int (q_i a0)] f [(15, 3, 15), (19, 0, 9), (23, 0, 4), (27, 0, 7)] (q_Pi (fun (z : Int) (f1 : Nat → va_E) => (-1) ≤ z ∧ z ≤ 200 ∧ (∃ τ9 : tw_S, z = tw_to (tw_cp τ9 s0) a0) ∧ (∃ s9 : tw_S, tw_vw K L 15 19 23 27 f1 v3 n3 l3 m3 d3 s9) ∧ (tw_nw K L 19 f1))) := by
  refine q_ofb (by decide +kernel) hN hT (Nat.le_of_ble_eq_true rfl) ?_
  intro p e s m below meth c ls cx hr hlk hB hl
  have hl : lv_has ls 2 [(0, .ref x), (1, .int (q_i a0))] := hl
  obtain ⟨H, hH⟩ : ∃ H : Heap, H = s.heap := ⟨_, rfl⟩
  obtain ⟨locs, hlocs⟩ : ∃ z : List Loc, z = [] := ⟨_, rfl⟩
  rw [← hH, ← hlocs] at hB
  rw [← hH, ← hlocs]
  obtain ⟨s3, hw3⟩ := he3
  refine q_ald_n cx dX11_outIn_0 rfl (lv_at hl 0 rfl) ?_
  refine q_ild_n cx dX11_outIn_1 rfl (lv_at hl 1 rfl) ?_
  refine q_cVv (As := [.int (q_i a0)]) (rest := []) cx hB (fun _ h => h) hN hx kx (by decide) rfl (f_xrequireNode l g hN hB.2.1 d0 s0 d3 A9 D9 S9 x hx kx a0 (by omega) (by omega) so hso kso rd hrd krd fc hfc kfc hist hhist khist v0 hv0 kv0 v1 hv1 kv1 ba hba kba ka hka kka v3 hv3 kv3 n0 hn0 kn0 l0 hl0 kl0 m0 hm0 km0 n1 hn1 kn1 l1 hl1 kl1 m1 hm1 km1 n3 hn3 kn3 l3 hl3 kl3 m3 hm3 km3 tm (by omega) (by omega) nn (by omega) (by omega) ln (by omega) (by omega) mn (by omega) (by omega) yr (by omega) (by omega) sl (by omega) (by omega) my (by omega) (by omega) hf0 hf1 hf2 hf3 hf4 hf5 hf6 hr0 hr1 hr2 hr3 hr4 hr5 hr6 hr7 hr8 hr9 hr10 hr11 hr12 hr13 hr14 hr15 hr16 hr17 (by omega) hw0 hz0 hhk he3 hz3) q_cX11_129 q_dX11_requireNode (by decide) rfl rfl hl.1 rfl (Nat.le_of_ble_eq_true rfl) dX11_outIn_2 (fun H locs f40 h42 hF hB => ?_)
  obtain rfl := h42
  refine q_ald_n cx dX11_outIn_5 rfl (lv_at hl 0 rfl) ?_
  refine q_gX11_33 cx hB hx kx hr2 dX11_outIn_6 (fun hb43 kb43 => ?_)
  refine q_ald_n cx dX11_outIn_9 rfl (lv_at hl 0 rfl) ?_
  refine q_gX11_54 cx hB hx kx hr4 dX11_outIn_10 (fun hb44 kb44 => ?_)
  refine q_ild_n cx dX11_outIn_13 rfl (lv_at hl 1 rfl) ?_
  refine q_cVi (As := [.ref v0, .int (q_i a0)]) (rest := []) cx hB (fun _ h => h) hN hfc kfc (by decide) rfl (f_ticksToOut l g hN hB.2.1 d0 s0 d3 s3 fc hfc kfc v0 hv0 kv0 a0 (by omega) (by omega) v3 hv3 kv3 n3 hn3 kn3 l3 hl3 kl3 m3 hm3 km3 n0 hn0 kn0 l0 hl0 kl0 m0 hm0 km0 tm (by omega) (by omega) nn (by omega) (by omega) ln (by omega) (by omega) mn (by omega) (by omega) hf0 hf1 hf2 hf3 hr8 hr15 hr16 hr17 hr9 hr10 hr11 hw0 hz0 hw3 hz3) q_cX11_251 q_dX1_ticksToOut (by decide) rfl rfl hl.1 rfl (Nat.le_of_ble_eq_true rfl) dX11_outIn_14 (fun y46 H locs f45 ry46 h47 hF hB => ?_)
  obtain ⟨ly46, uy46, t48, g49, g50⟩ := h47
  have z51 : q_is (q_z f45 v0 11) tm := Eq.trans (hF.z hv0 (by rw [kv0]; rfl)) hf0
  have z52 : q_is (q_z f45 v0 3) nn := Eq.trans (hF.z hv0 (by rw [kv0]; rfl)) hf1
  have z53 : q_is (q_z f45 v0 4) ln := Eq.trans (hF.z hv0 (by rw [kv0]; rfl)) hf2
  have z54 : q_is (q_z f45 v0 5) mn := Eq.trans (hF.z hv0 (by rw [kv0]; rfl)) hf3
  have z55 : q_is (q_z f45 v0 6) yr := Eq.trans (hF.z hv0 (by rw [kv0]; rfl)) hf4
  have z56 : q_is (q_z f45 hist 1) sl := Eq.trans (hF.z hhist (by rw [khist]; rfl)) hf5
  have z57 : q_is (q_z f45 hist 2) my := Eq.trans (hF.z hhist (by rw [khist]; rfl)) hf6
  have z58 : q_ir (q_r f45 x 0) so := Eq.trans (hF.r hx (by rw [kx]; rfl)) hr0
  have z59 : q_ir (q_r f45 x 1) rd := Eq.trans (hF.r hx (by rw [kx]; rfl)) hr1
  have z60 : q_ir (q_r f45 x 3) fc := Eq.trans (hF.r hx (by rw [kx]; rfl)) hr2
  have z61 : q_ir (q_r f45 x 4) hist := Eq.trans (hF.r hx (by rw [kx]; rfl)) hr3
  have z62 : q_ir (q_r f45 x 6) v0 := Eq.trans (hF.r hx (by rw [kx]; rfl)) hr4
  have z63 : q_ir (q_r f45 x 7) v1 := Eq.trans (hF.r hx (by rw [kx]; rfl)) hr5
  have z64 : q_ir (q_r f45 so 0) ba := Eq.trans (hF.r hso (by rw [kso]; rfl)) hr6
  have z65 : q_ir (q_r f45 hist 0) ka := Eq.trans (hF.r hhist (by rw [khist]; rfl)) hr7
  have z66 : q_ir (q_r f45 fc 0) v3 := Eq.trans (hF.r hfc (by rw [kfc]; rfl)) hr8
  have z67 : q_ir (q_r f45 v0 0) n0 := Eq.trans (hF.r hv0 (by rw [kv0]; rfl)) hr9
  have z68 : q_ir (q_r f45 v0 1) l0 := Eq.trans (hF.r hv0 (by rw [kv0]; rfl)) hr10
  have z69 : q_ir (q_r f45 v0 2) m0 := Eq.trans (hF.r hv0 (by rw [kv0]; rfl)) hr11
  have z70 : q_ir (q_r f45 v1 0) n1 := Eq.trans (hF.r hv1 (by rw [kv1]; rfl)) hr12
  have z71 : q_ir (q_r f45 v1 1) l1 := Eq.trans (hF.r hv1 (by rw [kv1]; rfl)) hr13
  have z72 : q_ir (q_r f45 v1 2) m1 := Eq.trans (hF.r hv1 (by rw [kv1]; rfl)) hr14
  have z73 : q_ir (q_r f45 v3 0) n3 := Eq.trans (hF.r hv3 (by rw [kv3]; rfl)) hr15
  have z74 : q_ir (q_r f45 v3 1) l3 := Eq.trans (hF.r hv3 (by rw [kv3]; rfl)) hr16
  have z75 : q_ir (q_r f45 v3 2) m3 := Eq.trans (hF.r hv3 (by rw [kv3]; rfl)) hr17
  have g76 : tw_vw K L 10 5 3 4 f45 v0 n0 l0 m0 d0 s0 := tw_vw_tr hw0 (fun a9 h9 k9 c9 => hF.z h9 (by rw [k9]; rfl)) (fun a9 h9 k9 c9 => hF.z h9 (by rw [k9]; rfl)) (fun a9 h9 k9 c9 => hF.z h9 (by rw [k9]; rfl)) (fun a9 h9 k9 c9 => hF.z h9 (by rw [k9]; rfl)) (fun i9 => hF.r hn0 (by rw [kn0]; rfl)) (fun i9 => hF.r hl0 (by rw [kl0]; rfl)) (fun i9 => hF.r hm0 (by rw [km0]; rfl))
  have g77 : tw_nw K L 5 f45 := tw_nw_tr hz0 (fun a9 h9 k9 => hF.j h9 (by rw [k9]; rfl))
  have g78 : tw_hk K L f45 ka A9 D9 S9 := tw_hk_tr hhk (fun a9 h9 k9 i9 => hF a9 h9 i9 (tw_krw rfl k9))
  refine q_iret cx hr hlk hB dX11_outIn_17 ⟨by omega, by omega⟩ ?_
  exact ⟨(by omega), (by omega), ⟨s3, t48⟩, g49, g50⟩
