set_option maxHeartbeats 4000000 in
set_option maxRecDepth 100000 in
theorem f_xundo (l : Launch) (g : q_G) {K : Nat → Nat} {L : List Nat} (hN : L.Nodup) {f : Nat → va_E} (hT : q_Ty g K L f) (d0 : Nat → Nat) (s0 : tw_S) (d3 : Nat → Nat) (A9 : Nat → Nat → Nat) (D9 : Nat → Nat → Nat) (S9 : Nat → tw_S) (x : Nat) (hx : x ∈ L) (kx : K x = 11) (so : Nat) (hso : so ∈ L) (kso : K so = 8) (rd : Nat) (hrd : rd ∈ L) (krd : K rd = 9) (fc : Nat) (hfc : fc ∈ L) (kfc : K fc = 1) (hist : Nat) (hhist : hist ∈ L) (khist : K hist = 2) (v0 : Nat) (hv0 : v0 ∈ L) (kv0 : K v0 = 10) (v1 : Nat) (hv1 : v1 ∈ L) (kv1 : K v1 = 13) (ba : Nat) (hba : ba ∈ L) (kba : K ba = 142) (ka : Nat) (hka : ka ∈ L) (kka : K ka = 218) (v3 : Nat) (hv3 : v3 ∈ L) (kv3 : K v3 = 15) (n0 : Nat) (hn0 : n0 ∈ L) (kn0 : K n0 = 110) (l0 : Nat) (hl0 : l0 ∈ L) (kl0 : K l0 = 120) (m0 : Nat) (hm0 : m0 ∈ L) (km0 : K m0 = 130) (n1 : Nat) (hn1 : n1 ∈ L) (kn1 : K n1 = 111) (l1 : Nat) (hl1 : l1 ∈ L) (kl1 : K l1 = 121) (m1 : Nat) (hm1 : m1 ∈ L) (km1 : K m1 = 131) (n3 : Nat) (hn3 : n3 ∈ L) (kn3 : K n3 = 113) (l3 : Nat) (hl3 : l3 ∈ L) (kl3 : K l3 = 123) (m3 : Nat) (hm3 : m3 ∈ L) (km3 : K m3 = 133) (tm : Int) (ltm : 0 ≤ tm) (utm : tm ≤ 9000) (nn : Int) (lnn : 0 ≤ nn) (unn : nn ≤ 10) (ln : Int) (lln : 0 ≤ ln) (uln : ln ≤ 16) (mn : Int) (lmn : 0 ≤ mn) (umn : mn ≤ 59) (yr : Int) (lyr : 4 ≤ yr) (uyr : yr ≤ 60) (sl : Int) (lsl : 0 ≤ sl) (usl : sl ≤ 6) (my : Int) (lmy : 1 ≤ my) (umy : my ≤ 6) (tk : Int) (ltk : 0 ≤ tk) (utk : tk ≤ 9000) (nk : Int) (lnk : 0 ≤ nk) (unk : nk ≤ 10) (lk : Int) (llk : 0 ≤ lk) (ulk : lk ≤ 16) (mk : Int) (lmk : 0 ≤ mk) (umk : mk ≤ 61) (hf0 : q_is (q_z f v0 11) tm) (hf1 : q_is (q_z f v0 3) nn) (hf2 : q_is (q_z f v0 4) ln) (hf3 : q_is (q_z f v0 5) mn) (hf4 : q_is (q_z f v0 6) yr) (hf5 : q_is (q_z f hist 1) sl) (hf6 : q_is (q_z f hist 2) my) (hr0 : q_ir (q_r f x 0) so) (hr1 : q_ir (q_r f x 1) rd) (hr2 : q_ir (q_r f x 3) fc) (hr3 : q_ir (q_r f x 4) hist) (hr4 : q_ir (q_r f x 6) v0) (hr5 : q_ir (q_r f x 7) v1) (hr6 : q_ir (q_r f so 0) ba) (hr7 : q_ir (q_r f hist 0) ka) (hr8 : q_ir (q_r f fc 0) v3) (hr9 : q_ir (q_r f v0 0) n0) (hr10 : q_ir (q_r f v0 1) l0) (hr11 : q_ir (q_r f v0 2) m0) (hr12 : q_ir (q_r f v1 0) n1) (hr13 : q_ir (q_r f v1 1) l1) (hr14 : q_ir (q_r f v1 2) m1) (hr15 : q_ir (q_r f v3 0) n3) (hr16 : q_ir (q_r f v3 1) l3) (hr17 : q_ir (q_r f v3 2) m3) (hp0 : (S9 (tw_ui sl)) 0 11 = tk) (hp1 : (S9 (tw_ui sl)) 0 3 = nk) (hp2 : (S9 (tw_ui sl)) 0 4 = lk) (hp3 : (S9 (tw_ui sl)) 0 5 = mk) (hw0 : tw_vw K L 10 5 3 4 f v0 n0 l0 m0 d0 s0) (hz0 : tw_nw K L 5 f) (hhk : tw_hk K L f ka A9 D9 S9) (he3 : ∃ s9 : tw_S, tw_vw K L 15 19 23 27 f v3 n3 l3 m3 d3 s9) (hz3 : tw_nw K L 19 f) : q_Ct l g K L yX11_undo cX11_undo 1 (some .int) 3 64 [.ref x] f [(2, 1, 2), (3, 0, 4), (4, 0, 7), (5, 0, 8), (10, 3, 12)] (q_Pi (fun (z : Int) (f1 : Nat → va_E) => z = (my - 1) ∧ q_is (q_z f1 hist 2) (my - 1) ∧ q_is (q_z f1 v0 11) tk ∧ q_is (q_z f1 v0 3) nk ∧ q_is (q_z f1 v0 4) lk ∧ q_is (q_z f1 v0 5) mk ∧ (q_is (q_z f1 hist 1) (tw_ui sl : Int)) ∧ (tw_vw K L 10 5 3 4 f1 v0 n0 l0 m0 d0 (tw_cp s0 (S9 (tw_ui sl)))) ∧ (tw_nw K L 5 f1) ∧ (tw_hk K L f1 ka A9 D9 S9))) := by
  refine q_ofb (by decide +kernel) hN hT (Nat.le_of_ble_eq_true rfl) ?_
  intro p e s m below meth c ls cx hr hlk hB hl
  have hl : lv_has ls 1 [(0, .ref x)] := hl
  obtain ⟨H, hH⟩ : ∃ H : Heap, H = s.heap := ⟨_, rfl⟩
  obtain ⟨locs, hlocs⟩ : ∃ z : List Loc, z = [] := ⟨_, rfl⟩
  rw [← hH, ← hlocs] at hB
  rw [← hH, ← hlocs]
  refine q_ald_n cx dX11_undo_0 rfl (lv_at hl 0 rfl) ?_
  refine q_gX11_40 cx hB hx kx hr3 dX11_undo_1 (fun hb261 kb261 => ?_)
  refine q_ald_n cx dX11_undo_4 rfl (lv_at hl 0 rfl) ?_
  refine q_gX11_54 cx hB hx kx hr4 dX11_undo_5 (fun hb262 kb262 => ?_)
  by_cases c263 : sl ≤ 0
  · refine q_cVi (As := [.ref v0]) (rest := []) cx hB (fun _ h => h) hN hhist khist (by decide) rfl (f_takeBack_0 l g hN hB.2.1 d0 s0 A9 D9 S9 hist hhist khist v0 hv0 kv0 n0 hn0 kn0 l0 hl0 kl0 m0 hm0 km0 ka hka kka tm (by omega) (by omega) nn (by omega) (by omega) ln (by omega) (by omega) mn (by omega) (by omega) my (by omega) (by omega) tk (by omega) (by omega) nk (by omega) (by omega) lk (by omega) (by omega) mk (by omega) (by omega) hf0 hf1 hf2 hf3 (Eq.trans hf5 (by omega)) hf6 hr7 hr9 hr10 hr11 (by have e9 : sl = 0 := by omega; have h9 := hp0; rw [e9] at h9; exact h9) (by have e9 : sl = 0 := by omega; have h9 := hp1; rw [e9] at h9; exact h9) (by have e9 : sl = 0 := by omega; have h9 := hp2; rw [e9] at h9; exact h9) (by have e9 : sl = 0 := by omega; have h9 := hp3; rw [e9] at h9; exact h9) hw0 hz0 hhk) q_cX11_325 q_dX2_takeBack (by decide) rfl rfl hl.1 rfl (Nat.le_of_ble_eq_true rfl) dX11_undo_8 (fun y265 H locs f264 ry265 h266 hF hB => ?_)
    obtain ⟨qy265, z267, z268, z269, z270, z271, z272, g273, g274, g275⟩ := h266
    have z276 : q_ir (q_r f264 x 0) so := Eq.trans (hF.r hx (by rw [kx]; rfl)) hr0
    have z277 : q_ir (q_r f264 x 1) rd := Eq.trans (hF.r hx (by rw [kx]; rfl)) hr1
    have z278 : q_ir (q_r f264 x 3) fc := Eq.trans (hF.r hx (by rw [kx]; rfl)) hr2
    have z279 : q_ir (q_r f264 x 4) hist := Eq.trans (hF.r hx (by rw [kx]; rfl)) hr3
    have z280 : q_ir (q_r f264 x 6) v0 := Eq.trans (hF.r hx (by rw [kx]; rfl)) hr4
    have z281 : q_ir (q_r f264 x 7) v1 := Eq.trans (hF.r hx (by rw [kx]; rfl)) hr5
    have z282 : q_ir (q_r f264 so 0) ba := Eq.trans (hF.r hso (by rw [kso]; rfl)) hr6
    have z283 : q_ir (q_r f264 hist 0) ka := Eq.trans (hF.r hhist (by rw [khist]; rfl)) hr7
    have z284 : q_ir (q_r f264 fc 0) v3 := Eq.trans (hF.r hfc (by rw [kfc]; rfl)) hr8
    have z285 : q_ir (q_r f264 v0 0) n0 := Eq.trans (hF.r hv0 (by rw [kv0]; rfl)) hr9
    have z286 : q_ir (q_r f264 v0 1) l0 := Eq.trans (hF.r hv0 (by rw [kv0]; rfl)) hr10
    have z287 : q_ir (q_r f264 v0 2) m0 := Eq.trans (hF.r hv0 (by rw [kv0]; rfl)) hr11
    have z288 : q_ir (q_r f264 v1 0) n1 := Eq.trans (hF.r hv1 (by rw [kv1]; rfl)) hr12
    have z289 : q_ir (q_r f264 v1 1) l1 := Eq.trans (hF.r hv1 (by rw [kv1]; rfl)) hr13
    have z290 : q_ir (q_r f264 v1 2) m1 := Eq.trans (hF.r hv1 (by rw [kv1]; rfl)) hr14
    have z291 : q_ir (q_r f264 v3 0) n3 := Eq.trans (hF.r hv3 (by rw [kv3]; rfl)) hr15
    have z292 : q_ir (q_r f264 v3 1) l3 := Eq.trans (hF.r hv3 (by rw [kv3]; rfl)) hr16
    have z293 : q_ir (q_r f264 v3 2) m3 := Eq.trans (hF.r hv3 (by rw [kv3]; rfl)) hr17
    have g294 : tw_hk K L f264 ka A9 D9 S9 := tw_hk_tr hhk (fun a9 h9 k9 i9 => hF a9 h9 i9 (tw_krw rfl k9))
    have g295 : ∃ s9 : tw_S, tw_vw K L 15 19 23 27 f264 v3 n3 l3 m3 d3 s9 := tw_ex_tr he3 (fun a9 h9 k9 c9 => hF.z h9 (by rw [k9]; rfl)) (fun a9 h9 k9 c9 => hF.z h9 (by rw [k9]; rfl)) (fun a9 h9 k9 c9 => hF.z h9 (by rw [k9]; rfl)) (fun a9 h9 k9 c9 => hF.z h9 (by rw [k9]; rfl)) (fun i9 => hF.r hn3 (by rw [kn3]; rfl)) (fun i9 => hF.r hl3 (by rw [kl3]; rfl)) (fun i9 => hF.r hm3 (by rw [km3]; rfl))
    have g296 : tw_nw K L 19 f264 := tw_nw_tr hz3 (fun a9 h9 k9 => hF.j h9 (by rw [k9]; rfl))
    subst qy265
    refine q_ifeq (tgt := 24) cx ⟨by decide, by decide⟩ dX11_undo_11 (by decide) (fun c297 => ?_) (fun c297 => ?_)
    · exact absurd c297 (by omega)
    · refine q_ald_n cx dX11_undo_14 rfl (lv_at hl 0 rfl) ?_
      refine q_gX11_40 cx hB hx kx z279 dX11_undo_15 (fun hb298 kb298 => ?_)
      refine q_gX11_122 cx hB hhist khist z268 dX11_undo_18 (fun lb299 ub299 => ?_)
      refine lv_goto (tgt := 25) cx.1 cx.2.1 dX11_undo_21 (by decide) ?_
      refine q_iret cx hr hlk hB dX11_undo_25 ⟨by omega, by omega⟩ ?_
      exact ⟨rfl, z268, z269, z270, z271, z272, (Eq.trans z267 (by have e9 : sl = 0 := by omega; rw [e9]; rfl)), (tw_cg g273 (by have e9 : sl = 0 := by omega; rw [e9]; rfl)), g274, g275⟩
  · by_cases c300 : sl ≤ 1
    · refine q_cVi (As := [.ref v0]) (rest := []) cx hB (fun _ h => h) hN hhist khist (by decide) rfl (f_takeBack_1 l g hN hB.2.1 d0 s0 A9 D9 S9 hist hhist khist v0 hv0 kv0 n0 hn0 kn0 l0 hl0 kl0 m0 hm0 km0 ka hka kka tm (by omega) (by omega) nn (by omega) (by omega) ln (by omega) (by omega) mn (by omega) (by omega) my (by omega) (by omega) tk (by omega) (by omega) nk (by omega) (by omega) lk (by omega) (by omega) mk (by omega) (by omega) hf0 hf1 hf2 hf3 (Eq.trans hf5 (by omega)) hf6 hr7 hr9 hr10 hr11 (by have e9 : sl = 1 := by omega; have h9 := hp0; rw [e9] at h9; exact h9) (by have e9 : sl = 1 := by omega; have h9 := hp1; rw [e9] at h9; exact h9) (by have e9 : sl = 1 := by omega; have h9 := hp2; rw [e9] at h9; exact h9) (by have e9 : sl = 1 := by omega; have h9 := hp3; rw [e9] at h9; exact h9) hw0 hz0 hhk) q_cX11_325 q_dX2_takeBack (by decide) rfl rfl hl.1 rfl (Nat.le_of_ble_eq_true rfl) dX11_undo_8 (fun y302 H locs f301 ry302 h303 hF hB => ?_)
      obtain ⟨qy302, z304, z305, z306, z307, z308, z309, g310, g311, g312⟩ := h303
      have z313 : q_ir (q_r f301 x 0) so := Eq.trans (hF.r hx (by rw [kx]; rfl)) hr0
      have z314 : q_ir (q_r f301 x 1) rd := Eq.trans (hF.r hx (by rw [kx]; rfl)) hr1
      have z315 : q_ir (q_r f301 x 3) fc := Eq.trans (hF.r hx (by rw [kx]; rfl)) hr2
      have z316 : q_ir (q_r f301 x 4) hist := Eq.trans (hF.r hx (by rw [kx]; rfl)) hr3
      have z317 : q_ir (q_r f301 x 6) v0 := Eq.trans (hF.r hx (by rw [kx]; rfl)) hr4
      have z318 : q_ir (q_r f301 x 7) v1 := Eq.trans (hF.r hx (by rw [kx]; rfl)) hr5
      have z319 : q_ir (q_r f301 so 0) ba := Eq.trans (hF.r hso (by rw [kso]; rfl)) hr6
      have z320 : q_ir (q_r f301 hist 0) ka := Eq.trans (hF.r hhist (by rw [khist]; rfl)) hr7
      have z321 : q_ir (q_r f301 fc 0) v3 := Eq.trans (hF.r hfc (by rw [kfc]; rfl)) hr8
      have z322 : q_ir (q_r f301 v0 0) n0 := Eq.trans (hF.r hv0 (by rw [kv0]; rfl)) hr9
      have z323 : q_ir (q_r f301 v0 1) l0 := Eq.trans (hF.r hv0 (by rw [kv0]; rfl)) hr10
      have z324 : q_ir (q_r f301 v0 2) m0 := Eq.trans (hF.r hv0 (by rw [kv0]; rfl)) hr11
      have z325 : q_ir (q_r f301 v1 0) n1 := Eq.trans (hF.r hv1 (by rw [kv1]; rfl)) hr12
      have z326 : q_ir (q_r f301 v1 1) l1 := Eq.trans (hF.r hv1 (by rw [kv1]; rfl)) hr13
      have z327 : q_ir (q_r f301 v1 2) m1 := Eq.trans (hF.r hv1 (by rw [kv1]; rfl)) hr14
      have z328 : q_ir (q_r f301 v3 0) n3 := Eq.trans (hF.r hv3 (by rw [kv3]; rfl)) hr15
      have z329 : q_ir (q_r f301 v3 1) l3 := Eq.trans (hF.r hv3 (by rw [kv3]; rfl)) hr16
      have z330 : q_ir (q_r f301 v3 2) m3 := Eq.trans (hF.r hv3 (by rw [kv3]; rfl)) hr17
      have g331 : tw_hk K L f301 ka A9 D9 S9 := tw_hk_tr hhk (fun a9 h9 k9 i9 => hF a9 h9 i9 (tw_krw rfl k9))
      have g332 : ∃ s9 : tw_S, tw_vw K L 15 19 23 27 f301 v3 n3 l3 m3 d3 s9 := tw_ex_tr he3 (fun a9 h9 k9 c9 => hF.z h9 (by rw [k9]; rfl)) (fun a9 h9 k9 c9 => hF.z h9 (by rw [k9]; rfl)) (fun a9 h9 k9 c9 => hF.z h9 (by rw [k9]; rfl)) (fun a9 h9 k9 c9 => hF.z h9 (by rw [k9]; rfl)) (fun i9 => hF.r hn3 (by rw [kn3]; rfl)) (fun i9 => hF.r hl3 (by rw [kl3]; rfl)) (fun i9 => hF.r hm3 (by rw [km3]; rfl))
      have g333 : tw_nw K L 19 f301 := tw_nw_tr hz3 (fun a9 h9 k9 => hF.j h9 (by rw [k9]; rfl))
      subst qy302
      refine q_ifeq (tgt := 24) cx ⟨by decide, by decide⟩ dX11_undo_11 (by decide) (fun c334 => ?_) (fun c334 => ?_)
      · exact absurd c334 (by omega)
      · refine q_ald_n cx dX11_undo_14 rfl (lv_at hl 0 rfl) ?_
        refine q_gX11_40 cx hB hx kx z316 dX11_undo_15 (fun hb335 kb335 => ?_)
        refine q_gX11_122 cx hB hhist khist z305 dX11_undo_18 (fun lb336 ub336 => ?_)
        refine lv_goto (tgt := 25) cx.1 cx.2.1 dX11_undo_21 (by decide) ?_
        refine q_iret cx hr hlk hB dX11_undo_25 ⟨by omega, by omega⟩ ?_
        exact ⟨rfl, z305, z306, z307, z308, z309, (Eq.trans z304 (by have e9 : sl = 1 := by omega; rw [e9]; rfl)), (tw_cg g310 (by have e9 : sl = 1 := by omega; rw [e9]; rfl)), g311, g312⟩
    · by_cases c337 : sl ≤ 2
      · refine q_cVi (As := [.ref v0]) (rest := []) cx hB (fun _ h => h) hN hhist khist (by decide) rfl (f_takeBack_2 l g hN hB.2.1 d0 s0 A9 D9 S9 hist hhist khist v0 hv0 kv0 n0 hn0 kn0 l0 hl0 kl0 m0 hm0 km0 ka hka kka tm (by omega) (by omega) nn (by omega) (by omega) ln (by omega) (by omega) mn (by omega) (by omega) my (by omega) (by omega) tk (by omega) (by omega) nk (by omega) (by omega) lk (by omega) (by omega) mk (by omega) (by omega) hf0 hf1 hf2 hf3 (Eq.trans hf5 (by omega)) hf6 hr7 hr9 hr10 hr11 (by have e9 : sl = 2 := by omega; have h9 := hp0; rw [e9] at h9; exact h9) (by have e9 : sl = 2 := by omega; have h9 := hp1; rw [e9] at h9; exact h9) (by have e9 : sl = 2 := by omega; have h9 := hp2; rw [e9] at h9; exact h9) (by have e9 : sl = 2 := by omega; have h9 := hp3; rw [e9] at h9; exact h9) hw0 hz0 hhk) q_cX11_325 q_dX2_takeBack (by decide) rfl rfl hl.1 rfl (Nat.le_of_ble_eq_true rfl) dX11_undo_8 (fun y339 H locs f338 ry339 h340 hF hB => ?_)
        obtain ⟨qy339, z341, z342, z343, z344, z345, z346, g347, g348, g349⟩ := h340
        have z350 : q_ir (q_r f338 x 0) so := Eq.trans (hF.r hx (by rw [kx]; rfl)) hr0
        have z351 : q_ir (q_r f338 x 1) rd := Eq.trans (hF.r hx (by rw [kx]; rfl)) hr1
        have z352 : q_ir (q_r f338 x 3) fc := Eq.trans (hF.r hx (by rw [kx]; rfl)) hr2
        have z353 : q_ir (q_r f338 x 4) hist := Eq.trans (hF.r hx (by rw [kx]; rfl)) hr3
        have z354 : q_ir (q_r f338 x 6) v0 := Eq.trans (hF.r hx (by rw [kx]; rfl)) hr4
        have z355 : q_ir (q_r f338 x 7) v1 := Eq.trans (hF.r hx (by rw [kx]; rfl)) hr5
        have z356 : q_ir (q_r f338 so 0) ba := Eq.trans (hF.r hso (by rw [kso]; rfl)) hr6
        have z357 : q_ir (q_r f338 hist 0) ka := Eq.trans (hF.r hhist (by rw [khist]; rfl)) hr7
        have z358 : q_ir (q_r f338 fc 0) v3 := Eq.trans (hF.r hfc (by rw [kfc]; rfl)) hr8
        have z359 : q_ir (q_r f338 v0 0) n0 := Eq.trans (hF.r hv0 (by rw [kv0]; rfl)) hr9
        have z360 : q_ir (q_r f338 v0 1) l0 := Eq.trans (hF.r hv0 (by rw [kv0]; rfl)) hr10
        have z361 : q_ir (q_r f338 v0 2) m0 := Eq.trans (hF.r hv0 (by rw [kv0]; rfl)) hr11
        have z362 : q_ir (q_r f338 v1 0) n1 := Eq.trans (hF.r hv1 (by rw [kv1]; rfl)) hr12
        have z363 : q_ir (q_r f338 v1 1) l1 := Eq.trans (hF.r hv1 (by rw [kv1]; rfl)) hr13
        have z364 : q_ir (q_r f338 v1 2) m1 := Eq.trans (hF.r hv1 (by rw [kv1]; rfl)) hr14
        have z365 : q_ir (q_r f338 v3 0) n3 := Eq.trans (hF.r hv3 (by rw [kv3]; rfl)) hr15
        have z366 : q_ir (q_r f338 v3 1) l3 := Eq.trans (hF.r hv3 (by rw [kv3]; rfl)) hr16
        have z367 : q_ir (q_r f338 v3 2) m3 := Eq.trans (hF.r hv3 (by rw [kv3]; rfl)) hr17
        have g368 : tw_hk K L f338 ka A9 D9 S9 := tw_hk_tr hhk (fun a9 h9 k9 i9 => hF a9 h9 i9 (tw_krw rfl k9))
        have g369 : ∃ s9 : tw_S, tw_vw K L 15 19 23 27 f338 v3 n3 l3 m3 d3 s9 := tw_ex_tr he3 (fun a9 h9 k9 c9 => hF.z h9 (by rw [k9]; rfl)) (fun a9 h9 k9 c9 => hF.z h9 (by rw [k9]; rfl)) (fun a9 h9 k9 c9 => hF.z h9 (by rw [k9]; rfl)) (fun a9 h9 k9 c9 => hF.z h9 (by rw [k9]; rfl)) (fun i9 => hF.r hn3 (by rw [kn3]; rfl)) (fun i9 => hF.r hl3 (by rw [kl3]; rfl)) (fun i9 => hF.r hm3 (by rw [km3]; rfl))
        have g370 : tw_nw K L 19 f338 := tw_nw_tr hz3 (fun a9 h9 k9 => hF.j h9 (by rw [k9]; rfl))
        subst qy339
        refine q_ifeq (tgt := 24) cx ⟨by decide, by decide⟩ dX11_undo_11 (by decide) (fun c371 => ?_) (fun c371 => ?_)
        · exact absurd c371 (by omega)
        · refine q_ald_n cx dX11_undo_14 rfl (lv_at hl 0 rfl) ?_
          refine q_gX11_40 cx hB hx kx z353 dX11_undo_15 (fun hb372 kb372 => ?_)
          refine q_gX11_122 cx hB hhist khist z342 dX11_undo_18 (fun lb373 ub373 => ?_)
          refine lv_goto (tgt := 25) cx.1 cx.2.1 dX11_undo_21 (by decide) ?_
          refine q_iret cx hr hlk hB dX11_undo_25 ⟨by omega, by omega⟩ ?_
          exact ⟨rfl, z342, z343, z344, z345, z346, (Eq.trans z341 (by have e9 : sl = 2 := by omega; rw [e9]; rfl)), (tw_cg g347 (by have e9 : sl = 2 := by omega; rw [e9]; rfl)), g348, g349⟩
      · by_cases c374 : sl ≤ 3
        · refine q_cVi (As := [.ref v0]) (rest := []) cx hB (fun _ h => h) hN hhist khist (by decide) rfl (f_takeBack_3 l g hN hB.2.1 d0 s0 A9 D9 S9 hist hhist khist v0 hv0 kv0 n0 hn0 kn0 l0 hl0 kl0 m0 hm0 km0 ka hka kka tm (by omega) (by omega) nn (by omega) (by omega) ln (by omega) (by omega) mn (by omega) (by omega) my (by omega) (by omega) tk (by omega) (by omega) nk (by omega) (by omega) lk (by omega) (by omega) mk (by omega) (by omega) hf0 hf1 hf2 hf3 (Eq.trans hf5 (by omega)) hf6 hr7 hr9 hr10 hr11 (by have e9 : sl = 3 := by omega; have h9 := hp0; rw [e9] at h9; exact h9) (by have e9 : sl = 3 := by omega; have h9 := hp1; rw [e9] at h9; exact h9) (by have e9 : sl = 3 := by omega; have h9 := hp2; rw [e9] at h9; exact h9) (by have e9 : sl = 3 := by omega; have h9 := hp3; rw [e9] at h9; exact h9) hw0 hz0 hhk) q_cX11_325 q_dX2_takeBack (by decide) rfl rfl hl.1 rfl (Nat.le_of_ble_eq_true rfl) dX11_undo_8 (fun y376 H locs f375 ry376 h377 hF hB => ?_)
          obtain ⟨qy376, z378, z379, z380, z381, z382, z383, g384, g385, g386⟩ := h377
          have z387 : q_ir (q_r f375 x 0) so := Eq.trans (hF.r hx (by rw [kx]; rfl)) hr0
          have z388 : q_ir (q_r f375 x 1) rd := Eq.trans (hF.r hx (by rw [kx]; rfl)) hr1
          have z389 : q_ir (q_r f375 x 3) fc := Eq.trans (hF.r hx (by rw [kx]; rfl)) hr2
          have z390 : q_ir (q_r f375 x 4) hist := Eq.trans (hF.r hx (by rw [kx]; rfl)) hr3
          have z391 : q_ir (q_r f375 x 6) v0 := Eq.trans (hF.r hx (by rw [kx]; rfl)) hr4
          have z392 : q_ir (q_r f375 x 7) v1 := Eq.trans (hF.r hx (by rw [kx]; rfl)) hr5
          have z393 : q_ir (q_r f375 so 0) ba := Eq.trans (hF.r hso (by rw [kso]; rfl)) hr6
          have z394 : q_ir (q_r f375 hist 0) ka := Eq.trans (hF.r hhist (by rw [khist]; rfl)) hr7
          have z395 : q_ir (q_r f375 fc 0) v3 := Eq.trans (hF.r hfc (by rw [kfc]; rfl)) hr8
          have z396 : q_ir (q_r f375 v0 0) n0 := Eq.trans (hF.r hv0 (by rw [kv0]; rfl)) hr9
          have z397 : q_ir (q_r f375 v0 1) l0 := Eq.trans (hF.r hv0 (by rw [kv0]; rfl)) hr10
          have z398 : q_ir (q_r f375 v0 2) m0 := Eq.trans (hF.r hv0 (by rw [kv0]; rfl)) hr11
          have z399 : q_ir (q_r f375 v1 0) n1 := Eq.trans (hF.r hv1 (by rw [kv1]; rfl)) hr12
          have z400 : q_ir (q_r f375 v1 1) l1 := Eq.trans (hF.r hv1 (by rw [kv1]; rfl)) hr13
          have z401 : q_ir (q_r f375 v1 2) m1 := Eq.trans (hF.r hv1 (by rw [kv1]; rfl)) hr14
          have z402 : q_ir (q_r f375 v3 0) n3 := Eq.trans (hF.r hv3 (by rw [kv3]; rfl)) hr15
          have z403 : q_ir (q_r f375 v3 1) l3 := Eq.trans (hF.r hv3 (by rw [kv3]; rfl)) hr16
          have z404 : q_ir (q_r f375 v3 2) m3 := Eq.trans (hF.r hv3 (by rw [kv3]; rfl)) hr17
          have g405 : tw_hk K L f375 ka A9 D9 S9 := tw_hk_tr hhk (fun a9 h9 k9 i9 => hF a9 h9 i9 (tw_krw rfl k9))
          have g406 : ∃ s9 : tw_S, tw_vw K L 15 19 23 27 f375 v3 n3 l3 m3 d3 s9 := tw_ex_tr he3 (fun a9 h9 k9 c9 => hF.z h9 (by rw [k9]; rfl)) (fun a9 h9 k9 c9 => hF.z h9 (by rw [k9]; rfl)) (fun a9 h9 k9 c9 => hF.z h9 (by rw [k9]; rfl)) (fun a9 h9 k9 c9 => hF.z h9 (by rw [k9]; rfl)) (fun i9 => hF.r hn3 (by rw [kn3]; rfl)) (fun i9 => hF.r hl3 (by rw [kl3]; rfl)) (fun i9 => hF.r hm3 (by rw [km3]; rfl))
          have g407 : tw_nw K L 19 f375 := tw_nw_tr hz3 (fun a9 h9 k9 => hF.j h9 (by rw [k9]; rfl))
          subst qy376
          refine q_ifeq (tgt := 24) cx ⟨by decide, by decide⟩ dX11_undo_11 (by decide) (fun c408 => ?_) (fun c408 => ?_)
          · exact absurd c408 (by omega)
          · refine q_ald_n cx dX11_undo_14 rfl (lv_at hl 0 rfl) ?_
            refine q_gX11_40 cx hB hx kx z390 dX11_undo_15 (fun hb409 kb409 => ?_)
            refine q_gX11_122 cx hB hhist khist z379 dX11_undo_18 (fun lb410 ub410 => ?_)
            refine lv_goto (tgt := 25) cx.1 cx.2.1 dX11_undo_21 (by decide) ?_
            refine q_iret cx hr hlk hB dX11_undo_25 ⟨by omega, by omega⟩ ?_
            exact ⟨rfl, z379, z380, z381, z382, z383, (Eq.trans z378 (by have e9 : sl = 3 := by omega; rw [e9]; rfl)), (tw_cg g384 (by have e9 : sl = 3 := by omega; rw [e9]; rfl)), g385, g386⟩
        · by_cases c411 : sl ≤ 4
          · refine q_cVi (As := [.ref v0]) (rest := []) cx hB (fun _ h => h) hN hhist khist (by decide) rfl (f_takeBack_4 l g hN hB.2.1 d0 s0 A9 D9 S9 hist hhist khist v0 hv0 kv0 n0 hn0 kn0 l0 hl0 kl0 m0 hm0 km0 ka hka kka tm (by omega) (by omega) nn (by omega) (by omega) ln (by omega) (by omega) mn (by omega) (by omega) my (by omega) (by omega) tk (by omega) (by omega) nk (by omega) (by omega) lk (by omega) (by omega) mk (by omega) (by omega) hf0 hf1 hf2 hf3 (Eq.trans hf5 (by omega)) hf6 hr7 hr9 hr10 hr11 (by have e9 : sl = 4 := by omega; have h9 := hp0; rw [e9] at h9; exact h9) (by have e9 : sl = 4 := by omega; have h9 := hp1; rw [e9] at h9; exact h9) (by have e9 : sl = 4 := by omega; have h9 := hp2; rw [e9] at h9; exact h9) (by have e9 : sl = 4 := by omega; have h9 := hp3; rw [e9] at h9; exact h9) hw0 hz0 hhk) q_cX11_325 q_dX2_takeBack (by decide) rfl rfl hl.1 rfl (Nat.le_of_ble_eq_true rfl) dX11_undo_8 (fun y413 H locs f412 ry413 h414 hF hB => ?_)
            obtain ⟨qy413, z415, z416, z417, z418, z419, z420, g421, g422, g423⟩ := h414
            have z424 : q_ir (q_r f412 x 0) so := Eq.trans (hF.r hx (by rw [kx]; rfl)) hr0
            have z425 : q_ir (q_r f412 x 1) rd := Eq.trans (hF.r hx (by rw [kx]; rfl)) hr1
            have z426 : q_ir (q_r f412 x 3) fc := Eq.trans (hF.r hx (by rw [kx]; rfl)) hr2
            have z427 : q_ir (q_r f412 x 4) hist := Eq.trans (hF.r hx (by rw [kx]; rfl)) hr3
            have z428 : q_ir (q_r f412 x 6) v0 := Eq.trans (hF.r hx (by rw [kx]; rfl)) hr4
            have z429 : q_ir (q_r f412 x 7) v1 := Eq.trans (hF.r hx (by rw [kx]; rfl)) hr5
            have z430 : q_ir (q_r f412 so 0) ba := Eq.trans (hF.r hso (by rw [kso]; rfl)) hr6
            have z431 : q_ir (q_r f412 hist 0) ka := Eq.trans (hF.r hhist (by rw [khist]; rfl)) hr7
            have z432 : q_ir (q_r f412 fc 0) v3 := Eq.trans (hF.r hfc (by rw [kfc]; rfl)) hr8
            have z433 : q_ir (q_r f412 v0 0) n0 := Eq.trans (hF.r hv0 (by rw [kv0]; rfl)) hr9
            have z434 : q_ir (q_r f412 v0 1) l0 := Eq.trans (hF.r hv0 (by rw [kv0]; rfl)) hr10
            have z435 : q_ir (q_r f412 v0 2) m0 := Eq.trans (hF.r hv0 (by rw [kv0]; rfl)) hr11
            have z436 : q_ir (q_r f412 v1 0) n1 := Eq.trans (hF.r hv1 (by rw [kv1]; rfl)) hr12
            have z437 : q_ir (q_r f412 v1 1) l1 := Eq.trans (hF.r hv1 (by rw [kv1]; rfl)) hr13
            have z438 : q_ir (q_r f412 v1 2) m1 := Eq.trans (hF.r hv1 (by rw [kv1]; rfl)) hr14
            have z439 : q_ir (q_r f412 v3 0) n3 := Eq.trans (hF.r hv3 (by rw [kv3]; rfl)) hr15
            have z440 : q_ir (q_r f412 v3 1) l3 := Eq.trans (hF.r hv3 (by rw [kv3]; rfl)) hr16
            have z441 : q_ir (q_r f412 v3 2) m3 := Eq.trans (hF.r hv3 (by rw [kv3]; rfl)) hr17
            have g442 : tw_hk K L f412 ka A9 D9 S9 := tw_hk_tr hhk (fun a9 h9 k9 i9 => hF a9 h9 i9 (tw_krw rfl k9))
            have g443 : ∃ s9 : tw_S, tw_vw K L 15 19 23 27 f412 v3 n3 l3 m3 d3 s9 := tw_ex_tr he3 (fun a9 h9 k9 c9 => hF.z h9 (by rw [k9]; rfl)) (fun a9 h9 k9 c9 => hF.z h9 (by rw [k9]; rfl)) (fun a9 h9 k9 c9 => hF.z h9 (by rw [k9]; rfl)) (fun a9 h9 k9 c9 => hF.z h9 (by rw [k9]; rfl)) (fun i9 => hF.r hn3 (by rw [kn3]; rfl)) (fun i9 => hF.r hl3 (by rw [kl3]; rfl)) (fun i9 => hF.r hm3 (by rw [km3]; rfl))
            have g444 : tw_nw K L 19 f412 := tw_nw_tr hz3 (fun a9 h9 k9 => hF.j h9 (by rw [k9]; rfl))
            subst qy413
            refine q_ifeq (tgt := 24) cx ⟨by decide, by decide⟩ dX11_undo_11 (by decide) (fun c445 => ?_) (fun c445 => ?_)
            · exact absurd c445 (by omega)
            · refine q_ald_n cx dX11_undo_14 rfl (lv_at hl 0 rfl) ?_
              refine q_gX11_40 cx hB hx kx z427 dX11_undo_15 (fun hb446 kb446 => ?_)
              refine q_gX11_122 cx hB hhist khist z416 dX11_undo_18 (fun lb447 ub447 => ?_)
              refine lv_goto (tgt := 25) cx.1 cx.2.1 dX11_undo_21 (by decide) ?_
              refine q_iret cx hr hlk hB dX11_undo_25 ⟨by omega, by omega⟩ ?_
              exact ⟨rfl, z416, z417, z418, z419, z420, (Eq.trans z415 (by have e9 : sl = 4 := by omega; rw [e9]; rfl)), (tw_cg g421 (by have e9 : sl = 4 := by omega; rw [e9]; rfl)), g422, g423⟩
          · by_cases c448 : sl ≤ 5
            · refine q_cVi (As := [.ref v0]) (rest := []) cx hB (fun _ h => h) hN hhist khist (by decide) rfl (f_takeBack_5 l g hN hB.2.1 d0 s0 A9 D9 S9 hist hhist khist v0 hv0 kv0 n0 hn0 kn0 l0 hl0 kl0 m0 hm0 km0 ka hka kka tm (by omega) (by omega) nn (by omega) (by omega) ln (by omega) (by omega) mn (by omega) (by omega) my (by omega) (by omega) tk (by omega) (by omega) nk (by omega) (by omega) lk (by omega) (by omega) mk (by omega) (by omega) hf0 hf1 hf2 hf3 (Eq.trans hf5 (by omega)) hf6 hr7 hr9 hr10 hr11 (by have e9 : sl = 5 := by omega; have h9 := hp0; rw [e9] at h9; exact h9) (by have e9 : sl = 5 := by omega; have h9 := hp1; rw [e9] at h9; exact h9) (by have e9 : sl = 5 := by omega; have h9 := hp2; rw [e9] at h9; exact h9) (by have e9 : sl = 5 := by omega; have h9 := hp3; rw [e9] at h9; exact h9) hw0 hz0 hhk) q_cX11_325 q_dX2_takeBack (by decide) rfl rfl hl.1 rfl (Nat.le_of_ble_eq_true rfl) dX11_undo_8 (fun y450 H locs f449 ry450 h451 hF hB => ?_)
              obtain ⟨qy450, z452, z453, z454, z455, z456, z457, g458, g459, g460⟩ := h451
              have z461 : q_ir (q_r f449 x 0) so := Eq.trans (hF.r hx (by rw [kx]; rfl)) hr0
              have z462 : q_ir (q_r f449 x 1) rd := Eq.trans (hF.r hx (by rw [kx]; rfl)) hr1
              have z463 : q_ir (q_r f449 x 3) fc := Eq.trans (hF.r hx (by rw [kx]; rfl)) hr2
              have z464 : q_ir (q_r f449 x 4) hist := Eq.trans (hF.r hx (by rw [kx]; rfl)) hr3
              have z465 : q_ir (q_r f449 x 6) v0 := Eq.trans (hF.r hx (by rw [kx]; rfl)) hr4
              have z466 : q_ir (q_r f449 x 7) v1 := Eq.trans (hF.r hx (by rw [kx]; rfl)) hr5
              have z467 : q_ir (q_r f449 so 0) ba := Eq.trans (hF.r hso (by rw [kso]; rfl)) hr6
              have z468 : q_ir (q_r f449 hist 0) ka := Eq.trans (hF.r hhist (by rw [khist]; rfl)) hr7
              have z469 : q_ir (q_r f449 fc 0) v3 := Eq.trans (hF.r hfc (by rw [kfc]; rfl)) hr8
              have z470 : q_ir (q_r f449 v0 0) n0 := Eq.trans (hF.r hv0 (by rw [kv0]; rfl)) hr9
              have z471 : q_ir (q_r f449 v0 1) l0 := Eq.trans (hF.r hv0 (by rw [kv0]; rfl)) hr10
              have z472 : q_ir (q_r f449 v0 2) m0 := Eq.trans (hF.r hv0 (by rw [kv0]; rfl)) hr11
              have z473 : q_ir (q_r f449 v1 0) n1 := Eq.trans (hF.r hv1 (by rw [kv1]; rfl)) hr12
              have z474 : q_ir (q_r f449 v1 1) l1 := Eq.trans (hF.r hv1 (by rw [kv1]; rfl)) hr13
              have z475 : q_ir (q_r f449 v1 2) m1 := Eq.trans (hF.r hv1 (by rw [kv1]; rfl)) hr14
              have z476 : q_ir (q_r f449 v3 0) n3 := Eq.trans (hF.r hv3 (by rw [kv3]; rfl)) hr15
              have z477 : q_ir (q_r f449 v3 1) l3 := Eq.trans (hF.r hv3 (by rw [kv3]; rfl)) hr16
              have z478 : q_ir (q_r f449 v3 2) m3 := Eq.trans (hF.r hv3 (by rw [kv3]; rfl)) hr17
              have g479 : tw_hk K L f449 ka A9 D9 S9 := tw_hk_tr hhk (fun a9 h9 k9 i9 => hF a9 h9 i9 (tw_krw rfl k9))
              have g480 : ∃ s9 : tw_S, tw_vw K L 15 19 23 27 f449 v3 n3 l3 m3 d3 s9 := tw_ex_tr he3 (fun a9 h9 k9 c9 => hF.z h9 (by rw [k9]; rfl)) (fun a9 h9 k9 c9 => hF.z h9 (by rw [k9]; rfl)) (fun a9 h9 k9 c9 => hF.z h9 (by rw [k9]; rfl)) (fun a9 h9 k9 c9 => hF.z h9 (by rw [k9]; rfl)) (fun i9 => hF.r hn3 (by rw [kn3]; rfl)) (fun i9 => hF.r hl3 (by rw [kl3]; rfl)) (fun i9 => hF.r hm3 (by rw [km3]; rfl))
              have g481 : tw_nw K L 19 f449 := tw_nw_tr hz3 (fun a9 h9 k9 => hF.j h9 (by rw [k9]; rfl))
              subst qy450
              refine q_ifeq (tgt := 24) cx ⟨by decide, by decide⟩ dX11_undo_11 (by decide) (fun c482 => ?_) (fun c482 => ?_)
              · exact absurd c482 (by omega)
              · refine q_ald_n cx dX11_undo_14 rfl (lv_at hl 0 rfl) ?_
                refine q_gX11_40 cx hB hx kx z464 dX11_undo_15 (fun hb483 kb483 => ?_)
                refine q_gX11_122 cx hB hhist khist z453 dX11_undo_18 (fun lb484 ub484 => ?_)
                refine lv_goto (tgt := 25) cx.1 cx.2.1 dX11_undo_21 (by decide) ?_
                refine q_iret cx hr hlk hB dX11_undo_25 ⟨by omega, by omega⟩ ?_
                exact ⟨rfl, z453, z454, z455, z456, z457, (Eq.trans z452 (by have e9 : sl = 5 := by omega; rw [e9]; rfl)), (tw_cg g458 (by have e9 : sl = 5 := by omega; rw [e9]; rfl)), g459, g460⟩
            · refine q_cVi (As := [.ref v0]) (rest := []) cx hB (fun _ h => h) hN hhist khist (by decide) rfl (f_takeBack_6 l g hN hB.2.1 d0 s0 A9 D9 S9 hist hhist khist v0 hv0 kv0 n0 hn0 kn0 l0 hl0 kl0 m0 hm0 km0 ka hka kka tm (by omega) (by omega) nn (by omega) (by omega) ln (by omega) (by omega) mn (by omega) (by omega) my (by omega) (by omega) tk (by omega) (by omega) nk (by omega) (by omega) lk (by omega) (by omega) mk (by omega) (by omega) hf0 hf1 hf2 hf3 (Eq.trans hf5 (by omega)) hf6 hr7 hr9 hr10 hr11 (by have e9 : sl = 6 := by omega; have h9 := hp0; rw [e9] at h9; exact h9) (by have e9 : sl = 6 := by omega; have h9 := hp1; rw [e9] at h9; exact h9) (by have e9 : sl = 6 := by omega; have h9 := hp2; rw [e9] at h9; exact h9) (by have e9 : sl = 6 := by omega; have h9 := hp3; rw [e9] at h9; exact h9) hw0 hz0 hhk) q_cX11_325 q_dX2_takeBack (by decide) rfl rfl hl.1 rfl (Nat.le_of_ble_eq_true rfl) dX11_undo_8 (fun y486 H locs f485 ry486 h487 hF hB => ?_)
              obtain ⟨qy486, z488, z489, z490, z491, z492, z493, g494, g495, g496⟩ := h487
              have z497 : q_ir (q_r f485 x 0) so := Eq.trans (hF.r hx (by rw [kx]; rfl)) hr0
              have z498 : q_ir (q_r f485 x 1) rd := Eq.trans (hF.r hx (by rw [kx]; rfl)) hr1
              have z499 : q_ir (q_r f485 x 3) fc := Eq.trans (hF.r hx (by rw [kx]; rfl)) hr2
              have z500 : q_ir (q_r f485 x 4) hist := Eq.trans (hF.r hx (by rw [kx]; rfl)) hr3
              have z501 : q_ir (q_r f485 x 6) v0 := Eq.trans (hF.r hx (by rw [kx]; rfl)) hr4
              have z502 : q_ir (q_r f485 x 7) v1 := Eq.trans (hF.r hx (by rw [kx]; rfl)) hr5
              have z503 : q_ir (q_r f485 so 0) ba := Eq.trans (hF.r hso (by rw [kso]; rfl)) hr6
              have z504 : q_ir (q_r f485 hist 0) ka := Eq.trans (hF.r hhist (by rw [khist]; rfl)) hr7
              have z505 : q_ir (q_r f485 fc 0) v3 := Eq.trans (hF.r hfc (by rw [kfc]; rfl)) hr8
              have z506 : q_ir (q_r f485 v0 0) n0 := Eq.trans (hF.r hv0 (by rw [kv0]; rfl)) hr9
              have z507 : q_ir (q_r f485 v0 1) l0 := Eq.trans (hF.r hv0 (by rw [kv0]; rfl)) hr10
              have z508 : q_ir (q_r f485 v0 2) m0 := Eq.trans (hF.r hv0 (by rw [kv0]; rfl)) hr11
              have z509 : q_ir (q_r f485 v1 0) n1 := Eq.trans (hF.r hv1 (by rw [kv1]; rfl)) hr12
              have z510 : q_ir (q_r f485 v1 1) l1 := Eq.trans (hF.r hv1 (by rw [kv1]; rfl)) hr13
              have z511 : q_ir (q_r f485 v1 2) m1 := Eq.trans (hF.r hv1 (by rw [kv1]; rfl)) hr14
              have z512 : q_ir (q_r f485 v3 0) n3 := Eq.trans (hF.r hv3 (by rw [kv3]; rfl)) hr15
              have z513 : q_ir (q_r f485 v3 1) l3 := Eq.trans (hF.r hv3 (by rw [kv3]; rfl)) hr16
              have z514 : q_ir (q_r f485 v3 2) m3 := Eq.trans (hF.r hv3 (by rw [kv3]; rfl)) hr17
              have g515 : tw_hk K L f485 ka A9 D9 S9 := tw_hk_tr hhk (fun a9 h9 k9 i9 => hF a9 h9 i9 (tw_krw rfl k9))
              have g516 : ∃ s9 : tw_S, tw_vw K L 15 19 23 27 f485 v3 n3 l3 m3 d3 s9 := tw_ex_tr he3 (fun a9 h9 k9 c9 => hF.z h9 (by rw [k9]; rfl)) (fun a9 h9 k9 c9 => hF.z h9 (by rw [k9]; rfl)) (fun a9 h9 k9 c9 => hF.z h9 (by rw [k9]; rfl)) (fun a9 h9 k9 c9 => hF.z h9 (by rw [k9]; rfl)) (fun i9 => hF.r hn3 (by rw [kn3]; rfl)) (fun i9 => hF.r hl3 (by rw [kl3]; rfl)) (fun i9 => hF.r hm3 (by rw [km3]; rfl))
              have g517 : tw_nw K L 19 f485 := tw_nw_tr hz3 (fun a9 h9 k9 => hF.j h9 (by rw [k9]; rfl))
              subst qy486
              refine q_ifeq (tgt := 24) cx ⟨by decide, by decide⟩ dX11_undo_11 (by decide) (fun c518 => ?_) (fun c518 => ?_)
              · exact absurd c518 (by omega)
              · refine q_ald_n cx dX11_undo_14 rfl (lv_at hl 0 rfl) ?_
                refine q_gX11_40 cx hB hx kx z500 dX11_undo_15 (fun hb519 kb519 => ?_)
                refine q_gX11_122 cx hB hhist khist z489 dX11_undo_18 (fun lb520 ub520 => ?_)
                refine lv_goto (tgt := 25) cx.1 cx.2.1 dX11_undo_21 (by decide) ?_
                refine q_iret cx hr hlk hB dX11_undo_25 ⟨by omega, by omega⟩ ?_
                exact ⟨rfl, z489, z490, z491, z492, z493, (Eq.trans z488 (by have e9 : sl = 6 := by omega; rw [e9]; rfl)), (tw_cg g494 (by have e9 : sl = 6 := by omega; rw [e9]; rfl)), g495, g496⟩
