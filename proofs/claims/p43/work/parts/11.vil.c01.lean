set_option maxHeartbeats 4000000 in
set_option maxRecDepth 100000 in
theorem f_meetingIn0 (l : Launch) (g : q_G) {K : Nat → Nat} {L : List Nat} (hN : L.Nodup) {f : Nat → va_E} (hT : q_Ty g K L f) (d0 : Nat → Nat) (s0 : tw_S) (v0 : Nat) (hv0 : v0 ∈ L) (kv0 : K v0 = 10) (p0 : Int) (lp0 : 0 ≤ p0) (up0 : p0 ≤ 9) (p1 : Int) (lp1 : 0 ≤ p1) (up1 : p1 ≤ 59) (p2 : Int) (lp2 : 0 ≤ p2) (up2 : p2 ≤ 9) (n0 : Nat) (hn0 : n0 ∈ L) (kn0 : K n0 = 110) (l0 : Nat) (hl0 : l0 ∈ L) (kl0 : K l0 = 120) (m0 : Nat) (hm0 : m0 ∈ L) (km0 : K m0 = 130) (tm : Int) (ltm : 0 ≤ tm) (utm : tm ≤ 20000) (nn : Int) (lnn : 0 ≤ nn) (unn : nn ≤ 10) (yr : Int) (lyr : 4 ≤ yr) (uyr : yr ≤ 60) (hf0 : q_is (q_z f v0 11) tm) (hf1 : q_is (q_z f v0 3) nn) (hf2 : q_is (q_z f v0 6) yr) (hr0 : q_ir (q_r f v0 0) n0) (hr1 : q_ir (q_r f v0 1) l0) (hr2 : q_ir (q_r f v0 2) m0) (hw0 : tw_vw K L 10 5 3 4 f v0 n0 l0 m0 d0 s0) (hz0 : tw_nw K L 5 f) : q_Ct l g K L yX10_meetingIn cX10_meetingIn 5 (some .int) 3 69 [.ref v0, .int (q_i p0), .int (q_i p1), .int (q_i p2)] f [] (q_Pi (fun (z : Int) (f1 : Nat → va_E) => f = f1 ∧ (-1) ≤ z ∧ z ≤ 60 ∧ (z = tw_me s0 p0 p1 p2))) := by
  refine q_ofb (by decide +kernel) hN hT (Nat.le_of_ble_eq_true rfl) ?_
  intro p e s m below meth c ls cx hr hlk hB hl
  have hl : lv_has ls 5 [(0, .ref v0), (1, .int (q_i p0)), (2, .int (q_i p1)), (3, .int (q_i p2))] := hl
  have J3 : ∀ (n : Nat) (v3_1 : Int) (lv3_1 : 0 ≤ v3_1) (uv3_1 : v3_1 ≤ 9) (v3_2 : Int) (lv3_2 : 0 ≤ v3_2) (uv3_2 : v3_2 ≤ 59) (v3_3 : Int) (lv3_3 : 0 ≤ v3_3) (uv3_3 : v3_3 ≤ 9) (v3_4 : Int) (lv3_4 : 1 ≤ v3_4) (uv3_4 : v3_4 ≤ 61) (hj_v0_11 : q_is (q_z f v0 11) tm) (hj_v0_3 : q_is (q_z f v0 3) nn) (hj_v0_6 : q_is (q_z f v0 6) yr) (hq_v0_0 : q_ir (q_r f v0 0) n0) (hq_v0_1 : q_ir (q_r f v0 1) l0) (hq_v0_2 : q_ir (q_r f v0 2) m0) (hw03 : tw_vw K L 10 5 3 4 f v0 n0 l0 m0 d0 s0) (hz03 : tw_nw K L 5 f) (hrl3_0 : 0 ≤ 1 * yr + -1 * v3_4 + 1) (hme : tw_me s0 p0 p1 p2 = tw_mel s0 p0 p1 p2 (Int.toNat (s0 0 6 + 1 - v3_4)) v3_4) (hmu : (Int.toNat (70 - v3_4)) < n) (H : Heap) (locs : List Loc) (hB : q_B g K L (fun q => q ∈ L) [] f f s H locs) (ls : Array Slot) (hl : lv_has ls 5 [(0, .ref v0), (1, .int (q_i v3_1)), (2, .int (q_i v3_2)), (3, .int (q_i v3_3)), (4, .int (q_i v3_4))]), W p l e { frames := 3, cells := 0, slots := 0, locals := 69 } s m ([.ref v0, .int (q_i p0), .int (q_i p1), .int (q_i p2)] : List Value).toArray below meth c H locs 0 0 (MQ below (q_Q g K L [] f (q_Pi (fun (z : Int) (f1 : Nat → va_E) => f = f1 ∧ (-1) ≤ z ∧ z ≤ 60 ∧ (z = tw_me s0 p0 p1 p2)))) ([.ref v0, .int (q_i p0), .int (q_i p1), .int (q_i p2)] : List Value).toArray s 0 0 (fun q => q ∈ L)) (F0 m 3 ls []) := by
    intro n
    induction n with
    | zero =>
      intro v3_1 lv3_1 uv3_1 v3_2 lv3_2 uv3_2 v3_3 lv3_3 uv3_3 v3_4 lv3_4 uv3_4 hj_v0_11 hj_v0_3 hj_v0_6 hq_v0_0 hq_v0_1 hq_v0_2 hw03 hz03 hrl3_0 hme hmu
      exact absurd hmu (Nat.not_lt_zero _)
    | succ n ih3 =>
      intro v3_1 lv3_1 uv3_1 v3_2 lv3_2 uv3_2 v3_3 lv3_3 uv3_3 v3_4 lv3_4 uv3_4 hj_v0_11 hj_v0_3 hj_v0_6 hq_v0_0 hq_v0_1 hq_v0_2 hw03 hz03 hrl3_0 hme hmu H locs hB ls hl
      refine lv_iload cx.1 cx.2.1 dX10_meetingIn_3 (lv_at hl 4 rfl) ?_
      refine q_ald_n cx dX10_meetingIn_5 rfl (lv_at hl 0 rfl) ?_
      obtain ⟨x29, ex29, nx29⟩ : ∃ zz, q_is (q_z f v0 6) zz ∧ zz = yr := ⟨_, hj_v0_6, rfl⟩
      have sx29 : q_is x29 (s0 0 6) := tw_g hw03 (tw_v0 hw0) (by omega) (by omega) ex29
      refine q_gX10_45 cx hB hv0 kv0 ex29 dX10_meetingIn_6 (fun lb30 ub30 => ?_)
      refine q_icgt (tgt := 50) cx ⟨by omega, by omega⟩ ⟨by omega, by omega⟩ dX10_meetingIn_9 (by decide) (fun c31 => ?_) (fun c31 => ?_)
      · refine q_iconst cx dX10_meetingIn_50 ?_
        refine q_iret cx hr hlk hB dX10_meetingIn_51 ⟨by decide, by decide⟩ ?_
        exact ⟨rfl, (by decide), (by decide), (by have t0_ : x29 = s0 0 6 := sx29; refine Eq.symm (hme.trans (tw_mel_e (by omega))))⟩
      · refine q_ald_n cx dX10_meetingIn_12 rfl (lv_at hl 0 rfl) ?_
        refine q_ild_n cx dX10_meetingIn_13 rfl (lv_at hl 1 rfl) ?_
        refine q_ild_n cx dX10_meetingIn_14 rfl (lv_at hl 2 rfl) ?_
        refine lv_iload cx.1 cx.2.1 dX10_meetingIn_15 (lv_at hl 4 rfl) ?_
        refine q_cVi (As := [.int (q_i v3_1), .int (q_i v3_2), .int (q_i v3_4)]) (rest := []) cx hB (fun _ h => h) hN hv0 kv0 (by decide) rfl (f_wakesAfter0 l g hN hB.2.1 d0 s0 v0 hv0 kv0 v3_1 (by omega) (by omega) v3_2 (by omega) (by omega) v3_4 (by omega) (by omega) n0 hn0 kn0 l0 hl0 kl0 m0 hm0 km0 tm (by omega) (by omega) nn (by omega) (by omega) hj_v0_11 hj_v0_3 hq_v0_0 hq_v0_1 hq_v0_2 hw03 hz03) q_cX10_214 q_dX10_wakesAfter (by decide) rfl rfl hl.1 rfl (Nat.le_of_ble_eq_true rfl) dX10_meetingIn_17 (fun y33 H locs f32 ry33 h34 hF hB => ?_)
        rcases h34 with h35 | h36
        · obtain ⟨rfl, qy33, t37⟩ := h35
          subst qy33
          refine q_ifeq (tgt := 44) cx ⟨by decide, by decide⟩ dX10_meetingIn_20 (by decide) (fun c38 => ?_) (fun c38 => ?_)
          · exact absurd c38 (by omega)
          · refine q_ald_n cx dX10_meetingIn_23 rfl (lv_at hl 0 rfl) ?_
            refine q_ild_n cx dX10_meetingIn_24 rfl (lv_at hl 3 rfl) ?_
            refine q_ald_n cx dX10_meetingIn_25 rfl (lv_at hl 0 rfl) ?_
            refine q_ild_n cx dX10_meetingIn_26 rfl (lv_at hl 3 rfl) ?_
            refine q_cVr (As := [.int (q_i v3_3)]) (rest := [.int (q_i v3_3), .ref v0]) cx hB (fun _ h => h) hN hv0 kv0 (by decide) rfl (f_nodeAt0 l g hN hB.2.1 d0 s0 v0 hv0 kv0 v3_3 (by omega) (by omega) n0 hn0 kn0 l0 hl0 kl0 m0 hm0 km0 hq_v0_0 hq_v0_1 hq_v0_2 hw03) q_cX10_66 q_dX10_nodeAt (by decide) rfl rfl hl.1 rfl (Nat.le_of_ble_eq_true rfl) dX10_meetingIn_27 (fun y40 H locs f39 h41 hF hB => ?_)
            obtain ⟨rfl, hy40, ky40, t42⟩ := h41
            obtain ⟨x43, ex43⟩ : ∃ zz, q_is (q_z f y40 3) zz := ⟨_, q_isr _⟩
            obtain ⟨lx43, ux43⟩ := q_isb ex43 (q_fib hB.2.1 hy40 ky40 (by decide) rfl)
            obtain ⟨x44, ex44, nx44⟩ : ∃ zz, q_is (q_z f y40 3) zz ∧ zz = x43 := ⟨_, ex43, rfl⟩
            have sx44 : q_is x44 (s0 (1 + Int.toNat v3_3) 3) := tw_g hw03 t42 (by omega) (by omega) ex44
            refine q_gX10_98 cx hB hy40 ky40 ex44 dX10_meetingIn_30 (fun lb45 ub45 => ?_)
            refine lv_iload cx.1 cx.2.1 dX10_meetingIn_33 (lv_at hl 4 rfl) ?_
            refine q_cVi (As := [.int (q_i v3_3), .int (q_i x44), .int (q_i v3_4)]) (rest := []) cx hB (fun _ h => h) hN hv0 kv0 (by decide) rfl (f_wakesAfter0 l g hN hB.2.1 d0 s0 v0 hv0 kv0 v3_3 (by omega) (by omega) x44 (by omega) (by omega) v3_4 (by omega) (by omega) n0 hn0 kn0 l0 hl0 kl0 m0 hm0 km0 tm (by omega) (by omega) nn (by omega) (by omega) hj_v0_11 hj_v0_3 hq_v0_0 hq_v0_1 hq_v0_2 hw03 hz03) q_cX10_214 q_dX10_wakesAfter (by decide) rfl rfl hl.1 rfl (Nat.le_of_ble_eq_true rfl) dX10_meetingIn_35 (fun y47 H locs f46 ry47 h48 hF hB => ?_)
            rcases h48 with h49 | h50
            · obtain ⟨rfl, qy47, t51⟩ := h49
              subst qy47
              refine q_ifeq (tgt := 44) cx ⟨by decide, by decide⟩ dX10_meetingIn_38 (by decide) (fun c52 => ?_) (fun c52 => ?_)
              · exact absurd c52 (by omega)
              · refine lv_iload cx.1 cx.2.1 dX10_meetingIn_41 (lv_at hl 4 rfl) ?_
                refine q_iret cx hr hlk hB dX10_meetingIn_43 ⟨by omega, by omega⟩ ?_
                exact ⟨rfl, (by omega), (by omega), (by have t0_ : x29 = s0 0 6 := sx29; have t1_ : x44 = s0 (1 + Int.toNat v3_3) 3 := sx44; have u0_ : tw_wa s0 v3_1 v3_2 v3_4 = 1 := t37; have u1_ : tw_wa s0 v3_3 (s0 (1 + Int.toNat v3_3) 3) v3_4 = 1 := (by have e9 := t51; simp only [t1_] at e9; exact e9); refine Eq.symm (hme.trans ?_); rw [tw_mel_s (by omega)]; (repeat' split) <;> first | rfl | (exfalso; omega))⟩
            · obtain ⟨rfl, qy47, t53⟩ := h50
              subst qy47
              refine q_ifeq (tgt := 44) cx ⟨by decide, by decide⟩ dX10_meetingIn_38 (by decide) (fun c54 => ?_) (fun c54 => ?_)
              · refine q_iinc (lv' := [(4, .int (q_i (v3_4 + 1))), (0, .ref v0), (1, .int (q_i v3_1)), (2, .int (q_i v3_2)), (3, .int (q_i v3_3))]) cx dX10_meetingIn_44 hl (k := 4) rfl (by decide) rfl (fun ls hl => ?_)
                refine lv_goto (tgt := 3) cx.1 cx.2.1 dX10_meetingIn_47 (by decide) ?_
                exact ih3 v3_1 (by omega) (by omega) v3_2 (by omega) (by omega) v3_3 (by omega) (by omega) (v3_4 + 1) (by omega) (by omega) hj_v0_11 hj_v0_3 hj_v0_6 hq_v0_0 hq_v0_1 hq_v0_2 hw03 hz03 (by omega) (by have t0_ : x29 = s0 0 6 := sx29; have t1_ : x44 = s0 (1 + Int.toNat v3_3) 3 := sx44; have u0_ : tw_wa s0 v3_1 v3_2 v3_4 = 1 := t37; have u1_ : tw_wa s0 v3_3 (s0 (1 + Int.toNat v3_3) 3) v3_4 = 0 := (by have e9 := t53; simp only [t1_] at e9; exact e9); refine hme.trans ?_; rw [tw_mel_s (by omega)]; (repeat' split) <;> first | rfl | (exfalso; omega)) (by omega) H locs hB ls (lv_sub hl [1, 2, 3, 4, 0] rfl)
              · exact absurd c54 (by omega)
        · obtain ⟨rfl, qy33, t55⟩ := h36
          subst qy33
          refine q_ifeq (tgt := 44) cx ⟨by decide, by decide⟩ dX10_meetingIn_20 (by decide) (fun c56 => ?_) (fun c56 => ?_)
          · refine q_iinc (lv' := [(4, .int (q_i (v3_4 + 1))), (0, .ref v0), (1, .int (q_i v3_1)), (2, .int (q_i v3_2)), (3, .int (q_i v3_3))]) cx dX10_meetingIn_44 hl (k := 4) rfl (by decide) rfl (fun ls hl => ?_)
            refine lv_goto (tgt := 3) cx.1 cx.2.1 dX10_meetingIn_47 (by decide) ?_
            exact ih3 v3_1 (by omega) (by omega) v3_2 (by omega) (by omega) v3_3 (by omega) (by omega) (v3_4 + 1) (by omega) (by omega) hj_v0_11 hj_v0_3 hj_v0_6 hq_v0_0 hq_v0_1 hq_v0_2 hw03 hz03 (by omega) (by have t0_ : x29 = s0 0 6 := sx29; have u0_ : tw_wa s0 v3_1 v3_2 v3_4 = 0 := t55; refine hme.trans ?_; rw [tw_mel_s (by omega)]; (repeat' split) <;> first | rfl | (exfalso; omega)) (by omega) H locs hB ls (lv_sub hl [1, 2, 3, 4, 0] rfl)
          · exact absurd c56 (by omega)
  obtain ⟨H, hH⟩ : ∃ H : Heap, H = s.heap := ⟨_, rfl⟩
  obtain ⟨locs, hlocs⟩ : ∃ z : List Loc, z = [] := ⟨_, rfl⟩
  rw [← hH, ← hlocs] at hB
  rw [← hH, ← hlocs]
  refine q_iconst cx dX10_meetingIn_0 ?_
  refine lv_istore (lv' := [(4, .int (q_i 1)), (0, .ref v0), (1, .int (q_i p0)), (2, .int (q_i p1)), (3, .int (q_i p2))]) cx.1 cx.2.1 dX10_meetingIn_1 hl (by decide) rfl (fun ls hl => ?_)
  exact J3 ((Int.toNat (70 - 1)) + 1) p0 (by omega) (by omega) p1 (by omega) (by omega) p2 (by omega) (by omega) 1 (by decide) (by decide) hf0 hf1 hf2 hr0 hr1 hr2 hw0 hz0 (by omega) (congrArg (fun q9 => tw_mel s0 p0 p1 p2 q9 1) (by omega)) (Nat.lt_succ_self _) H locs hB ls (lv_sub hl [1, 2, 3, 4, 0] rfl)
set_option maxHeartbeats 4000000 in
set_option maxRecDepth 100000 in
theorem f_grown0 (l : Launch) (g : q_G) {K : Nat → Nat} {L : List Nat} (hN : L.Nodup) {f : Nat → va_E} (hT : q_Ty g K L f) (d0 : Nat → Nat) (s0 : tw_S) (v0 : Nat) (hv0 : v0 ∈ L) (kv0 : K v0 = 10) (p0 : Int) (lp0 : (-2147483648) ≤ p0) (up0 : p0 ≤ 2147483647) (p1 : Int) (lp1 : (-2147483648) ≤ p1) (up1 : p1 ≤ 2147483647) (n0 : Nat) (hn0 : n0 ∈ L) (kn0 : K n0 = 110) (l0 : Nat) (hl0 : l0 ∈ L) (kl0 : K l0 = 120) (m0 : Nat) (hm0 : m0 ∈ L) (km0 : K m0 = 130) (nn : Int) (lnn : 0 ≤ nn) (unn : nn ≤ 10) (hf0 : q_is (q_z f v0 3) nn) (hr0 : q_ir (q_r f v0 0) n0) (hr1 : q_ir (q_r f v0 1) l0) (hr2 : q_ir (q_r f v0 2) m0) (hw0 : tw_vw K L 10 5 3 4 f v0 n0 l0 m0 d0 s0) : q_Ct l g K L yX10_grown cX10_grown 5 (some .int) 0 0 [.ref v0, .int (q_i p0), .int (q_i p1)] f [] (q_Pi (fun (z : Int) (f1 : Nat → va_E) => f = f1 ∧ (z = tw_gr s0 p0 p1))) := by
  refine q_ofb (by decide +kernel) hN hT (Nat.le_of_ble_eq_true rfl) ?_
  intro p e s m below meth c ls cx hr hlk hB hl
  have hl : lv_has ls 5 [(0, .ref v0), (1, .int (q_i p0)), (2, .int (q_i p1))] := hl
  have J5 : ∀ (n : Nat) (v5_1 : Int) (lv5_1 : (-2147483648) ≤ v5_1) (uv5_1 : v5_1 ≤ 2147483647) (v5_2 : Int) (lv5_2 : (-2147483648) ≤ v5_2) (uv5_2 : v5_2 ≤ 2147483647) (v5_3 : Int) (lv5_3 : (-2147483648) ≤ v5_3) (uv5_3 : v5_3 ≤ 2147483647) (v5_4 : Int) (lv5_4 : 0 ≤ v5_4) (uv5_4 : v5_4 ≤ 10) (hj_v0_3 : q_is (q_z f v0 3) nn) (hq_v0_0 : q_ir (q_r f v0 0) n0) (hq_v0_1 : q_ir (q_r f v0 1) l0) (hq_v0_2 : q_ir (q_r f v0 2) m0) (hw05 : tw_vw K L 10 5 3 4 f v0 n0 l0 m0 d0 s0) (hrl5_0 : 0 ≤ 1 * nn + -1 * v5_4 + 0) (hac : v5_3 = tw_grl s0 p0 p1 (Int.toNat v5_4)) (hmu : (Int.toNat (2147483647 - v5_4)) < n) (H : Heap) (locs : List Loc) (hB : q_B g K L (fun q => q ∈ L) [] f f s H locs) (ls : Array Slot) (hl : lv_has ls 5 [(0, .ref v0), (1, .int (q_i v5_1)), (2, .int (q_i v5_2)), (3, .int (q_i v5_3)), (4, .int (q_i v5_4))]), W p l e { frames := 0, cells := 0, slots := 0, locals := 0 } s m ([.ref v0, .int (q_i p0), .int (q_i p1)] : List Value).toArray below meth c H locs 0 0 (MQ below (q_Q g K L [] f (q_Pi (fun (z : Int) (f1 : Nat → va_E) => f = f1 ∧ (z = tw_gr s0 p0 p1)))) ([.ref v0, .int (q_i p0), .int (q_i p1)] : List Value).toArray s 0 0 (fun q => q ∈ L)) (F0 m 5 ls []) := by
    intro n
    induction n with
    | zero =>
      intro v5_1 lv5_1 uv5_1 v5_2 lv5_2 uv5_2 v5_3 lv5_3 uv5_3 v5_4 lv5_4 uv5_4 hj_v0_3 hq_v0_0 hq_v0_1 hq_v0_2 hw05 hrl5_0 hac hmu
      exact absurd hmu (Nat.not_lt_zero _)
    | succ n ih5 =>
      intro v5_1 lv5_1 uv5_1 v5_2 lv5_2 uv5_2 v5_3 lv5_3 uv5_3 v5_4 lv5_4 uv5_4 hj_v0_3 hq_v0_0 hq_v0_1 hq_v0_2 hw05 hrl5_0 hac hmu H locs hB ls hl
      refine lv_iload cx.1 cx.2.1 dX10_grown_5 (lv_at hl 4 rfl) ?_
      refine q_ald_n cx dX10_grown_7 rfl (lv_at hl 0 rfl) ?_
      obtain ⟨x161, ex161, nx161⟩ : ∃ zz, q_is (q_z f v0 3) zz ∧ zz = nn := ⟨_, hj_v0_3, rfl⟩
      have sx161 : q_is x161 (s0 0 3) := tw_g hw05 (tw_v0 hw0) (by omega) (by omega) ex161
      refine q_gX10_35 cx hB hv0 kv0 ex161 dX10_grown_8 (fun lb162 ub162 => ?_)
      refine q_icge (tgt := 54) cx ⟨by omega, by omega⟩ ⟨by omega, by omega⟩ dX10_grown_11 (by decide) (fun c163 => ?_) (fun c163 => ?_)
      · refine q_ild_n cx dX10_grown_54 rfl (lv_at hl 3 rfl) ?_
        refine q_iret cx hr hlk hB dX10_grown_55 ⟨by omega, by omega⟩ ?_
        exact ⟨rfl, (by have t0_ : v5_3 = tw_grl s0 p0 p1 (Int.toNat v5_4) := hac; have t1_ : x161 = s0 0 3 := sx161; have e9 : v5_4 = s0 0 3 := by omega; rw [hac, e9]; rfl)⟩
      · refine lv_iload cx.1 cx.2.1 dX10_grown_14 (lv_at hl 4 rfl) ?_
        refine q_ald_n cx dX10_grown_16 rfl (lv_at hl 0 rfl) ?_
        refine q_gX10_13 cx hB hv0 kv0 hq_v0_0 dX10_grown_17 (fun hb164 kb164 => ?_)
        refine q_alen (n := 10) cx hB hn0 kn0 (by decide) rfl 7 rfl rfl dX10_grown_20 ?_
        refine q_icge (tgt := 48) cx ⟨by omega, by omega⟩ ⟨by decide, by decide⟩ dX10_grown_21 (by decide) (fun c165 => ?_) (fun c165 => ?_)
        · exact absurd c165 (by omega)
        · refine q_ild_n cx dX10_grown_24 rfl (lv_at hl 1 rfl) ?_
          refine lv_iload cx.1 cx.2.1 dX10_grown_25 (lv_at hl 4 rfl) ?_
          refine q_ishr cx dX10_grown_27 (fun y166 ry166 ey166 => ?_)
          refine q_iconst cx dX10_grown_28 ?_
          refine q_iandm cx 1 (by decide) rfl dX10_grown_29 (fun y167 ly167 uy167 ey167 => ?_)
          refine q_ifeq (tgt := 48) cx ⟨by omega, by omega⟩ dX10_grown_30 (by decide) (fun c168 => ?_) (fun c168 => ?_)
          · refine q_iinc (lv' := [(4, .int (q_i (v5_4 + 1))), (0, .ref v0), (1, .int (q_i v5_1)), (2, .int (q_i v5_2)), (3, .int (q_i v5_3))]) cx dX10_grown_48 hl (k := 4) rfl (by decide) rfl (fun ls hl => ?_)
            refine lv_goto (tgt := 5) cx.1 cx.2.1 dX10_grown_51 (by decide) ?_
            exact ih5 v5_1 (by omega) (by omega) v5_2 (by omega) (by omega) v5_3 (by omega) (by omega) (v5_4 + 1) (by omega) (by omega) hj_v0_3 hq_v0_0 hq_v0_1 hq_v0_2 hw05 (by omega) (by have t0_ : v5_3 = tw_grl s0 p0 p1 (Int.toNat v5_4) := hac; have t1_ : x161 = s0 0 3 := sx161; have t2_ : y166 = tw_sr v5_1 v5_4 := (tw_sr_of ry166 ey166); have t3_ : y167 = tw_an (tw_sr v5_1 v5_4) 1 := Eq.trans (tw_an_of ⟨by omega, by omega⟩ ey167) (by simp only [t2_]); (try simp only [t0_, t1_, t2_, t3_]); rw [tw_grl_s (by omega)]; (repeat' split) <;> first | rfl | (exfalso; omega)) (by omega) H locs hB ls (lv_sub hl [1, 2, 3, 4, 0] rfl)
          · refine q_ild_n cx dX10_grown_33 rfl (lv_at hl 3 rfl) ?_
            refine q_ald_n cx dX10_grown_34 rfl (lv_at hl 0 rfl) ?_
            refine q_gX10_13 cx hB hv0 kv0 hq_v0_0 dX10_grown_35 (fun hb169 kb169 => ?_)
            refine lv_iload cx.1 cx.2.1 dX10_grown_38 (lv_at hl 4 rfl) ?_
            obtain ⟨p170, ep170⟩ : ∃ zz, q_ir (q_r f n0 (Int.toNat v5_4)) zz := ⟨_, q_irr _⟩
            refine q_aald (k2 := 5) (n := 10) cx hB hn0 kn0 (by decide) rfl 7 rfl (by decide) rfl (by omega) (by omega) (by decide) rfl ep170 dX10_grown_40 (fun hb171 kb171 => ?_)
            obtain ⟨x172, ex172⟩ : ∃ zz, q_is (q_z f p170 5) zz := ⟨_, q_isr _⟩
            obtain ⟨lx172, ux172⟩ := q_isb ex172 (q_fib hB.2.1 hb171 kb171 (by decide) rfl)
            obtain ⟨x173, ex173, nx173⟩ : ∃ zz, q_is (q_z f p170 5) zz ∧ zz = x172 := ⟨_, ex172, rfl⟩
            have sx173 : q_is x173 (s0 (1 + Int.toNat v5_4) 5) := tw_g hw05 (tw_at1 hw05 (by omega) (by omega) ep170) (by omega) (by omega) ex173
            refine q_gX10_104 cx hB hb171 kb171 ex173 dX10_grown_41 (fun lb174 ub174 => ?_)
            refine q_ild_n cx dX10_grown_44 rfl (lv_at hl 2 rfl) ?_
            refine q_iand cx dX10_grown_45 (fun y175 ry175 ey175 => ?_)
            refine q_ior cx dX10_grown_46 (fun y176 ry176 ey176 => ?_)
            refine lv_istore_n (lv' := [(3, .int (q_i y176)), (0, .ref v0), (1, .int (q_i v5_1)), (2, .int (q_i v5_2)), (4, .int (q_i v5_4))]) cx.1 cx.2.1 dX10_grown_47 rfl hl (by decide) rfl (fun ls hl => ?_)
            refine q_iinc (lv' := [(4, .int (q_i (v5_4 + 1))), (3, .int (q_i y176)), (0, .ref v0), (1, .int (q_i v5_1)), (2, .int (q_i v5_2))]) cx dX10_grown_48 hl (k := 4) rfl (by decide) rfl (fun ls hl => ?_)
            refine lv_goto (tgt := 5) cx.1 cx.2.1 dX10_grown_51 (by decide) ?_
            exact ih5 v5_1 (by omega) (by omega) v5_2 (by omega) (by omega) y176 (by omega) (by omega) (v5_4 + 1) (by omega) (by omega) hj_v0_3 hq_v0_0 hq_v0_1 hq_v0_2 hw05 (by omega) (by have t0_ : v5_3 = tw_grl s0 p0 p1 (Int.toNat v5_4) := hac; have t1_ : x161 = s0 0 3 := sx161; have t2_ : y166 = tw_sr v5_1 v5_4 := (tw_sr_of ry166 ey166); have t3_ : y167 = tw_an (tw_sr v5_1 v5_4) 1 := Eq.trans (tw_an_of ⟨by omega, by omega⟩ ey167) (by simp only [t2_]); have t4_ : x173 = s0 (1 + Int.toNat v5_4) 5 := sx173; have t5_ : y175 = tw_an (s0 (1 + Int.toNat v5_4) 5) v5_2 := Eq.trans (tw_an_of ry175 ey175) (by simp only [t4_]); have t6_ : y176 = tw_or (tw_grl s0 p0 p1 (Int.toNat v5_4)) (tw_an (s0 (1 + Int.toNat v5_4) 5) v5_2) := Eq.trans (tw_or_of ry176 ey176) (by simp only [t0_, t5_]); (try simp only [t0_, t1_, t2_, t3_, t4_, t5_, t6_]); rw [tw_grl_s (by omega)]; (repeat' split) <;> first | rfl | (exfalso; omega)) (by omega) H locs hB ls (lv_sub hl [2, 3, 4, 1, 0] rfl)
  obtain ⟨H, hH⟩ : ∃ H : Heap, H = s.heap := ⟨_, rfl⟩
  obtain ⟨locs, hlocs⟩ : ∃ z : List Loc, z = [] := ⟨_, rfl⟩
  rw [← hH, ← hlocs] at hB
  rw [← hH, ← hlocs]
  refine q_ild_n cx dX10_grown_0 rfl (lv_at hl 1 rfl) ?_
  refine lv_istore_n (lv' := [(3, .int (q_i p0)), (0, .ref v0), (1, .int (q_i p0)), (2, .int (q_i p1))]) cx.1 cx.2.1 dX10_grown_1 rfl hl (by decide) rfl (fun ls hl => ?_)
  refine q_iconst cx dX10_grown_2 ?_
  refine lv_istore (lv' := [(4, .int (q_i 0)), (3, .int (q_i p0)), (0, .ref v0), (1, .int (q_i p0)), (2, .int (q_i p1))]) cx.1 cx.2.1 dX10_grown_3 hl (by decide) rfl (fun ls hl => ?_)
  exact J5 ((Int.toNat (2147483647 - 0)) + 1) p0 (by omega) (by omega) p1 (by omega) (by omega) p0 (by omega) (by omega) 0 (by decide) (by decide) hf0 hr0 hr1 hr2 hw0 (by omega) rfl (Nat.lt_succ_self _) H locs hB ls (lv_sub hl [2, 3, 4, 1, 0] rfl)
set_option maxHeartbeats 4000000 in
set_option maxRecDepth 100000 in
theorem f_nextTowards0 (l : Launch) (g : q_G) {K : Nat → Nat} {L : List Nat} (hN : L.Nodup) {f : Nat → va_E} (hT : q_Ty g K L f) (d0 : Nat → Nat) (s0 : tw_S) (v0 : Nat) (hv0 : v0 ∈ L) (kv0 : K v0 = 10) (p0 : Int) (lp0 : 0 ≤ p0) (up0 : p0 ≤ 9) (p1 : Int) (lp1 : 0 ≤ p1) (up1 : p1 ≤ 9) (p2 : Int) (lp2 : (-2147483648) ≤ p2) (up2 : p2 ≤ 2147483647) (n0 : Nat) (hn0 : n0 ∈ L) (kn0 : K n0 = 110) (l0 : Nat) (hl0 : l0 ∈ L) (kl0 : K l0 = 120) (m0 : Nat) (hm0 : m0 ∈ L) (km0 : K m0 = 130) (nn : Int) (lnn : 0 ≤ nn) (unn : nn ≤ 10) (hf0 : q_is (q_z f v0 3) nn) (hr0 : q_ir (q_r f v0 0) n0) (hr1 : q_ir (q_r f v0 1) l0) (hr2 : q_ir (q_r f v0 2) m0) (hw0 : tw_vw K L 10 5 3 4 f v0 n0 l0 m0 d0 s0) : q_Ct l g K L yX10_nextTowards cX10_nextTowards 7 (some .int) 1 24 [.ref v0, .int (q_i p0), .int (q_i p1), .int (q_i p2)] f [] (q_Pi (fun (z : Int) (f1 : Nat → va_E) => f = f1 ∧ (-1) ≤ z ∧ z ≤ 9 ∧ (z = tw_nx s0 p0 p1 p2))) := by
  refine q_ofb (by decide +kernel) hN hT (Nat.le_of_ble_eq_true rfl) ?_
  intro p e s m below meth c ls cx hr hlk hB hl
  have hl : lv_has ls 7 [(0, .ref v0), (1, .int (q_i p0)), (2, .int (q_i p1)), (3, .int (q_i p2))] := hl
  have J22 : ∀ (n : Nat) (v22_3 : Int) (lv22_3 : (-2147483648) ≤ v22_3) (uv22_3 : v22_3 ≤ 2147483647) (v22_4 : Int) (lv22_4 : (-2147483648) ≤ v22_4) (uv22_4 : v22_4 ≤ 2147483647) (v22_5 : Int) (lv22_5 : (-2147483648) ≤ v22_5) (uv22_5 : v22_5 ≤ 2147483647) (v22_6 : Int) (lv22_6 : 0 ≤ v22_6) (uv22_6 : v22_6 ≤ 10) (hj_v0_3 : q_is (q_z f v0 3) nn) (hq_v0_0 : q_ir (q_r f v0 0) n0) (hq_v0_1 : q_ir (q_r f v0 1) l0) (hq_v0_2 : q_ir (q_r f v0 2) m0) (hw022 : tw_vw K L 10 5 3 4 f v0 n0 l0 m0 d0 s0) (hne : v22_4 = tw_an (s0 (1 + Int.toNat p0) 5) p2) (hnx : tw_nx s0 p0 p1 p2 = tw_nxl s0 (tw_an (s0 (1 + Int.toNat p0) 5) p2) p2 (Int.toNat (10 - v22_6)) v22_5) (hmu : (Int.toNat (2147483647 - v22_6)) < n) (H : Heap) (locs : List Loc) (hB : q_B g K L (fun q => q ∈ L) [] f f s H locs) (ls : Array Slot) (hl : lv_has ls 7 [(0, .ref v0), (3, .int (q_i v22_3)), (4, .int (q_i v22_4)), (5, .int (q_i v22_5)), (6, .int (q_i v22_6))]), W p l e { frames := 1, cells := 0, slots := 0, locals := 24 } s m ([.ref v0, .int (q_i p0), .int (q_i p1), .int (q_i p2)] : List Value).toArray below meth c H locs 0 0 (MQ below (q_Q g K L [] f (q_Pi (fun (z : Int) (f1 : Nat → va_E) => f = f1 ∧ (-1) ≤ z ∧ z ≤ 9 ∧ (z = tw_nx s0 p0 p1 p2)))) ([.ref v0, .int (q_i p0), .int (q_i p1), .int (q_i p2)] : List Value).toArray s 0 0 (fun q => q ∈ L)) (F0 m 22 ls []) := by
    intro n
    induction n with
    | zero =>
      intro v22_3 lv22_3 uv22_3 v22_4 lv22_4 uv22_4 v22_5 lv22_5 uv22_5 v22_6 lv22_6 uv22_6 hj_v0_3 hq_v0_0 hq_v0_1 hq_v0_2 hw022 hne hnx hmu
      exact absurd hmu (Nat.not_lt_zero _)
    | succ n ih22 =>
      intro v22_3 lv22_3 uv22_3 v22_4 lv22_4 uv22_4 v22_5 lv22_5 uv22_5 v22_6 lv22_6 uv22_6 hj_v0_3 hq_v0_0 hq_v0_1 hq_v0_2 hw022 hne hnx hmu H locs hB ls hl
      refine lv_iload cx.1 cx.2.1 dX10_nextTowards_22 (lv_at hl 4 rfl) ?_
      refine q_bipush cx dX10_nextTowards_24 rfl ?_
      refine q_icge (tgt := 61) cx ⟨by omega, by omega⟩ ⟨by decide, by decide⟩ dX10_nextTowards_26 (by decide) (fun c23 => ?_) (fun c23 => ?_)
      · refine q_iconst cx dX10_nextTowards_61 ?_
        refine q_iret cx hr hlk hB dX10_nextTowards_62 ⟨by decide, by decide⟩ ?_
        exact ⟨rfl, (by decide), (by decide), (by have t0_ : v22_4 = tw_an (s0 (1 + Int.toNat p0) 5) p2 := hne; refine Eq.symm (hnx.trans (tw_nxl_e (by omega))))⟩
      · refine lv_iload cx.1 cx.2.1 dX10_nextTowards_29 (lv_at hl 2 rfl) ?_
        refine lv_iload cx.1 cx.2.1 dX10_nextTowards_31 (lv_at hl 3 rfl) ?_
        refine q_iand cx dX10_nextTowards_33 (fun y24 ry24 ey24 => ?_)
        refine q_ifeq (tgt := 46) cx ⟨by omega, by omega⟩ dX10_nextTowards_34 (by decide) (fun c25 => ?_) (fun c25 => ?_)
        · refine q_ald_n cx dX10_nextTowards_46 rfl (lv_at hl 0 rfl) ?_
          refine lv_iload cx.1 cx.2.1 dX10_nextTowards_47 (lv_at hl 3 rfl) ?_
          refine q_ild_n cx dX10_nextTowards_49 rfl (lv_at hl 1 rfl) ?_
          refine q_cVi (As := [.int (q_i v22_5), .int (q_i v22_3)]) (rest := []) cx hB (fun _ h => h) hN hv0 kv0 (by decide) rfl (f_grown0 l g hN hB.2.1 d0 s0 v0 hv0 kv0 v22_5 (by omega) (by omega) v22_3 (by omega) (by omega) n0 hn0 kn0 l0 hl0 kl0 m0 hm0 km0 nn (by omega) (by omega) hj_v0_3 hq_v0_0 hq_v0_1 hq_v0_2 hw022) q_cX10_234 q_dX10_grown (by decide) rfl rfl hl.1 rfl (Nat.le_of_ble_eq_true rfl) dX10_nextTowards_50 (fun y27 H locs f26 ry27 h28 hF hB => ?_)
          obtain ⟨rfl, t29⟩ := h28
          refine lv_istore (lv' := [(5, .int (q_i y27)), (0, .ref v0), (3, .int (q_i v22_3)), (4, .int (q_i v22_4)), (6, .int (q_i v22_6))]) cx.1 cx.2.1 dX10_nextTowards_53 hl (by decide) rfl (fun ls hl => ?_)
          refine q_iinc (lv' := [(6, .int (q_i (v22_6 + 1))), (5, .int (q_i y27)), (0, .ref v0), (3, .int (q_i v22_3)), (4, .int (q_i v22_4))]) cx dX10_nextTowards_55 hl (k := 4) rfl (by decide) rfl (fun ls hl => ?_)
          refine lv_goto (tgt := 22) cx.1 cx.2.1 dX10_nextTowards_58 (by decide) ?_
          exact ih22 v22_3 (by omega) (by omega) v22_4 (by omega) (by omega) y27 (by omega) (by omega) (v22_6 + 1) (by omega) (by omega) hj_v0_3 hq_v0_0 hq_v0_1 hq_v0_2 hw022 hne (by have t0_ : v22_4 = tw_an (s0 (1 + Int.toNat p0) 5) p2 := hne; have t1_ : y24 = tw_an (tw_an (s0 (1 + Int.toNat p0) 5) p2) v22_5 := Eq.trans (tw_an_of ry24 ey24) (by simp only [t0_]); have t2_ : y27 = tw_gr s0 v22_5 v22_3 := t29; refine hnx.trans ?_; rw [tw_nxl_s (by omega)]; (try simp only [t0_, t1_, t2_]); (repeat' split) <;> first | rfl | (exfalso; omega)) (by omega) H locs hB ls (lv_sub hl [2, 3, 4, 1, 0] rfl)
        · refine lv_iload cx.1 cx.2.1 dX10_nextTowards_37 (lv_at hl 2 rfl) ?_
          refine lv_iload cx.1 cx.2.1 dX10_nextTowards_39 (lv_at hl 3 rfl) ?_
          refine q_iand cx dX10_nextTowards_41 (fun y30 ry30 ey30 => ?_)
          refine q_cSi (As := [.int (q_i y30)]) (rest := []) cx hB (fun _ h => h) hN (f_lowestOf l g hN hB.2.1 y30 (by omega) (by omega)) q_cX10_237 q_dX10_lowestOf (by decide) rfl rfl hl.1 rfl (Nat.le_of_ble_eq_true rfl) dX10_nextTowards_42 (fun y32 H locs f31 ry32 h33 hF hB => ?_)
          obtain ⟨rfl, ly32, uy32, t34⟩ := h33
          refine q_iret cx hr hlk hB dX10_nextTowards_45 ⟨by omega, by omega⟩ ?_
          exact ⟨rfl, (by omega), (by omega), (by have t0_ : v22_4 = tw_an (s0 (1 + Int.toNat p0) 5) p2 := hne; have t1_ : y24 = tw_an (tw_an (s0 (1 + Int.toNat p0) 5) p2) v22_5 := Eq.trans (tw_an_of ry24 ey24) (by simp only [t0_]); have t2_ : y30 = tw_an (tw_an (s0 (1 + Int.toNat p0) 5) p2) v22_5 := Eq.trans (tw_an_of ry30 ey30) (by simp only [t0_]); have t3_ : y32 = tw_lo (tw_an (tw_an (s0 (1 + Int.toNat p0) 5) p2) v22_5) := Eq.trans t34 (by simp only [t2_]); refine Eq.symm (hnx.trans ?_); rw [tw_nxl_s (by omega)]; (try simp only [t0_, t1_, t2_, t3_]); (repeat' split) <;> first | rfl | (exfalso; omega))⟩
  obtain ⟨H, hH⟩ : ∃ H : Heap, H = s.heap := ⟨_, rfl⟩
  obtain ⟨locs, hlocs⟩ : ∃ z : List Loc, z = [] := ⟨_, rfl⟩
  rw [← hH, ← hlocs] at hB
  rw [← hH, ← hlocs]
  refine q_ald_n cx dX10_nextTowards_0 rfl (lv_at hl 0 rfl) ?_
  refine q_ild_n cx dX10_nextTowards_1 rfl (lv_at hl 1 rfl) ?_
  refine q_cVr (As := [.int (q_i p0)]) (rest := []) cx hB (fun _ h => h) hN hv0 kv0 (by decide) rfl (f_nodeAt0 l g hN hB.2.1 d0 s0 v0 hv0 kv0 p0 (by omega) (by omega) n0 hn0 kn0 l0 hl0 kl0 m0 hm0 km0 hr0 hr1 hr2 hw0) q_cX10_66 q_dX10_nodeAt (by decide) rfl rfl hl.1 rfl (Nat.le_of_ble_eq_true rfl) dX10_nextTowards_2 (fun y36 H locs f35 h37 hF hB => ?_)
  obtain ⟨rfl, hy36, ky36, t38⟩ := h37
  obtain ⟨x39, ex39⟩ : ∃ zz, q_is (q_z f y36 5) zz := ⟨_, q_isr _⟩
  obtain ⟨lx39, ux39⟩ := q_isb ex39 (q_fib hB.2.1 hy36 ky36 (by decide) rfl)
  obtain ⟨x40, ex40, nx40⟩ : ∃ zz, q_is (q_z f y36 5) zz ∧ zz = x39 := ⟨_, ex39, rfl⟩
  have sx40 : q_is x40 (s0 (1 + Int.toNat p0) 5) := tw_g hw0 t38 (by omega) (by omega) ex40
  refine q_gX10_104 cx hB hy36 ky36 ex40 dX10_nextTowards_5 (fun lb41 ub41 => ?_)
  refine q_ild_n cx dX10_nextTowards_8 rfl (lv_at hl 3 rfl) ?_
  refine q_iand cx dX10_nextTowards_9 (fun y42 ry42 ey42 => ?_)
  refine lv_istore (lv' := [(4, .int (q_i y42)), (0, .ref v0), (1, .int (q_i p0)), (2, .int (q_i p1)), (3, .int (q_i p2))]) cx.1 cx.2.1 dX10_nextTowards_10 hl (by decide) rfl (fun ls hl => ?_)
  refine q_iconst cx dX10_nextTowards_12 ?_
  refine q_ild_n cx dX10_nextTowards_13 rfl (lv_at hl 3 rfl) ?_
  refine q_ishl cx dX10_nextTowards_14 (fun y43 ry43 ey43 => ?_)
  refine q_ild_n cx dX10_nextTowards_15 rfl (lv_at hl 4 rfl) ?_
  refine q_iand cx dX10_nextTowards_16 (fun y44 ry44 ey44 => ?_)
  refine lv_istore (lv' := [(5, .int (q_i y44)), (4, .int (q_i y42)), (0, .ref v0), (1, .int (q_i p0)), (2, .int (q_i p1)), (3, .int (q_i p2))]) cx.1 cx.2.1 dX10_nextTowards_17 hl (by decide) rfl (fun ls hl => ?_)
  refine q_iconst cx dX10_nextTowards_19 ?_
  refine lv_istore (lv' := [(6, .int (q_i 0)), (5, .int (q_i y44)), (4, .int (q_i y42)), (0, .ref v0), (1, .int (q_i p0)), (2, .int (q_i p1)), (3, .int (q_i p2))]) cx.1 cx.2.1 dX10_nextTowards_20 hl (by decide) rfl (fun ls hl => ?_)
  exact J22 ((Int.toNat (2147483647 - 0)) + 1) p2 (by omega) (by omega) y42 (by omega) (by omega) y44 (by omega) (by omega) 0 (by decide) (by decide) hf0 hr0 hr1 hr2 hw0 (by have t0_ : x40 = s0 (1 + Int.toNat p0) 5 := sx40; have t1_ : y42 = tw_an (s0 (1 + Int.toNat p0) 5) p2 := Eq.trans (tw_an_of ry42 ey42) (by simp only [t0_]); have t2_ : y43 = tw_sl 1 p1 := (tw_sl_of ry43 ey43); have t3_ : y44 = tw_an (tw_sl 1 p1) p2 := Eq.trans (tw_an_of ry44 ey44) (by simp only [t2_]); (try simp only [t0_, t1_, t2_, t3_]); (repeat' split) <;> first | rfl | (exfalso; omega)) (by have t0_ : x40 = s0 (1 + Int.toNat p0) 5 := sx40; have t1_ : y42 = tw_an (s0 (1 + Int.toNat p0) 5) p2 := Eq.trans (tw_an_of ry42 ey42) (by simp only [t0_]); have t2_ : y43 = tw_sl 1 p1 := (tw_sl_of ry43 ey43); have t3_ : y44 = tw_an (tw_sl 1 p1) p2 := Eq.trans (tw_an_of ry44 ey44) (by simp only [t2_]); (try simp only [t0_, t1_, t2_, t3_]); unfold tw_nx; (repeat' split) <;> first | rfl | (exfalso; omega)) (Nat.lt_succ_self _) H locs hB ls (lv_sub hl [3, 6, 2, 1, 0] rfl)
set_option maxHeartbeats 4000000 in
set_option maxRecDepth 100000 in
theorem f_wakeNodes0 (l : Launch) (g : q_G) {K : Nat → Nat} {L : List Nat} (hN : L.Nodup) {f : Nat → va_E} (hT : q_Ty g K L f) (d0 : Nat → Nat) (s0 : tw_S) (v0 : Nat) (hv0 : v0 ∈ L) (kv0 : K v0 = 10) (n0 : Nat) (hn0 : n0 ∈ L) (kn0 : K n0 = 110) (l0 : Nat) (hl0 : l0 ∈ L) (kl0 : K l0 = 120) (m0 : Nat) (hm0 : m0 ∈ L) (km0 : K m0 = 130) (tm : Int) (ltm : 0 ≤ tm) (utm : tm ≤ 20000) (nn : Int) (lnn : 0 ≤ nn) (unn : nn ≤ 10) (hf0 : q_is (q_z f v0 11) tm) (hf1 : q_is (q_z f v0 3) nn) (hr0 : q_ir (q_r f v0 0) n0) (hr1 : q_ir (q_r f v0 1) l0) (hr2 : q_ir (q_r f v0 2) m0) (hw0 : tw_vw K L 10 5 3 4 f v0 n0 l0 m0 d0 s0) (hz0 : tw_nw K L 5 f) : q_Ct l g K L yX10_wakeNodes cX10_wakeNodes 3 none 3 67 [.ref v0] f [(5, 4, 4), (5, 6, 6), (5, 9, 9), (10, 13, 13)] (q_Pv (fun (f1 : Nat → va_E) => (tw_vw K L 10 5 3 4 f1 v0 n0 l0 m0 d0 (tw_wk s0)))) := by
  refine q_ofb (by decide +kernel) hN hT (Nat.le_of_ble_eq_true rfl) ?_
  intro p e s m below meth c ls cx hr hlk hB hl
  have hl : lv_has ls 3 [(0, .ref v0)] := hl
  have J7 : ∀ (n : Nat) (f7 : Nat → va_E) (v7_1 : Int) (lv7_1 : 0 ≤ v7_1) (uv7_1 : v7_1 ≤ 10) (hj_v0_11 : q_is (q_z f7 v0 11) tm) (hj_v0_3 : q_is (q_z f7 v0 3) nn) (hq_v0_0 : q_ir (q_r f7 v0 0) n0) (hq_v0_1 : q_ir (q_r f7 v0 1) l0) (hq_v0_2 : q_ir (q_r f7 v0 2) m0) (hz07 : tw_nw K L 5 f7) (hrl7_0 : 0 ≤ 1 * nn + -1 * v7_1 + 0) (hvw : tw_vw K L 10 5 3 4 f7 v0 n0 l0 m0 d0 (tw_wkl s0 (Int.toNat v7_1))) (hmu : (Int.toNat (2147483647 - v7_1)) < n) (H : Heap) (locs : List Loc) (hB : q_B g K L (fun q => q ∈ L) [(5, 4, 4), (5, 6, 6), (5, 9, 9), (10, 13, 13)] f f7 s H locs) (ls : Array Slot) (hl : lv_has ls 3 [(0, .ref v0), (1, .int (q_i v7_1))]), W p l e { frames := 3, cells := 0, slots := 0, locals := 67 } s m ([.ref v0] : List Value).toArray below meth c H locs 0 0 (MQ below (q_Q g K L [(5, 4, 4), (5, 6, 6), (5, 9, 9), (10, 13, 13)] f (q_Pv (fun (f1 : Nat → va_E) => (tw_vw K L 10 5 3 4 f1 v0 n0 l0 m0 d0 (tw_wk s0))))) ([.ref v0] : List Value).toArray s 0 0 (fun q => q ∈ L)) (F0 m 7 ls []) := by
    intro n
    induction n with
    | zero =>
      intro f7 v7_1 lv7_1 uv7_1 hj_v0_11 hj_v0_3 hq_v0_0 hq_v0_1 hq_v0_2 hz07 hrl7_0 hvw hmu
      exact absurd hmu (Nat.not_lt_zero _)
    | succ n ih7 =>
      intro f7 v7_1 lv7_1 uv7_1 hj_v0_11 hj_v0_3 hq_v0_0 hq_v0_1 hq_v0_2 hz07 hrl7_0 hvw hmu H locs hB ls hl
      refine q_ild_n cx dX10_wakeNodes_7 rfl (lv_at hl 1 rfl) ?_
      refine q_ald_n cx dX10_wakeNodes_8 rfl (lv_at hl 0 rfl) ?_
      obtain ⟨x860, ex860, nx860⟩ : ∃ zz, q_is (q_z f7 v0 3) zz ∧ zz = nn := ⟨_, hj_v0_3, rfl⟩
      have sx860 : q_is x860 ((tw_wkl s0 (Int.toNat v7_1)) 0 3) := tw_g hvw (tw_v0 hw0) (by omega) (by omega) ex860
      refine q_gX10_35 cx hB hv0 kv0 ex860 dX10_wakeNodes_9 (fun lb861 ub861 => ?_)
      refine q_icge (tgt := 90) cx ⟨by omega, by omega⟩ ⟨by omega, by omega⟩ dX10_wakeNodes_12 (by decide) (fun c862 => ?_) (fun c862 => ?_)
      · refine q_vret cx hr hlk hB dX10_wakeNodes_90 ?_
        exact (tw_cg hvw (by have t0_ : x860 = (tw_wkl s0 (Int.toNat v7_1)) 0 3 := sx860; have e8 : tw_wkl s0 (Int.toNat v7_1) 0 3 = s0 0 3 := tw_wkl_c _ _ (by decide) (by decide); have e9 : v7_1 = s0 0 3 := by omega; rw [e9]; rfl))
      · refine q_ald_n cx dX10_wakeNodes_15 rfl (lv_at hl 0 rfl) ?_
        refine q_ild_n cx dX10_wakeNodes_16 rfl (lv_at hl 1 rfl) ?_
        refine q_cVr (As := [.int (q_i v7_1)]) (rest := []) cx hB (fun _ h => h) hN hv0 kv0 (by decide) rfl (f_nodeAt0 l g hN hB.2.1 d0 (tw_wkl s0 (Int.toNat v7_1)) v0 hv0 kv0 v7_1 (by omega) (by omega) n0 hn0 kn0 l0 hl0 kl0 m0 hm0 km0 hq_v0_0 hq_v0_1 hq_v0_2 hvw) q_cX10_66 q_dX10_nodeAt (by decide) rfl rfl hl.1 rfl (Nat.le_of_ble_eq_true rfl) dX10_wakeNodes_17 (fun y864 H locs f863 h865 hF hB => ?_)
        obtain ⟨rfl, hy864, ky864, t866⟩ := h865
        refine lv_astore_n (lv' := [(2, .ref y864), (0, .ref v0), (1, .int (q_i v7_1))]) cx.1 cx.2.1 dX10_wakeNodes_20 rfl hl (by decide) rfl (fun ls hl => ?_)
        refine q_ald_n cx dX10_wakeNodes_21 rfl (lv_at hl 0 rfl) ?_
        refine q_ald_n cx dX10_wakeNodes_22 rfl (lv_at hl 1 rfl) ?_
        refine q_ild_n cx dX10_wakeNodes_23 rfl (lv_at hl 2 rfl) ?_
        refine q_cVi (As := [.int (q_i v7_1)]) (rest := [.ref y864]) cx hB (fun _ h => h) hN hv0 kv0 (by decide) rfl (f_dayOf0 l g hN hB.2.1 d0 (tw_wkl s0 (Int.toNat v7_1)) v0 hv0 kv0 v7_1 (by omega) (by omega) n0 hn0 kn0 l0 hl0 kl0 m0 hm0 km0 tm (by omega) (by omega) hj_v0_11 hq_v0_0 hq_v0_1 hq_v0_2 hvw) q_cX10_178 q_dX10_dayOf (by decide) rfl rfl hl.1 rfl (Nat.le_of_ble_eq_true rfl) dX10_wakeNodes_24 (fun y868 H locs f867 ry868 h869 hF hB => ?_)
        obtain ⟨rfl, ly868, uy868, t870⟩ := h869
        refine q_pX10_265 cx hB hy864 ky864 ⟨by omega, by omega⟩ (by omega) (by omega) rfl dX10_wakeNodes_27 (fun H locs f871 ef871 z872 hB => ?_)
        have z873 : q_is (q_z f871 v0 11) tm := by rw [ef871, q_setz (Or.inr (by decide))]; exact hj_v0_11
        have z874 : q_is (q_z f871 v0 3) nn := by rw [ef871, q_setz (Or.inr (by decide))]; exact hj_v0_3
        have z875 : q_ir (q_r f871 v0 0) n0 := by rw [ef871, q_setr (Or.inr (by decide))]; exact hq_v0_0
        have z876 : q_ir (q_r f871 v0 1) l0 := by rw [ef871, q_setr (Or.inr (by decide))]; exact hq_v0_1
        have z877 : q_ir (q_r f871 v0 2) m0 := by rw [ef871, q_setr (Or.inr (by decide))]; exact hq_v0_2
        have g878 : tw_nw K L 5 f871 := tw_nw_tr hz07 (fun a9 h9 k9 => by rw [ef871, q_setj (Or.inr (by decide))])
        have g879 : tw_vw K L 10 5 3 4 f871 v0 n0 l0 m0 d0 (tw_u (tw_wkl s0 (Int.toNat v7_1)) (1 + Int.toNat v7_1) 9 y868) := tw_vw_s hvw t866 (by omega) (by omega) ef871 z872 (fun i9 => by rw [ef871, q_setr (Or.inl (fun q => by rw [q, ky864] at kn0; exact absurd kn0 (by decide)))]) (fun i9 => by rw [ef871, q_setr (Or.inl (fun q => by rw [q, ky864] at kl0; exact absurd kl0 (by decide)))]) (fun i9 => by rw [ef871, q_setr (Or.inl (fun q => by rw [q, ky864] at km0; exact absurd km0 (by decide)))])
        refine q_ald_n cx dX10_wakeNodes_30 rfl (lv_at hl 1 rfl) ?_
        refine q_ild_n cx dX10_wakeNodes_31 rfl (lv_at hl 2 rfl) ?_
        refine q_cVi (As := [.int (q_i v7_1)]) (rest := []) cx hB (fun _ h => h) hN hv0 kv0 (by decide) rfl (f_isAwake0 l g hN hB.2.1 d0 (tw_u (tw_wkl s0 (Int.toNat v7_1)) (1 + Int.toNat v7_1) 9 y868) v0 hv0 kv0 v7_1 (by omega) (by omega) n0 hn0 kn0 l0 hl0 kl0 m0 hm0 km0 tm (by omega) (by omega) nn (by omega) (by omega) z873 z874 z875 z876 z877 g879 g878) q_cX10_203 q_dX10_isAwake (by decide) rfl rfl hl.1 rfl (Nat.le_of_ble_eq_true rfl) dX10_wakeNodes_32 (fun y881 H locs f880 ry881 h882 hF hB => ?_)
        rcases h882 with h883 | h884
        · obtain ⟨rfl, qy881, t885⟩ := h883
          subst qy881
          refine q_ifeq (tgt := 84) cx ⟨by decide, by decide⟩ dX10_wakeNodes_35 (by decide) (fun c886 => ?_) (fun c886 => ?_)
          · exact absurd c886 (by omega)
          · refine q_ald_n cx dX10_wakeNodes_38 rfl (lv_at hl 0 rfl) ?_
            refine q_iconst cx dX10_wakeNodes_39 ?_
            refine q_ald_n cx dX10_wakeNodes_40 rfl (lv_at hl 0 rfl) ?_
            obtain ⟨x887, ex887⟩ : ∃ zz, q_is (q_z f871 y864 4) zz := ⟨_, q_isr _⟩
            obtain ⟨lx887, ux887⟩ := q_isb ex887 (q_fib hB.2.1 hy864 ky864 (by decide) rfl)
            obtain ⟨x888, ex888, nx888⟩ : ∃ zz, q_is (q_z f871 y864 4) zz ∧ zz = x887 := ⟨_, ex887, rfl⟩
            have sx888 : q_is x888 ((tw_u (tw_wkl s0 (Int.toNat v7_1)) (1 + Int.toNat v7_1) 9 y868) (1 + Int.toNat v7_1) 4) := tw_g g879 t866 (by omega) (by omega) ex888
            refine q_gX10_101 cx hB hy864 ky864 ex888 dX10_wakeNodes_41 (fun lb889 ub889 => ?_)
            refine q_ald_n cx dX10_wakeNodes_44 rfl (lv_at hl 1 rfl) ?_
            obtain ⟨x890, ex890⟩ : ∃ zz, q_is (q_z f871 v0 7) zz := ⟨_, q_isr _⟩
            obtain ⟨lx890, ux890⟩ := q_isb ex890 (q_fib hB.2.1 hv0 kv0 (by decide) rfl)
            obtain ⟨x891, ex891, nx891⟩ : ∃ zz, q_is (q_z f871 v0 7) zz ∧ zz = x890 := ⟨_, ex890, rfl⟩
            have sx891 : q_is x891 ((tw_u (tw_wkl s0 (Int.toNat v7_1)) (1 + Int.toNat v7_1) 9 y868) 0 7) := tw_g g879 (tw_v0 hw0) (by omega) (by omega) ex891
            refine q_gX10_48 cx hB hv0 kv0 ex891 dX10_wakeNodes_45 (fun lb892 ub892 => ?_)
            refine q_isub cx dX10_wakeNodes_48 ?_
            refine q_any (fun y893 ry893 ey893 => ?_)
            refine q_mmax (rest := [.ref y864]) cx hl.1 q_h1412 q_h976 q_h56 q_h977 (by decide) (Nat.le_of_ble_eq_true rfl) (by decide) (by decide) ⟨by decide, by decide⟩ ⟨by omega, by omega⟩ dX10_wakeNodes_49 (fun y894 ay894 by894 ey894 => ?_)
            refine q_pX10_101 cx hB hy864 ky864 ⟨by omega, by omega⟩ (by omega) (by omega) rfl dX10_wakeNodes_52 (fun H locs f895 ef895 z896 hB => ?_)
            have z897 : q_is (q_z f895 v0 11) tm := by rw [ef895, q_setz (Or.inr (by decide))]; exact z873
            have z898 : q_is (q_z f895 v0 3) nn := by rw [ef895, q_setz (Or.inr (by decide))]; exact z874
            have z899 : q_is (q_z f895 y864 9) y868 := by rw [ef895, q_setz (Or.inr (by decide))]; exact z872
            have z900 : q_is (q_z f895 v0 7) x890 := by rw [ef895, q_setz (Or.inr (by decide))]; exact ex890
            have z901 : q_ir (q_r f895 v0 0) n0 := by rw [ef895, q_setr (Or.inr (by decide))]; exact z875
            have z902 : q_ir (q_r f895 v0 1) l0 := by rw [ef895, q_setr (Or.inr (by decide))]; exact z876
            have z903 : q_ir (q_r f895 v0 2) m0 := by rw [ef895, q_setr (Or.inr (by decide))]; exact z877
            have g904 : tw_nw K L 5 f895 := tw_nw_tr g878 (fun a9 h9 k9 => by rw [ef895, q_setj (Or.inr (by decide))])
            have g905 : tw_vw K L 10 5 3 4 f895 v0 n0 l0 m0 d0 (tw_u (tw_u (tw_wkl s0 (Int.toNat v7_1)) (1 + Int.toNat v7_1) 9 y868) (1 + Int.toNat v7_1) 4 y894) := tw_vw_s g879 t866 (by omega) (by omega) ef895 z896 (fun i9 => by rw [ef895, q_setr (Or.inl (fun q => by rw [q, ky864] at kn0; exact absurd kn0 (by decide)))]) (fun i9 => by rw [ef895, q_setr (Or.inl (fun q => by rw [q, ky864] at kl0; exact absurd kl0 (by decide)))]) (fun i9 => by rw [ef895, q_setr (Or.inl (fun q => by rw [q, ky864] at km0; exact absurd km0 (by decide)))])
            refine q_ald_n cx dX10_wakeNodes_55 rfl (lv_at hl 0 rfl) ?_
            obtain ⟨x906, ex906, nx906⟩ : ∃ zz, q_is (q_z f895 y864 4) zz ∧ zz = y894 := ⟨_, z896, rfl⟩
            have sx906 : q_is x906 ((tw_u (tw_u (tw_wkl s0 (Int.toNat v7_1)) (1 + Int.toNat v7_1) 9 y868) (1 + Int.toNat v7_1) 4 y894) (1 + Int.toNat v7_1) 4) := tw_g g905 t866 (by omega) (by omega) ex906
            refine q_gX10_101 cx hB hy864 ky864 ex906 dX10_wakeNodes_56 (fun lb907 ub907 => ?_)
            refine q_ifle (tgt := 84) cx ⟨by omega, by omega⟩ dX10_wakeNodes_59 (by decide) (fun c908 => ?_) (fun c908 => ?_)
            · refine q_iinc (lv' := [(1, .int (q_i (v7_1 + 1))), (2, .ref y864), (0, .ref v0)]) cx dX10_wakeNodes_84 hl (k := 2) rfl (by decide) rfl (fun ls hl => ?_)
              refine lv_goto (tgt := 7) cx.1 cx.2.1 dX10_wakeNodes_87 (by decide) ?_
              exact ih7 f895 (v7_1 + 1) (by omega) (by omega) z897 z898 z901 z902 z903 g904 (by omega) (tw_cg g905 (by have t0_ : x860 = (tw_wkl s0 (Int.toNat v7_1)) 0 3 := sx860; have t1_ : y868 = tw_do (tw_wkl s0 (Int.toNat v7_1)) v7_1 := t870; have t2_ : x888 = (tw_u (tw_wkl s0 (Int.toNat v7_1)) (1 + Int.toNat v7_1) 9 (tw_do (tw_wkl s0 (Int.toNat v7_1)) v7_1)) (1 + Int.toNat v7_1) 4 := Eq.trans sx888 (by simp only [t1_]); have t3_ : x891 = (tw_u (tw_wkl s0 (Int.toNat v7_1)) (1 + Int.toNat v7_1) 9 (tw_do (tw_wkl s0 (Int.toNat v7_1)) v7_1)) 0 7 := Eq.trans sx891 (by simp only [t1_]); have t4_ : y893 = tw_w (((tw_u (tw_wkl s0 (Int.toNat v7_1)) (1 + Int.toNat v7_1) 9 (tw_do (tw_wkl s0 (Int.toNat v7_1)) v7_1)) (1 + Int.toNat v7_1) 4) - ((tw_u (tw_wkl s0 (Int.toNat v7_1)) (1 + Int.toNat v7_1) 9 (tw_do (tw_wkl s0 (Int.toNat v7_1)) v7_1)) 0 7)) := Eq.trans (tw_w_of ry893 ey893) (by simp only [t2_, t3_]); have t5_ : y894 = max 0 (tw_w (((tw_u (tw_wkl s0 (Int.toNat v7_1)) (1 + Int.toNat v7_1) 9 (tw_do (tw_wkl s0 (Int.toNat v7_1)) v7_1)) (1 + Int.toNat v7_1) 4) - ((tw_u (tw_wkl s0 (Int.toNat v7_1)) (1 + Int.toNat v7_1) 9 (tw_do (tw_wkl s0 (Int.toNat v7_1)) v7_1)) 0 7))) := Eq.trans (tw_mx ay894 by894 ey894) (by simp only [t4_]); have t6_ : x906 = (tw_u (tw_u (tw_wkl s0 (Int.toNat v7_1)) (1 + Int.toNat v7_1) 9 (tw_do (tw_wkl s0 (Int.toNat v7_1)) v7_1)) (1 + Int.toNat v7_1) 4 (max 0 (tw_w (((tw_u (tw_wkl s0 (Int.toNat v7_1)) (1 + Int.toNat v7_1) 9 (tw_do (tw_wkl s0 (Int.toNat v7_1)) v7_1)) (1 + Int.toNat v7_1) 4) - ((tw_u (tw_wkl s0 (Int.toNat v7_1)) (1 + Int.toNat v7_1) 9 (tw_do (tw_wkl s0 (Int.toNat v7_1)) v7_1)) 0 7))))) (1 + Int.toNat v7_1) 4 := Eq.trans sx906 (by simp only [t1_, t5_]); have u0_ : tw_aw (tw_u (tw_wkl s0 (Int.toNat v7_1)) (1 + Int.toNat v7_1) 9 (tw_do (tw_wkl s0 (Int.toNat v7_1)) v7_1)) v7_1 = 1 := (by have e9 := t885; simp only [t1_] at e9; exact e9); (try simp only [t0_, t1_, t2_, t3_, t4_, t5_, t6_]); rw [tw_wkl_s (by omega)]; unfold tw_wk1 tw_wk2; (repeat' split) <;> first | rfl | (exfalso; omega))) (by omega) H locs hB ls (lv_sub hl [2, 0] rfl)
            · refine q_ald_n cx dX10_wakeNodes_62 rfl (lv_at hl 1 rfl) ?_
              refine lv_dup cx.1 cx.2.1 dX10_wakeNodes_63 rfl ?_
              obtain ⟨x909, ex909⟩ : ∃ zz, q_is (q_z f895 v0 13) zz := ⟨_, q_isr _⟩
              obtain ⟨lx909, ux909⟩ := q_isb ex909 (q_fib hB.2.1 hv0 kv0 (by decide) rfl)
              obtain ⟨x910, ex910, nx910⟩ : ∃ zz, q_is (q_z f895 v0 13) zz ∧ zz = x909 := ⟨_, ex909, rfl⟩
              have sx910 : q_is x910 ((tw_u (tw_u (tw_wkl s0 (Int.toNat v7_1)) (1 + Int.toNat v7_1) 9 y868) (1 + Int.toNat v7_1) 4 y894) 0 13) := tw_g g905 (tw_v0 hw0) (by omega) (by omega) ex910
              refine q_gX10_262 cx hB hv0 kv0 ex910 dX10_wakeNodes_64 (fun lb911 ub911 => ?_)
              refine q_iconst cx dX10_wakeNodes_67 ?_
              refine q_ild_n cx dX10_wakeNodes_68 rfl (lv_at hl 2 rfl) ?_
              refine q_ishl cx dX10_wakeNodes_69 (fun y912 ry912 ey912 => ?_)
              refine q_ior cx dX10_wakeNodes_70 (fun y913 ry913 ey913 => ?_)
              refine q_pX10_262 cx hB hv0 kv0 ⟨by omega, by omega⟩ (by omega) (by omega) rfl dX10_wakeNodes_71 (fun H locs f914 ef914 z915 hB => ?_)
              have z916 : q_is (q_z f914 v0 11) tm := by rw [ef914, q_setz (Or.inr (by decide))]; exact z897
              have z917 : q_is (q_z f914 v0 3) nn := by rw [ef914, q_setz (Or.inr (by decide))]; exact z898
              have z918 : q_is (q_z f914 y864 9) y868 := by rw [ef914, q_setz (Or.inr (by decide))]; exact z899
              have z919 : q_is (q_z f914 v0 7) x890 := by rw [ef914, q_setz (Or.inr (by decide))]; exact z900
              have z920 : q_is (q_z f914 y864 4) y894 := by rw [ef914, q_setz (Or.inr (by decide))]; exact z896
              have z921 : q_ir (q_r f914 v0 0) n0 := by rw [ef914, q_setr (Or.inr (by decide))]; exact z901
              have z922 : q_ir (q_r f914 v0 1) l0 := by rw [ef914, q_setr (Or.inr (by decide))]; exact z902
              have z923 : q_ir (q_r f914 v0 2) m0 := by rw [ef914, q_setr (Or.inr (by decide))]; exact z903
              have g924 : tw_nw K L 5 f914 := tw_nw_tr g904 (fun a9 h9 k9 => by rw [ef914, q_setj (Or.inl (fun q => by rw [q, kv0] at k9; exact absurd k9 (by decide)))])
              have g925 : tw_vw K L 10 5 3 4 f914 v0 n0 l0 m0 d0 (tw_u (tw_u (tw_u (tw_wkl s0 (Int.toNat v7_1)) (1 + Int.toNat v7_1) 9 y868) (1 + Int.toNat v7_1) 4 y894) 0 13 y913) := tw_vw_s g905 (tw_v0 hw0) (by omega) (by omega) ef914 z915 (fun i9 => by rw [ef914, q_setr (Or.inl (fun q => by rw [q, kv0] at kn0; exact absurd kn0 (by decide)))]) (fun i9 => by rw [ef914, q_setr (Or.inl (fun q => by rw [q, kv0] at kl0; exact absurd kl0 (by decide)))]) (fun i9 => by rw [ef914, q_setr (Or.inl (fun q => by rw [q, kv0] at km0; exact absurd km0 (by decide)))])
              refine q_ald_n cx dX10_wakeNodes_74 rfl (lv_at hl 0 rfl) ?_
              refine lv_dup cx.1 cx.2.1 dX10_wakeNodes_75 rfl ?_
              obtain ⟨x926, ex926⟩ : ∃ zz, q_is (q_z f914 y864 6) zz := ⟨_, q_isr _⟩
              obtain ⟨lx926, ux926⟩ := q_isb ex926 (q_fib hB.2.1 hy864 ky864 (by decide) rfl)
              obtain ⟨x927, ex927, nx927⟩ : ∃ zz, q_is (q_z f914 y864 6) zz ∧ zz = x926 := ⟨_, ex926, rfl⟩
              have sx927 : q_is x927 ((tw_u (tw_u (tw_u (tw_wkl s0 (Int.toNat v7_1)) (1 + Int.toNat v7_1) 9 y868) (1 + Int.toNat v7_1) 4 y894) 0 13 y913) (1 + Int.toNat v7_1) 6) := tw_g g925 t866 (by omega) (by omega) ex927
              refine q_gX10_107 cx hB hy864 ky864 ex927 dX10_wakeNodes_76 (fun lb928 ub928 => ?_)
              refine q_iconst cx dX10_wakeNodes_79 ?_
              refine q_iadd cx dX10_wakeNodes_80 ?_
              refine q_any (fun y929 ry929 ey929 => ?_)
              refine q_pX10_107 cx hB hy864 ky864 ⟨by omega, by omega⟩ (by omega) (by omega) rfl dX10_wakeNodes_81 (fun H locs f930 ef930 z931 hB => ?_)
              have z932 : q_is (q_z f930 v0 11) tm := by rw [ef930, q_setz (Or.inr (by decide))]; exact z916
              have z933 : q_is (q_z f930 v0 3) nn := by rw [ef930, q_setz (Or.inr (by decide))]; exact z917
              have z934 : q_is (q_z f930 y864 9) y868 := by rw [ef930, q_setz (Or.inr (by decide))]; exact z918
              have z935 : q_is (q_z f930 v0 7) x890 := by rw [ef930, q_setz (Or.inr (by decide))]; exact z919
              have z936 : q_is (q_z f930 y864 4) y894 := by rw [ef930, q_setz (Or.inr (by decide))]; exact z920
              have z937 : q_is (q_z f930 v0 13) y913 := by rw [ef930, q_setz (Or.inr (by decide))]; exact z915
              have z938 : q_ir (q_r f930 v0 0) n0 := by rw [ef930, q_setr (Or.inr (by decide))]; exact z921
              have z939 : q_ir (q_r f930 v0 1) l0 := by rw [ef930, q_setr (Or.inr (by decide))]; exact z922
              have z940 : q_ir (q_r f930 v0 2) m0 := by rw [ef930, q_setr (Or.inr (by decide))]; exact z923
              have g941 : tw_nw K L 5 f930 := tw_nw_tr g924 (fun a9 h9 k9 => by rw [ef930, q_setj (Or.inr (by decide))])
              have g942 : tw_vw K L 10 5 3 4 f930 v0 n0 l0 m0 d0 (tw_u (tw_u (tw_u (tw_u (tw_wkl s0 (Int.toNat v7_1)) (1 + Int.toNat v7_1) 9 y868) (1 + Int.toNat v7_1) 4 y894) 0 13 y913) (1 + Int.toNat v7_1) 6 y929) := tw_vw_s g925 t866 (by omega) (by omega) ef930 z931 (fun i9 => by rw [ef930, q_setr (Or.inl (fun q => by rw [q, ky864] at kn0; exact absurd kn0 (by decide)))]) (fun i9 => by rw [ef930, q_setr (Or.inl (fun q => by rw [q, ky864] at kl0; exact absurd kl0 (by decide)))]) (fun i9 => by rw [ef930, q_setr (Or.inl (fun q => by rw [q, ky864] at km0; exact absurd km0 (by decide)))])
              refine q_iinc (lv' := [(1, .int (q_i (v7_1 + 1))), (2, .ref y864), (0, .ref v0)]) cx dX10_wakeNodes_84 hl (k := 2) rfl (by decide) rfl (fun ls hl => ?_)
              refine lv_goto (tgt := 7) cx.1 cx.2.1 dX10_wakeNodes_87 (by decide) ?_
              exact ih7 f930 (v7_1 + 1) (by omega) (by omega) z932 z933 z938 z939 z940 g941 (by omega) (tw_cg g942 (by have t0_ : x860 = (tw_wkl s0 (Int.toNat v7_1)) 0 3 := sx860; have t1_ : y868 = tw_do (tw_wkl s0 (Int.toNat v7_1)) v7_1 := t870; have t2_ : x888 = (tw_u (tw_wkl s0 (Int.toNat v7_1)) (1 + Int.toNat v7_1) 9 (tw_do (tw_wkl s0 (Int.toNat v7_1)) v7_1)) (1 + Int.toNat v7_1) 4 := Eq.trans sx888 (by simp only [t1_]); have t3_ : x891 = (tw_u (tw_wkl s0 (Int.toNat v7_1)) (1 + Int.toNat v7_1) 9 (tw_do (tw_wkl s0 (Int.toNat v7_1)) v7_1)) 0 7 := Eq.trans sx891 (by simp only [t1_]); have t4_ : y893 = tw_w (((tw_u (tw_wkl s0 (Int.toNat v7_1)) (1 + Int.toNat v7_1) 9 (tw_do (tw_wkl s0 (Int.toNat v7_1)) v7_1)) (1 + Int.toNat v7_1) 4) - ((tw_u (tw_wkl s0 (Int.toNat v7_1)) (1 + Int.toNat v7_1) 9 (tw_do (tw_wkl s0 (Int.toNat v7_1)) v7_1)) 0 7)) := Eq.trans (tw_w_of ry893 ey893) (by simp only [t2_, t3_]); have t5_ : y894 = max 0 (tw_w (((tw_u (tw_wkl s0 (Int.toNat v7_1)) (1 + Int.toNat v7_1) 9 (tw_do (tw_wkl s0 (Int.toNat v7_1)) v7_1)) (1 + Int.toNat v7_1) 4) - ((tw_u (tw_wkl s0 (Int.toNat v7_1)) (1 + Int.toNat v7_1) 9 (tw_do (tw_wkl s0 (Int.toNat v7_1)) v7_1)) 0 7))) := Eq.trans (tw_mx ay894 by894 ey894) (by simp only [t4_]); have t6_ : x906 = (tw_u (tw_u (tw_wkl s0 (Int.toNat v7_1)) (1 + Int.toNat v7_1) 9 (tw_do (tw_wkl s0 (Int.toNat v7_1)) v7_1)) (1 + Int.toNat v7_1) 4 (max 0 (tw_w (((tw_u (tw_wkl s0 (Int.toNat v7_1)) (1 + Int.toNat v7_1) 9 (tw_do (tw_wkl s0 (Int.toNat v7_1)) v7_1)) (1 + Int.toNat v7_1) 4) - ((tw_u (tw_wkl s0 (Int.toNat v7_1)) (1 + Int.toNat v7_1) 9 (tw_do (tw_wkl s0 (Int.toNat v7_1)) v7_1)) 0 7))))) (1 + Int.toNat v7_1) 4 := Eq.trans sx906 (by simp only [t1_, t5_]); have t7_ : x910 = (tw_u (tw_u (tw_wkl s0 (Int.toNat v7_1)) (1 + Int.toNat v7_1) 9 (tw_do (tw_wkl s0 (Int.toNat v7_1)) v7_1)) (1 + Int.toNat v7_1) 4 (max 0 (tw_w (((tw_u (tw_wkl s0 (Int.toNat v7_1)) (1 + Int.toNat v7_1) 9 (tw_do (tw_wkl s0 (Int.toNat v7_1)) v7_1)) (1 + Int.toNat v7_1) 4) - ((tw_u (tw_wkl s0 (Int.toNat v7_1)) (1 + Int.toNat v7_1) 9 (tw_do (tw_wkl s0 (Int.toNat v7_1)) v7_1)) 0 7))))) 0 13 := Eq.trans sx910 (by simp only [t1_, t5_]); have t8_ : y912 = tw_sl 1 v7_1 := (tw_sl_of ry912 ey912); have t9_ : y913 = tw_or ((tw_u (tw_u (tw_wkl s0 (Int.toNat v7_1)) (1 + Int.toNat v7_1) 9 (tw_do (tw_wkl s0 (Int.toNat v7_1)) v7_1)) (1 + Int.toNat v7_1) 4 (max 0 (tw_w (((tw_u (tw_wkl s0 (Int.toNat v7_1)) (1 + Int.toNat v7_1) 9 (tw_do (tw_wkl s0 (Int.toNat v7_1)) v7_1)) (1 + Int.toNat v7_1) 4) - ((tw_u (tw_wkl s0 (Int.toNat v7_1)) (1 + Int.toNat v7_1) 9 (tw_do (tw_wkl s0 (Int.toNat v7_1)) v7_1)) 0 7))))) 0 13) (tw_sl 1 v7_1) := Eq.trans (tw_or_of ry913 ey913) (by simp only [t7_, t8_]); have t10_ : x927 = (tw_u (tw_u (tw_u (tw_wkl s0 (Int.toNat v7_1)) (1 + Int.toNat v7_1) 9 (tw_do (tw_wkl s0 (Int.toNat v7_1)) v7_1)) (1 + Int.toNat v7_1) 4 (max 0 (tw_w (((tw_u (tw_wkl s0 (Int.toNat v7_1)) (1 + Int.toNat v7_1) 9 (tw_do (tw_wkl s0 (Int.toNat v7_1)) v7_1)) (1 + Int.toNat v7_1) 4) - ((tw_u (tw_wkl s0 (Int.toNat v7_1)) (1 + Int.toNat v7_1) 9 (tw_do (tw_wkl s0 (Int.toNat v7_1)) v7_1)) 0 7))))) 0 13 (tw_or ((tw_u (tw_u (tw_wkl s0 (Int.toNat v7_1)) (1 + Int.toNat v7_1) 9 (tw_do (tw_wkl s0 (Int.toNat v7_1)) v7_1)) (1 + Int.toNat v7_1) 4 (max 0 (tw_w (((tw_u (tw_wkl s0 (Int.toNat v7_1)) (1 + Int.toNat v7_1) 9 (tw_do (tw_wkl s0 (Int.toNat v7_1)) v7_1)) (1 + Int.toNat v7_1) 4) - ((tw_u (tw_wkl s0 (Int.toNat v7_1)) (1 + Int.toNat v7_1) 9 (tw_do (tw_wkl s0 (Int.toNat v7_1)) v7_1)) 0 7))))) 0 13) (tw_sl 1 v7_1))) (1 + Int.toNat v7_1) 6 := Eq.trans sx927 (by simp only [t1_, t5_, t9_]); have t11_ : y929 = tw_w (((tw_u (tw_u (tw_u (tw_wkl s0 (Int.toNat v7_1)) (1 + Int.toNat v7_1) 9 (tw_do (tw_wkl s0 (Int.toNat v7_1)) v7_1)) (1 + Int.toNat v7_1) 4 (max 0 (tw_w (((tw_u (tw_wkl s0 (Int.toNat v7_1)) (1 + Int.toNat v7_1) 9 (tw_do (tw_wkl s0 (Int.toNat v7_1)) v7_1)) (1 + Int.toNat v7_1) 4) - ((tw_u (tw_wkl s0 (Int.toNat v7_1)) (1 + Int.toNat v7_1) 9 (tw_do (tw_wkl s0 (Int.toNat v7_1)) v7_1)) 0 7))))) 0 13 (tw_or ((tw_u (tw_u (tw_wkl s0 (Int.toNat v7_1)) (1 + Int.toNat v7_1) 9 (tw_do (tw_wkl s0 (Int.toNat v7_1)) v7_1)) (1 + Int.toNat v7_1) 4 (max 0 (tw_w (((tw_u (tw_wkl s0 (Int.toNat v7_1)) (1 + Int.toNat v7_1) 9 (tw_do (tw_wkl s0 (Int.toNat v7_1)) v7_1)) (1 + Int.toNat v7_1) 4) - ((tw_u (tw_wkl s0 (Int.toNat v7_1)) (1 + Int.toNat v7_1) 9 (tw_do (tw_wkl s0 (Int.toNat v7_1)) v7_1)) 0 7))))) 0 13) (tw_sl 1 v7_1))) (1 + Int.toNat v7_1) 6) + 1) := Eq.trans (tw_w_of ry929 ey929) (by simp only [t10_]); have u0_ : tw_aw (tw_u (tw_wkl s0 (Int.toNat v7_1)) (1 + Int.toNat v7_1) 9 (tw_do (tw_wkl s0 (Int.toNat v7_1)) v7_1)) v7_1 = 1 := (by have e9 := t885; simp only [t1_] at e9; exact e9); (try simp only [t0_, t1_, t2_, t3_, t4_, t5_, t6_, t7_, t8_, t9_, t10_, t11_]); rw [tw_wkl_s (by omega)]; unfold tw_wk1 tw_wk2; (repeat' split) <;> first | rfl | (exfalso; omega))) (by omega) H locs hB ls (lv_sub hl [2, 0] rfl)
        · obtain ⟨rfl, qy881, t943⟩ := h884
          subst qy881
          refine q_ifeq (tgt := 84) cx ⟨by decide, by decide⟩ dX10_wakeNodes_35 (by decide) (fun c944 => ?_) (fun c944 => ?_)
          · refine q_iinc (lv' := [(1, .int (q_i (v7_1 + 1))), (2, .ref y864), (0, .ref v0)]) cx dX10_wakeNodes_84 hl (k := 2) rfl (by decide) rfl (fun ls hl => ?_)
            refine lv_goto (tgt := 7) cx.1 cx.2.1 dX10_wakeNodes_87 (by decide) ?_
            exact ih7 f871 (v7_1 + 1) (by omega) (by omega) z873 z874 z875 z876 z877 g878 (by omega) (tw_cg g879 (by have t0_ : x860 = (tw_wkl s0 (Int.toNat v7_1)) 0 3 := sx860; have t1_ : y868 = tw_do (tw_wkl s0 (Int.toNat v7_1)) v7_1 := t870; have u0_ : tw_aw (tw_u (tw_wkl s0 (Int.toNat v7_1)) (1 + Int.toNat v7_1) 9 (tw_do (tw_wkl s0 (Int.toNat v7_1)) v7_1)) v7_1 = 0 := (by have e9 := t943; simp only [t1_] at e9; exact e9); (try simp only [t0_, t1_]); rw [tw_wkl_s (by omega)]; unfold tw_wk1 tw_wk2; (repeat' split) <;> first | rfl | (exfalso; omega))) (by omega) H locs hB ls (lv_sub hl [2, 0] rfl)
          · exact absurd c944 (by omega)
  obtain ⟨H, hH⟩ : ∃ H : Heap, H = s.heap := ⟨_, rfl⟩
  obtain ⟨locs, hlocs⟩ : ∃ z : List Loc, z = [] := ⟨_, rfl⟩
  rw [← hH, ← hlocs] at hB
  rw [← hH, ← hlocs]
  refine q_ald_n cx dX10_wakeNodes_0 rfl (lv_at hl 0 rfl) ?_
  refine q_iconst cx dX10_wakeNodes_1 ?_
  refine q_pX10_262 cx hB hv0 kv0 ⟨by decide, by decide⟩ (by decide) (by decide) rfl dX10_wakeNodes_2 (fun H locs f945 ef945 z946 hB => ?_)
  have z947 : q_is (q_z f945 v0 11) tm := by rw [ef945, q_setz (Or.inr (by decide))]; exact hf0
  have z948 : q_is (q_z f945 v0 3) nn := by rw [ef945, q_setz (Or.inr (by decide))]; exact hf1
  have z949 : q_ir (q_r f945 v0 0) n0 := by rw [ef945, q_setr (Or.inr (by decide))]; exact hr0
  have z950 : q_ir (q_r f945 v0 1) l0 := by rw [ef945, q_setr (Or.inr (by decide))]; exact hr1
  have z951 : q_ir (q_r f945 v0 2) m0 := by rw [ef945, q_setr (Or.inr (by decide))]; exact hr2
  have g952 : tw_vw K L 10 5 3 4 f945 v0 n0 l0 m0 d0 (tw_u s0 0 13 0) := tw_vw_s hw0 (tw_v0 hw0) (by omega) (by omega) ef945 z946 (fun i9 => by rw [ef945, q_setr (Or.inl (fun q => by rw [q, kv0] at kn0; exact absurd kn0 (by decide)))]) (fun i9 => by rw [ef945, q_setr (Or.inl (fun q => by rw [q, kv0] at kl0; exact absurd kl0 (by decide)))]) (fun i9 => by rw [ef945, q_setr (Or.inl (fun q => by rw [q, kv0] at km0; exact absurd km0 (by decide)))])
  have g953 : tw_nw K L 5 f945 := tw_nw_tr hz0 (fun a9 h9 k9 => by rw [ef945, q_setj (Or.inl (fun q => by rw [q, kv0] at k9; exact absurd k9 (by decide)))])
  refine q_iconst cx dX10_wakeNodes_5 ?_
  refine lv_istore_n (lv' := [(1, .int (q_i 0)), (0, .ref v0)]) cx.1 cx.2.1 dX10_wakeNodes_6 rfl hl (by decide) rfl (fun ls hl => ?_)
  exact J7 ((Int.toNat (2147483647 - 0)) + 1) f945 0 (by decide) (by decide) z947 z948 z949 z950 z951 g953 (by omega) (tw_cg g952 rfl) (Nat.lt_succ_self _) H locs hB ls (lv_sub hl [1, 0] rfl)
set_option maxHeartbeats 4000000 in
set_option maxRecDepth 100000 in
theorem f_miss0 (l : Launch) (g : q_G) {K : Nat → Nat} {L : List Nat} (hN : L.Nodup) {f : Nat → va_E} (hT : q_Ty g K L f) (d0 : Nat → Nat) (s0 : tw_S) (v0 : Nat) (hv0 : v0 ∈ L) (kv0 : K v0 = 10) (p0 : Nat) (hp0 : p0 ∈ L) (kp0 : K p0 = 3) (n0 : Nat) (hn0 : n0 ∈ L) (kn0 : K n0 = 110) (l0 : Nat) (hl0 : l0 ∈ L) (kl0 : K l0 = 120) (m0 : Nat) (hm0 : m0 ∈ L) (km0 : K m0 = 130) (li : Int) (lli : 0 ≤ li) (uli : li ≤ 15) (hr0 : q_ir (q_r f v0 0) n0) (hr1 : q_ir (q_r f v0 1) l0) (hr2 : q_ir (q_r f v0 2) m0) (hp0 : p0 = d0 (11 + Int.toNat li)) (hw0 : tw_vw K L 10 5 3 4 f v0 n0 l0 m0 d0 s0) : q_Ct l g K L yX10_miss cX10_miss 4 none 1 21 [.ref v0, .ref p0] f [(3, 2, 2), (3, 4, 4), (5, 3, 3), (10, 12, 12)] (q_Pv (fun (f1 : Nat → va_E) => (tw_vw K L 10 5 3 4 f1 v0 n0 l0 m0 d0 (tw_mi s0 li)))) := by
  refine q_ofb (by decide +kernel) hN hT (Nat.le_of_ble_eq_true rfl) ?_
  intro p e s m below meth c ls cx hr hlk hB hl
  have hl : lv_has ls 4 [(0, .ref v0), (1, .ref p0)] := hl
  obtain ⟨H, hH⟩ : ∃ H : Heap, H = s.heap := ⟨_, rfl⟩
  obtain ⟨locs, hlocs⟩ : ∃ z : List Loc, z = [] := ⟨_, rfl⟩
  rw [← hH, ← hlocs] at hB
  rw [← hH, ← hlocs]
  refine q_ald_n cx dX10_miss_0 rfl (lv_at hl 1 rfl) ?_
  refine lv_dup cx.1 cx.2.1 dX10_miss_1 rfl ?_
  obtain ⟨x89, ex89⟩ : ∃ zz, q_is (q_z f p0 4) zz := ⟨_, q_isr _⟩
  obtain ⟨lx89, ux89⟩ := q_isb ex89 (q_fib hB.2.1 hp0 kp0 (by decide) rfl)
  obtain ⟨x90, ex90, nx90⟩ : ∃ zz, q_is (q_z f p0 4) zz ∧ zz = x89 := ⟨_, ex89, rfl⟩
  have sx90 : q_is x90 (s0 (11 + Int.toNat li) 4) := tw_g hw0 hp0 (by omega) (by omega) ex90
  refine q_gX10_128 cx hB hp0 kp0 ex90 dX10_miss_2 (fun lb91 ub91 => ?_)
  refine q_iconst cx dX10_miss_5 ?_
  refine q_iadd cx dX10_miss_6 ?_
  refine q_any (fun y92 ry92 ey92 => ?_)
  refine q_pX10_128 cx hB hp0 kp0 ⟨by omega, by omega⟩ (by omega) (by omega) rfl dX10_miss_7 (fun H locs f93 ef93 z94 hB => ?_)
  have z95 : q_ir (q_r f93 v0 0) n0 := by rw [ef93, q_setr (Or.inr (by decide))]; exact hr0
  have z96 : q_ir (q_r f93 v0 1) l0 := by rw [ef93, q_setr (Or.inr (by decide))]; exact hr1
  have z97 : q_ir (q_r f93 v0 2) m0 := by rw [ef93, q_setr (Or.inr (by decide))]; exact hr2
  have g98 : tw_vw K L 10 5 3 4 f93 v0 n0 l0 m0 d0 (tw_u s0 (11 + Int.toNat li) 4 y92) := tw_vw_s hw0 hp0 (by omega) (by omega) ef93 z94 (fun i9 => by rw [ef93, q_setr (Or.inl (fun q => by rw [q, kp0] at kn0; exact absurd kn0 (by decide)))]) (fun i9 => by rw [ef93, q_setr (Or.inl (fun q => by rw [q, kp0] at kl0; exact absurd kl0 (by decide)))]) (fun i9 => by rw [ef93, q_setr (Or.inl (fun q => by rw [q, kp0] at km0; exact absurd km0 (by decide)))])
  refine q_ald_n cx dX10_miss_10 rfl (lv_at hl 1 rfl) ?_
  refine lv_dup cx.1 cx.2.1 dX10_miss_11 rfl ?_
  obtain ⟨x99, ex99⟩ : ∃ zz, q_is (q_z f93 p0 2) zz := ⟨_, q_isr _⟩
  obtain ⟨lx99, ux99⟩ := q_isb ex99 (q_fib hB.2.1 hp0 kp0 (by decide) rfl)
  obtain ⟨x100, ex100, nx100⟩ : ∃ zz, q_is (q_z f93 p0 2) zz ∧ zz = x99 := ⟨_, ex99, rfl⟩
  have sx100 : q_is x100 ((tw_u s0 (11 + Int.toNat li) 4 y92) (11 + Int.toNat li) 2) := tw_g g98 hp0 (by omega) (by omega) ex100
  refine q_gX10_122 cx hB hp0 kp0 ex100 dX10_miss_12 (fun lb101 ub101 => ?_)
  refine q_iconst cx dX10_miss_15 ?_
  refine q_iadd cx dX10_miss_16 ?_
  refine q_any (fun y102 ry102 ey102 => ?_)
  refine q_pX10_122 cx hB hp0 kp0 ⟨by omega, by omega⟩ (by omega) (by omega) rfl dX10_miss_17 (fun H locs f103 ef103 z104 hB => ?_)
  have z105 : q_is (q_z f103 p0 4) y92 := by rw [ef103, q_setz (Or.inr (by decide))]; exact z94
  have z106 : q_ir (q_r f103 v0 0) n0 := by rw [ef103, q_setr (Or.inr (by decide))]; exact z95
  have z107 : q_ir (q_r f103 v0 1) l0 := by rw [ef103, q_setr (Or.inr (by decide))]; exact z96
  have z108 : q_ir (q_r f103 v0 2) m0 := by rw [ef103, q_setr (Or.inl (fun q => by rw [q, kp0] at kv0; exact absurd kv0 (by decide)))]; exact z97
  have g109 : tw_vw K L 10 5 3 4 f103 v0 n0 l0 m0 d0 (tw_u (tw_u s0 (11 + Int.toNat li) 4 y92) (11 + Int.toNat li) 2 y102) := tw_vw_s g98 hp0 (by omega) (by omega) ef103 z104 (fun i9 => by rw [ef103, q_setr (Or.inl (fun q => by rw [q, kp0] at kn0; exact absurd kn0 (by decide)))]) (fun i9 => by rw [ef103, q_setr (Or.inl (fun q => by rw [q, kp0] at kl0; exact absurd kl0 (by decide)))]) (fun i9 => by rw [ef103, q_setr (Or.inl (fun q => by rw [q, kp0] at km0; exact absurd km0 (by decide)))])
  refine q_ald_n cx dX10_miss_20 rfl (lv_at hl 1 rfl) ?_
  obtain ⟨x110, ex110, nx110⟩ : ∃ zz, q_is (q_z f103 p0 2) zz ∧ zz = y102 := ⟨_, z104, rfl⟩
  have sx110 : q_is x110 ((tw_u (tw_u s0 (11 + Int.toNat li) 4 y92) (11 + Int.toNat li) 2 y102) (11 + Int.toNat li) 2) := tw_g g109 hp0 (by omega) (by omega) ex110
  refine q_gX10_122 cx hB hp0 kp0 ex110 dX10_miss_21 (fun lb111 ub111 => ?_)
  refine q_ald_n cx dX10_miss_24 rfl (lv_at hl 0 rfl) ?_
  obtain ⟨x112, ex112⟩ : ∃ zz, q_is (q_z f103 v0 10) zz := ⟨_, q_isr _⟩
  obtain ⟨lx112, ux112⟩ := q_isb ex112 (q_fib hB.2.1 hv0 kv0 (by decide) rfl)
  obtain ⟨x113, ex113, nx113⟩ : ∃ zz, q_is (q_z f103 v0 10) zz ∧ zz = x112 := ⟨_, ex112, rfl⟩
  have sx113 : q_is x113 ((tw_u (tw_u s0 (11 + Int.toNat li) 4 y92) (11 + Int.toNat li) 2 y102) 0 10) := tw_g g109 (tw_v0 hw0) (by omega) (by omega) ex113
  refine q_gX10_57 cx hB hv0 kv0 ex113 dX10_miss_25 (fun lb114 ub114 => ?_)
  refine q_iclt (tgt := 86) cx ⟨by omega, by omega⟩ ⟨by omega, by omega⟩ dX10_miss_28 (by decide) (fun c115 => ?_) (fun c115 => ?_)
  · refine q_vret cx hr hlk hB dX10_miss_86 ?_
    exact (tw_cg g109 (by have t0_ : x90 = s0 (11 + Int.toNat li) 4 := sx90; have t1_ : y92 = tw_w ((s0 (11 + Int.toNat li) 4) + 1) := Eq.trans (tw_w_of ry92 ey92) (by simp only [t0_]); have t2_ : x100 = (tw_u s0 (11 + Int.toNat li) 4 (tw_w ((s0 (11 + Int.toNat li) 4) + 1))) (11 + Int.toNat li) 2 := Eq.trans sx100 (by simp only [t1_]); have t3_ : y102 = tw_w (((tw_u s0 (11 + Int.toNat li) 4 (tw_w ((s0 (11 + Int.toNat li) 4) + 1))) (11 + Int.toNat li) 2) + 1) := Eq.trans (tw_w_of ry102 ey102) (by simp only [t2_]); have t4_ : x110 = (tw_u (tw_u s0 (11 + Int.toNat li) 4 (tw_w ((s0 (11 + Int.toNat li) 4) + 1))) (11 + Int.toNat li) 2 (tw_w (((tw_u s0 (11 + Int.toNat li) 4 (tw_w ((s0 (11 + Int.toNat li) 4) + 1))) (11 + Int.toNat li) 2) + 1))) (11 + Int.toNat li) 2 := Eq.trans sx110 (by simp only [t1_, t3_]); have t5_ : x113 = (tw_u (tw_u s0 (11 + Int.toNat li) 4 (tw_w ((s0 (11 + Int.toNat li) 4) + 1))) (11 + Int.toNat li) 2 (tw_w (((tw_u s0 (11 + Int.toNat li) 4 (tw_w ((s0 (11 + Int.toNat li) 4) + 1))) (11 + Int.toNat li) 2) + 1))) 0 10 := Eq.trans sx113 (by simp only [t1_, t3_]); (try simp only [t0_, t1_, t2_, t3_, t4_, t5_]); unfold tw_mi tw_mi2; (repeat' split) <;> first | rfl | (exfalso; omega)))
  · refine q_ald_n cx dX10_miss_31 rfl (lv_at hl 1 rfl) ?_
    obtain ⟨x116, ex116⟩ : ∃ zz, q_is (q_z f103 p0 0) zz := ⟨_, q_isr _⟩
    obtain ⟨lx116, ux116⟩ := q_isb ex116 (q_fib hB.2.1 hp0 kp0 (by decide) rfl)
    obtain ⟨x117, ex117, nx117⟩ : ∃ zz, q_is (q_z f103 p0 0) zz ∧ zz = x116 := ⟨_, ex116, rfl⟩
    have sx117 : q_is x117 ((tw_u (tw_u s0 (11 + Int.toNat li) 4 y92) (11 + Int.toNat li) 2 y102) (11 + Int.toNat li) 0) := tw_g g109 hp0 (by omega) (by omega) ex117
    refine q_gX10_116 cx hB hp0 kp0 ex117 dX10_miss_32 (fun lb118 ub118 => ?_)
    refine q_ald_n cx dX10_miss_35 rfl (lv_at hl 1 rfl) ?_
    obtain ⟨x119, ex119⟩ : ∃ zz, q_is (q_z f103 p0 1) zz := ⟨_, q_isr _⟩
    obtain ⟨lx119, ux119⟩ := q_isb ex119 (q_fib hB.2.1 hp0 kp0 (by decide) rfl)
    obtain ⟨x120, ex120, nx120⟩ : ∃ zz, q_is (q_z f103 p0 1) zz ∧ zz = x119 := ⟨_, ex119, rfl⟩
    have sx120 : q_is x120 ((tw_u (tw_u s0 (11 + Int.toNat li) 4 y92) (11 + Int.toNat li) 2 y102) (11 + Int.toNat li) 1) := tw_g g109 hp0 (by omega) (by omega) ex120
    refine q_gX10_119 cx hB hp0 kp0 ex120 dX10_miss_36 (fun lb121 ub121 => ?_)
    refine q_mmin (rest := []) cx hl.1 q_h1421 q_h994 q_h56 q_h995 (by decide) (Nat.le_of_ble_eq_true rfl) (by decide) (by decide) ⟨by omega, by omega⟩ ⟨by omega, by omega⟩ dX10_miss_39 (fun y122 ay122 by122 ey122 => ?_)
    refine lv_istore_n (lv' := [(2, .int (q_i y122)), (0, .ref v0), (1, .ref p0)]) cx.1 cx.2.1 dX10_miss_42 rfl hl (by decide) rfl (fun ls hl => ?_)
    refine q_ald_n cx dX10_miss_43 rfl (lv_at hl 2 rfl) ?_
    obtain ⟨x123, ex123, nx123⟩ : ∃ zz, q_is (q_z f103 p0 0) zz ∧ zz = x116 := ⟨_, ex116, rfl⟩
    have sx123 : q_is x123 ((tw_u (tw_u s0 (11 + Int.toNat li) 4 y92) (11 + Int.toNat li) 2 y102) (11 + Int.toNat li) 0) := tw_g g109 hp0 (by omega) (by omega) ex123
    refine q_gX10_116 cx hB hp0 kp0 ex123 dX10_miss_44 (fun lb124 ub124 => ?_)
    refine q_ald_n cx dX10_miss_47 rfl (lv_at hl 2 rfl) ?_
    obtain ⟨x125, ex125, nx125⟩ : ∃ zz, q_is (q_z f103 p0 1) zz ∧ zz = x119 := ⟨_, ex119, rfl⟩
    have sx125 : q_is x125 ((tw_u (tw_u s0 (11 + Int.toNat li) 4 y92) (11 + Int.toNat li) 2 y102) (11 + Int.toNat li) 1) := tw_g g109 hp0 (by omega) (by omega) ex125
    refine q_gX10_119 cx hB hp0 kp0 ex125 dX10_miss_48 (fun lb126 ub126 => ?_)
    refine q_mmax (rest := []) cx hl.1 q_h1412 q_h976 q_h56 q_h977 (by decide) (Nat.le_of_ble_eq_true rfl) (by decide) (by decide) ⟨by omega, by omega⟩ ⟨by omega, by omega⟩ dX10_miss_51 (fun y127 ay127 by127 ey127 => ?_)
    refine lv_istore_n (lv' := [(3, .int (q_i y127)), (2, .int (q_i y122)), (0, .ref v0), (1, .ref p0)]) cx.1 cx.2.1 dX10_miss_54 rfl hl (by decide) rfl (fun ls hl => ?_)
    refine q_ald_n cx dX10_miss_55 rfl (lv_at hl 2 rfl) ?_
    refine q_ild_n cx dX10_miss_56 rfl (lv_at hl 0 rfl) ?_
    refine q_cVr (As := [.int (q_i y127)]) (rest := []) cx hB (fun _ h => h) hN hv0 kv0 (by decide) rfl (f_nodeAt0 l g hN hB.2.1 d0 (tw_u (tw_u s0 (11 + Int.toNat li) 4 y92) (11 + Int.toNat li) 2 y102) v0 hv0 kv0 y127 (by omega) (by omega) n0 hn0 kn0 l0 hl0 kl0 m0 hm0 km0 z106 z107 z108 g109) q_cX10_66 q_dX10_nodeAt (by decide) rfl rfl hl.1 rfl (Nat.le_of_ble_eq_true rfl) dX10_miss_57 (fun y129 H locs f128 h130 hF hB => ?_)
    obtain ⟨rfl, hy129, ky129, t131⟩ := h130
    refine q_ald_n cx dX10_miss_60 rfl (lv_at hl 2 rfl) ?_
    refine q_ild_n cx dX10_miss_61 rfl (lv_at hl 1 rfl) ?_
    refine q_cVr (As := [.int (q_i y122)]) (rest := [.ref y129]) cx hB (fun _ h => h) hN hv0 kv0 (by decide) rfl (f_nodeAt0 l g hN hB.2.1 d0 (tw_u (tw_u s0 (11 + Int.toNat li) 4 y92) (11 + Int.toNat li) 2 y102) v0 hv0 kv0 y122 (by omega) (by omega) n0 hn0 kn0 l0 hl0 kl0 m0 hm0 km0 z106 z107 z108 g109) q_cX10_66 q_dX10_nodeAt (by decide) rfl rfl hl.1 rfl (Nat.le_of_ble_eq_true rfl) dX10_miss_62 (fun y133 H locs f132 h134 hF hB => ?_)
    obtain ⟨rfl, hy133, ky133, t135⟩ := h134
    obtain ⟨x136, ex136⟩ : ∃ zz, q_is (q_z f103 y133 3) zz := ⟨_, q_isr _⟩
    obtain ⟨lx136, ux136⟩ := q_isb ex136 (q_fib hB.2.1 hy133 ky133 (by decide) rfl)
    obtain ⟨x137, ex137, nx137⟩ : ∃ zz, q_is (q_z f103 y133 3) zz ∧ zz = x136 := ⟨_, ex136, rfl⟩
    have sx137 : q_is x137 ((tw_u (tw_u s0 (11 + Int.toNat li) 4 y92) (11 + Int.toNat li) 2 y102) (1 + Int.toNat y122) 3) := tw_g g109 t135 (by omega) (by omega) ex137
    refine q_gX10_98 cx hB hy133 ky133 ex137 dX10_miss_65 (fun lb138 ub138 => ?_)
    refine q_pX10_98 cx hB hy129 ky129 ⟨by omega, by omega⟩ (by omega) (by omega) rfl dX10_miss_68 (fun H locs f139 ef139 z140 hB => ?_)
    have z141 : q_is (q_z f139 p0 4) y92 := by rw [ef139, q_setz (Or.inr (by decide))]; exact z105
    have z142 : q_is (q_z f139 p0 2) y102 := by rw [ef139, q_setz (Or.inr (by decide))]; exact z104
    have z143 : q_is (q_z f139 v0 10) x112 := by rw [ef139, q_setz (Or.inr (by decide))]; exact ex112
    have z144 : q_is (q_z f139 p0 0) x116 := by rw [ef139, q_setz (Or.inr (by decide))]; exact ex116
    have z145 : q_is (q_z f139 p0 1) x119 := by rw [ef139, q_setz (Or.inr (by decide))]; exact ex119
    have z146 : q_ir (q_r f139 v0 0) n0 := by rw [ef139, q_setr (Or.inr (by decide))]; exact z106
    have z147 : q_ir (q_r f139 v0 1) l0 := by rw [ef139, q_setr (Or.inr (by decide))]; exact z107
    have z148 : q_ir (q_r f139 v0 2) m0 := by rw [ef139, q_setr (Or.inr (by decide))]; exact z108
    have g149 : tw_vw K L 10 5 3 4 f139 v0 n0 l0 m0 d0 (tw_u (tw_u (tw_u s0 (11 + Int.toNat li) 4 y92) (11 + Int.toNat li) 2 y102) (1 + Int.toNat y127) 3 x137) := tw_vw_s g109 t131 (by omega) (by omega) ef139 z140 (fun i9 => by rw [ef139, q_setr (Or.inl (fun q => by rw [q, ky129] at kn0; exact absurd kn0 (by decide)))]) (fun i9 => by rw [ef139, q_setr (Or.inl (fun q => by rw [q, ky129] at kl0; exact absurd kl0 (by decide)))]) (fun i9 => by rw [ef139, q_setr (Or.inl (fun q => by rw [q, ky129] at km0; exact absurd km0 (by decide)))])
    refine q_ald_n cx dX10_miss_71 rfl (lv_at hl 3 rfl) ?_
    refine q_iconst cx dX10_miss_72 ?_
    refine q_pX10_122 cx hB hp0 kp0 ⟨by decide, by decide⟩ (by decide) (by decide) rfl dX10_miss_73 (fun H locs f150 ef150 z151 hB => ?_)
    have z152 : q_is (q_z f150 p0 4) y92 := by rw [ef150, q_setz (Or.inr (by decide))]; exact z141
    have z153 : q_is (q_z f150 v0 10) x112 := by rw [ef150, q_setz (Or.inr (by decide))]; exact z143
    have z154 : q_is (q_z f150 p0 0) x116 := by rw [ef150, q_setz (Or.inr (by decide))]; exact z144
    have z155 : q_is (q_z f150 p0 1) x119 := by rw [ef150, q_setz (Or.inr (by decide))]; exact z145
    have z156 : q_is (q_z f150 y129 3) x137 := by rw [ef150, q_setz (Or.inr (by decide))]; exact z140
    have z157 : q_ir (q_r f150 v0 0) n0 := by rw [ef150, q_setr (Or.inr (by decide))]; exact z146
    have z158 : q_ir (q_r f150 v0 1) l0 := by rw [ef150, q_setr (Or.inr (by decide))]; exact z147
    have z159 : q_ir (q_r f150 v0 2) m0 := by rw [ef150, q_setr (Or.inl (fun q => by rw [q, kp0] at kv0; exact absurd kv0 (by decide)))]; exact z148
    have g160 : tw_vw K L 10 5 3 4 f150 v0 n0 l0 m0 d0 (tw_u (tw_u (tw_u (tw_u s0 (11 + Int.toNat li) 4 y92) (11 + Int.toNat li) 2 y102) (1 + Int.toNat y127) 3 x137) (11 + Int.toNat li) 2 0) := tw_vw_s g149 hp0 (by omega) (by omega) ef150 z151 (fun i9 => by rw [ef150, q_setr (Or.inl (fun q => by rw [q, kp0] at kn0; exact absurd kn0 (by decide)))]) (fun i9 => by rw [ef150, q_setr (Or.inl (fun q => by rw [q, kp0] at kl0; exact absurd kl0 (by decide)))]) (fun i9 => by rw [ef150, q_setr (Or.inl (fun q => by rw [q, kp0] at km0; exact absurd km0 (by decide)))])
    refine q_ald_n cx dX10_miss_76 rfl (lv_at hl 2 rfl) ?_
    refine lv_dup cx.1 cx.2.1 dX10_miss_77 rfl ?_
    obtain ⟨x161, ex161⟩ : ∃ zz, q_is (q_z f150 v0 12) zz := ⟨_, q_isr _⟩
    obtain ⟨lx161, ux161⟩ := q_isb ex161 (q_fib hB.2.1 hv0 kv0 (by decide) rfl)
    obtain ⟨x162, ex162, nx162⟩ : ∃ zz, q_is (q_z f150 v0 12) zz ∧ zz = x161 := ⟨_, ex161, rfl⟩
    have sx162 : q_is x162 ((tw_u (tw_u (tw_u (tw_u s0 (11 + Int.toNat li) 4 y92) (11 + Int.toNat li) 2 y102) (1 + Int.toNat y127) 3 x137) (11 + Int.toNat li) 2 0) 0 12) := tw_g g160 (tw_v0 hw0) (by omega) (by omega) ex162
    refine q_gX10_63 cx hB hv0 kv0 ex162 dX10_miss_78 (fun lb163 ub163 => ?_)
    refine q_iconst cx dX10_miss_81 ?_
    refine q_iadd cx dX10_miss_82 ?_
    refine q_any (fun y164 ry164 ey164 => ?_)
    refine q_pX10_63 cx hB hv0 kv0 ⟨by omega, by omega⟩ (by omega) (by omega) rfl dX10_miss_83 (fun H locs f165 ef165 z166 hB => ?_)
    have z167 : q_is (q_z f165 p0 4) y92 := by rw [ef165, q_setz (Or.inr (by decide))]; exact z152
    have z168 : q_is (q_z f165 v0 10) x112 := by rw [ef165, q_setz (Or.inr (by decide))]; exact z153
    have z169 : q_is (q_z f165 p0 0) x116 := by rw [ef165, q_setz (Or.inr (by decide))]; exact z154
    have z170 : q_is (q_z f165 p0 1) x119 := by rw [ef165, q_setz (Or.inr (by decide))]; exact z155
    have z171 : q_is (q_z f165 y129 3) x137 := by rw [ef165, q_setz (Or.inr (by decide))]; exact z156
    have z172 : q_is (q_z f165 p0 2) 0 := by rw [ef165, q_setz (Or.inr (by decide))]; exact z151
    have z173 : q_ir (q_r f165 v0 0) n0 := by rw [ef165, q_setr (Or.inr (by decide))]; exact z157
    have z174 : q_ir (q_r f165 v0 1) l0 := by rw [ef165, q_setr (Or.inr (by decide))]; exact z158
    have z175 : q_ir (q_r f165 v0 2) m0 := by rw [ef165, q_setr (Or.inr (by decide))]; exact z159
    have g176 : tw_vw K L 10 5 3 4 f165 v0 n0 l0 m0 d0 (tw_u (tw_u (tw_u (tw_u (tw_u s0 (11 + Int.toNat li) 4 y92) (11 + Int.toNat li) 2 y102) (1 + Int.toNat y127) 3 x137) (11 + Int.toNat li) 2 0) 0 12 y164) := tw_vw_s g160 (tw_v0 hw0) (by omega) (by omega) ef165 z166 (fun i9 => by rw [ef165, q_setr (Or.inl (fun q => by rw [q, kv0] at kn0; exact absurd kn0 (by decide)))]) (fun i9 => by rw [ef165, q_setr (Or.inl (fun q => by rw [q, kv0] at kl0; exact absurd kl0 (by decide)))]) (fun i9 => by rw [ef165, q_setr (Or.inl (fun q => by rw [q, kv0] at km0; exact absurd km0 (by decide)))])
    refine q_vret cx hr hlk hB dX10_miss_86 ?_
    exact (tw_cg g176 (by have t0_ : x90 = s0 (11 + Int.toNat li) 4 := sx90; have t1_ : y92 = tw_w ((s0 (11 + Int.toNat li) 4) + 1) := Eq.trans (tw_w_of ry92 ey92) (by simp only [t0_]); have t2_ : x100 = (tw_u s0 (11 + Int.toNat li) 4 (tw_w ((s0 (11 + Int.toNat li) 4) + 1))) (11 + Int.toNat li) 2 := Eq.trans sx100 (by simp only [t1_]); have t3_ : y102 = tw_w (((tw_u s0 (11 + Int.toNat li) 4 (tw_w ((s0 (11 + Int.toNat li) 4) + 1))) (11 + Int.toNat li) 2) + 1) := Eq.trans (tw_w_of ry102 ey102) (by simp only [t2_]); have t4_ : x110 = (tw_u (tw_u s0 (11 + Int.toNat li) 4 (tw_w ((s0 (11 + Int.toNat li) 4) + 1))) (11 + Int.toNat li) 2 (tw_w (((tw_u s0 (11 + Int.toNat li) 4 (tw_w ((s0 (11 + Int.toNat li) 4) + 1))) (11 + Int.toNat li) 2) + 1))) (11 + Int.toNat li) 2 := Eq.trans sx110 (by simp only [t1_, t3_]); have t5_ : x113 = (tw_u (tw_u s0 (11 + Int.toNat li) 4 (tw_w ((s0 (11 + Int.toNat li) 4) + 1))) (11 + Int.toNat li) 2 (tw_w (((tw_u s0 (11 + Int.toNat li) 4 (tw_w ((s0 (11 + Int.toNat li) 4) + 1))) (11 + Int.toNat li) 2) + 1))) 0 10 := Eq.trans sx113 (by simp only [t1_, t3_]); have t6_ : x117 = (tw_u (tw_u s0 (11 + Int.toNat li) 4 (tw_w ((s0 (11 + Int.toNat li) 4) + 1))) (11 + Int.toNat li) 2 (tw_w (((tw_u s0 (11 + Int.toNat li) 4 (tw_w ((s0 (11 + Int.toNat li) 4) + 1))) (11 + Int.toNat li) 2) + 1))) (11 + Int.toNat li) 0 := Eq.trans sx117 (by simp only [t1_, t3_]); have t7_ : x120 = (tw_u (tw_u s0 (11 + Int.toNat li) 4 (tw_w ((s0 (11 + Int.toNat li) 4) + 1))) (11 + Int.toNat li) 2 (tw_w (((tw_u s0 (11 + Int.toNat li) 4 (tw_w ((s0 (11 + Int.toNat li) 4) + 1))) (11 + Int.toNat li) 2) + 1))) (11 + Int.toNat li) 1 := Eq.trans sx120 (by simp only [t1_, t3_]); have t8_ : y122 = min ((tw_u (tw_u s0 (11 + Int.toNat li) 4 (tw_w ((s0 (11 + Int.toNat li) 4) + 1))) (11 + Int.toNat li) 2 (tw_w (((tw_u s0 (11 + Int.toNat li) 4 (tw_w ((s0 (11 + Int.toNat li) 4) + 1))) (11 + Int.toNat li) 2) + 1))) (11 + Int.toNat li) 0) ((tw_u (tw_u s0 (11 + Int.toNat li) 4 (tw_w ((s0 (11 + Int.toNat li) 4) + 1))) (11 + Int.toNat li) 2 (tw_w (((tw_u s0 (11 + Int.toNat li) 4 (tw_w ((s0 (11 + Int.toNat li) 4) + 1))) (11 + Int.toNat li) 2) + 1))) (11 + Int.toNat li) 1) := Eq.trans (tw_mn ay122 by122 ey122) (by simp only [t6_, t7_]); have t9_ : x123 = (tw_u (tw_u s0 (11 + Int.toNat li) 4 (tw_w ((s0 (11 + Int.toNat li) 4) + 1))) (11 + Int.toNat li) 2 (tw_w (((tw_u s0 (11 + Int.toNat li) 4 (tw_w ((s0 (11 + Int.toNat li) 4) + 1))) (11 + Int.toNat li) 2) + 1))) (11 + Int.toNat li) 0 := Eq.trans sx123 (by simp only [t1_, t3_]); have t10_ : x125 = (tw_u (tw_u s0 (11 + Int.toNat li) 4 (tw_w ((s0 (11 + Int.toNat li) 4) + 1))) (11 + Int.toNat li) 2 (tw_w (((tw_u s0 (11 + Int.toNat li) 4 (tw_w ((s0 (11 + Int.toNat li) 4) + 1))) (11 + Int.toNat li) 2) + 1))) (11 + Int.toNat li) 1 := Eq.trans sx125 (by simp only [t1_, t3_]); have t11_ : y127 = max ((tw_u (tw_u s0 (11 + Int.toNat li) 4 (tw_w ((s0 (11 + Int.toNat li) 4) + 1))) (11 + Int.toNat li) 2 (tw_w (((tw_u s0 (11 + Int.toNat li) 4 (tw_w ((s0 (11 + Int.toNat li) 4) + 1))) (11 + Int.toNat li) 2) + 1))) (11 + Int.toNat li) 0) ((tw_u (tw_u s0 (11 + Int.toNat li) 4 (tw_w ((s0 (11 + Int.toNat li) 4) + 1))) (11 + Int.toNat li) 2 (tw_w (((tw_u s0 (11 + Int.toNat li) 4 (tw_w ((s0 (11 + Int.toNat li) 4) + 1))) (11 + Int.toNat li) 2) + 1))) (11 + Int.toNat li) 1) := Eq.trans (tw_mx ay127 by127 ey127) (by simp only [t9_, t10_]); have t12_ : x137 = (tw_u (tw_u s0 (11 + Int.toNat li) 4 (tw_w ((s0 (11 + Int.toNat li) 4) + 1))) (11 + Int.toNat li) 2 (tw_w (((tw_u s0 (11 + Int.toNat li) 4 (tw_w ((s0 (11 + Int.toNat li) 4) + 1))) (11 + Int.toNat li) 2) + 1))) (1 + Int.toNat (min ((tw_u (tw_u s0 (11 + Int.toNat li) 4 (tw_w ((s0 (11 + Int.toNat li) 4) + 1))) (11 + Int.toNat li) 2 (tw_w (((tw_u s0 (11 + Int.toNat li) 4 (tw_w ((s0 (11 + Int.toNat li) 4) + 1))) (11 + Int.toNat li) 2) + 1))) (11 + Int.toNat li) 0) ((tw_u (tw_u s0 (11 + Int.toNat li) 4 (tw_w ((s0 (11 + Int.toNat li) 4) + 1))) (11 + Int.toNat li) 2 (tw_w (((tw_u s0 (11 + Int.toNat li) 4 (tw_w ((s0 (11 + Int.toNat li) 4) + 1))) (11 + Int.toNat li) 2) + 1))) (11 + Int.toNat li) 1))) 3 := Eq.trans sx137 (by simp only [t1_, t3_, t8_]); have t13_ : x162 = (tw_u (tw_u (tw_u (tw_u s0 (11 + Int.toNat li) 4 (tw_w ((s0 (11 + Int.toNat li) 4) + 1))) (11 + Int.toNat li) 2 (tw_w (((tw_u s0 (11 + Int.toNat li) 4 (tw_w ((s0 (11 + Int.toNat li) 4) + 1))) (11 + Int.toNat li) 2) + 1))) (1 + Int.toNat (max ((tw_u (tw_u s0 (11 + Int.toNat li) 4 (tw_w ((s0 (11 + Int.toNat li) 4) + 1))) (11 + Int.toNat li) 2 (tw_w (((tw_u s0 (11 + Int.toNat li) 4 (tw_w ((s0 (11 + Int.toNat li) 4) + 1))) (11 + Int.toNat li) 2) + 1))) (11 + Int.toNat li) 0) ((tw_u (tw_u s0 (11 + Int.toNat li) 4 (tw_w ((s0 (11 + Int.toNat li) 4) + 1))) (11 + Int.toNat li) 2 (tw_w (((tw_u s0 (11 + Int.toNat li) 4 (tw_w ((s0 (11 + Int.toNat li) 4) + 1))) (11 + Int.toNat li) 2) + 1))) (11 + Int.toNat li) 1))) 3 ((tw_u (tw_u s0 (11 + Int.toNat li) 4 (tw_w ((s0 (11 + Int.toNat li) 4) + 1))) (11 + Int.toNat li) 2 (tw_w (((tw_u s0 (11 + Int.toNat li) 4 (tw_w ((s0 (11 + Int.toNat li) 4) + 1))) (11 + Int.toNat li) 2) + 1))) (1 + Int.toNat (min ((tw_u (tw_u s0 (11 + Int.toNat li) 4 (tw_w ((s0 (11 + Int.toNat li) 4) + 1))) (11 + Int.toNat li) 2 (tw_w (((tw_u s0 (11 + Int.toNat li) 4 (tw_w ((s0 (11 + Int.toNat li) 4) + 1))) (11 + Int.toNat li) 2) + 1))) (11 + Int.toNat li) 0) ((tw_u (tw_u s0 (11 + Int.toNat li) 4 (tw_w ((s0 (11 + Int.toNat li) 4) + 1))) (11 + Int.toNat li) 2 (tw_w (((tw_u s0 (11 + Int.toNat li) 4 (tw_w ((s0 (11 + Int.toNat li) 4) + 1))) (11 + Int.toNat li) 2) + 1))) (11 + Int.toNat li) 1))) 3)) (11 + Int.toNat li) 2 0) 0 12 := Eq.trans sx162 (by simp only [t1_, t3_, t11_, t12_]); have t14_ : y164 = tw_w (((tw_u (tw_u (tw_u (tw_u s0 (11 + Int.toNat li) 4 (tw_w ((s0 (11 + Int.toNat li) 4) + 1))) (11 + Int.toNat li) 2 (tw_w (((tw_u s0 (11 + Int.toNat li) 4 (tw_w ((s0 (11 + Int.toNat li) 4) + 1))) (11 + Int.toNat li) 2) + 1))) (1 + Int.toNat (max ((tw_u (tw_u s0 (11 + Int.toNat li) 4 (tw_w ((s0 (11 + Int.toNat li) 4) + 1))) (11 + Int.toNat li) 2 (tw_w (((tw_u s0 (11 + Int.toNat li) 4 (tw_w ((s0 (11 + Int.toNat li) 4) + 1))) (11 + Int.toNat li) 2) + 1))) (11 + Int.toNat li) 0) ((tw_u (tw_u s0 (11 + Int.toNat li) 4 (tw_w ((s0 (11 + Int.toNat li) 4) + 1))) (11 + Int.toNat li) 2 (tw_w (((tw_u s0 (11 + Int.toNat li) 4 (tw_w ((s0 (11 + Int.toNat li) 4) + 1))) (11 + Int.toNat li) 2) + 1))) (11 + Int.toNat li) 1))) 3 ((tw_u (tw_u s0 (11 + Int.toNat li) 4 (tw_w ((s0 (11 + Int.toNat li) 4) + 1))) (11 + Int.toNat li) 2 (tw_w (((tw_u s0 (11 + Int.toNat li) 4 (tw_w ((s0 (11 + Int.toNat li) 4) + 1))) (11 + Int.toNat li) 2) + 1))) (1 + Int.toNat (min ((tw_u (tw_u s0 (11 + Int.toNat li) 4 (tw_w ((s0 (11 + Int.toNat li) 4) + 1))) (11 + Int.toNat li) 2 (tw_w (((tw_u s0 (11 + Int.toNat li) 4 (tw_w ((s0 (11 + Int.toNat li) 4) + 1))) (11 + Int.toNat li) 2) + 1))) (11 + Int.toNat li) 0) ((tw_u (tw_u s0 (11 + Int.toNat li) 4 (tw_w ((s0 (11 + Int.toNat li) 4) + 1))) (11 + Int.toNat li) 2 (tw_w (((tw_u s0 (11 + Int.toNat li) 4 (tw_w ((s0 (11 + Int.toNat li) 4) + 1))) (11 + Int.toNat li) 2) + 1))) (11 + Int.toNat li) 1))) 3)) (11 + Int.toNat li) 2 0) 0 12) + 1) := Eq.trans (tw_w_of ry164 ey164) (by simp only [t13_]); (try simp only [t0_, t1_, t2_, t3_, t4_, t5_, t6_, t7_, t8_, t9_, t10_, t11_, t12_, t13_, t14_]); unfold tw_mi tw_mi2; (repeat' split) <;> first | rfl | (exfalso; omega)))
