set_option maxHeartbeats 4000000 in
set_option maxRecDepth 100000 in
theorem f_vcopy08 (l : Launch) (g : q_G) {K : Nat → Nat} {L : List Nat} (hN : L.Nodup) {f : Nat → va_E} (hT : q_Ty g K L f) (d0 : Nat → Nat) (s0 : tw_S) (d8 : Nat → Nat) (s8 : tw_S) (v0 : Nat) (hv0 : v0 ∈ L) (kv0 : K v0 = 10) (v8 : Nat) (hv8 : v8 ∈ L) (kv8 : K v8 = 54) (n0 : Nat) (hn0 : n0 ∈ L) (kn0 : K n0 = 110) (l0 : Nat) (hl0 : l0 ∈ L) (kl0 : K l0 = 120) (m0 : Nat) (hm0 : m0 ∈ L) (km0 : K m0 = 130) (n8 : Nat) (hn8 : n8 ∈ L) (kn8 : K n8 = 204) (l8 : Nat) (hl8 : l8 ∈ L) (kl8 : K l8 = 210) (m8 : Nat) (hm8 : m8 ∈ L) (km8 : K m8 = 216) (nn : Int) (lnn : 0 ≤ nn) (unn : nn ≤ 10) (ln : Int) (lln : 0 ≤ ln) (uln : ln ≤ 16) (mn : Int) (lmn : 0 ≤ mn) (umn : mn ≤ 61) (tm : Int) (ltm : 0 ≤ tm) (utm : tm ≤ 20000) (hf0 : q_is (q_z f v8 3) nn) (hf1 : q_is (q_z f v8 4) ln) (hf2 : q_is (q_z f v8 5) mn) (hf3 : q_is (q_z f v8 11) tm) (hr0 : q_ir (q_r f v0 0) n0) (hr1 : q_ir (q_r f v0 1) l0) (hr2 : q_ir (q_r f v0 2) m0) (hr3 : q_ir (q_r f v8 0) n8) (hr4 : q_ir (q_r f v8 1) l8) (hr5 : q_ir (q_r f v8 2) m8) (hw0 : tw_vw K L 10 5 3 4 f v0 n0 l0 m0 d0 s0) (hw8 : tw_vw K L 54 60 66 72 f v8 n8 l8 m8 d8 s8) (hz0 : tw_nw K L 5 f) (hz8 : tw_nw K L 60 f) : q_Ct l g K L yX10_copyFrom cX10_copyFrom 3 none 1 21 [.ref v0, .ref v8] f [(3, 0, 4), (4, 0, 7), (5, 0, 8), (10, 3, 12)] (q_Pv (fun (f1 : Nat → va_E) => q_is (q_z f1 v0 3) nn ∧ q_is (q_z f1 v0 4) ln ∧ q_is (q_z f1 v0 5) mn ∧ q_is (q_z f1 v0 11) tm ∧ (tw_vw K L 10 5 3 4 f1 v0 n0 l0 m0 d0 (tw_cp s0 s8)) ∧ (tw_nw K L 5 f1))) := by
  refine q_ofb (by decide +kernel) hN hT (Nat.le_of_ble_eq_true rfl) ?_
  intro p e s m below meth c ls cx hr hlk hB hl
  have hl : lv_has ls 3 [(0, .ref v0), (1, .ref v8)] := hl
  have J140 : ∀ (n : Nat) (f140 : Nat → va_E) (v140_2 : Int) (lv140_2 : 0 ≤ v140_2) (uv140_2 : v140_2 ≤ 61) (w140_v0_3 : Int) (lw140_v0_3 : 0 ≤ w140_v0_3) (uw140_v0_3 : w140_v0_3 ≤ 10) (w140_v0_4 : Int) (lw140_v0_4 : 0 ≤ w140_v0_4) (uw140_v0_4 : w140_v0_4 ≤ 16) (w140_v0_5 : Int) (lw140_v0_5 : 0 ≤ w140_v0_5) (uw140_v0_5 : w140_v0_5 ≤ 61) (w140_v0_11 : Int) (lw140_v0_11 : 0 ≤ w140_v0_11) (uw140_v0_11 : w140_v0_11 ≤ 20000) (hj_v8_3 : q_is (q_z f140 v8 3) nn) (hj_v8_4 : q_is (q_z f140 v8 4) ln) (hj_v8_5 : q_is (q_z f140 v8 5) mn) (hj_v8_11 : q_is (q_z f140 v8 11) tm) (hj_v0_3 : q_is (q_z f140 v0 3) w140_v0_3) (hj_v0_4 : q_is (q_z f140 v0 4) w140_v0_4) (hj_v0_5 : q_is (q_z f140 v0 5) w140_v0_5) (hj_v0_11 : q_is (q_z f140 v0 11) w140_v0_11) (hq_v0_0 : q_ir (q_r f140 v0 0) n0) (hq_v0_1 : q_ir (q_r f140 v0 1) l0) (hq_v0_2 : q_ir (q_r f140 v0 2) m0) (hq_v8_0 : q_ir (q_r f140 v8 0) n8) (hq_v8_1 : q_ir (q_r f140 v8 1) l8) (hq_v8_2 : q_ir (q_r f140 v8 2) m8) (hw8140 : tw_vw K L 54 60 66 72 f140 v8 n8 l8 m8 d8 s8) (hz0140 : tw_nw K L 5 f140) (hz8140 : tw_nw K L 60 f140) (hrl140_0 : 0 ≤ 1 * mn + -1 * v140_2 + 0) (hrl140_1 : 0 ≤ 1 * nn + -1 * w140_v0_3 + 0 ∧ 1 * nn + -1 * w140_v0_3 + 0 ≤ 0) (hrl140_2 : 0 ≤ 1 * ln + -1 * w140_v0_4 + 0 ∧ 1 * ln + -1 * w140_v0_4 + 0 ≤ 0) (hrl140_3 : 0 ≤ 1 * mn + -1 * w140_v0_5 + 0 ∧ 1 * mn + -1 * w140_v0_5 + 0 ≤ 0) (hrl140_4 : 0 ≤ 1 * tm + -1 * w140_v0_11 + 0 ∧ 1 * tm + -1 * w140_v0_11 + 0 ≤ 0) (hvw : tw_vw K L 10 5 3 4 f140 v0 n0 l0 m0 d0 (tw_cml (tw_cll (tw_cnl (tw_c0 s0 s8) s8 (Int.toNat (s8 0 3))) s8 (Int.toNat (s8 0 4))) s8 (Int.toNat v140_2))) (hmu : (Int.toNat (2147483647 - v140_2)) < n) (H : Heap) (locs : List Loc) (hB : q_B g K L (fun q => q ∈ L) [(3, 0, 4), (4, 0, 7), (5, 0, 8), (10, 3, 12)] f f140 s H locs) (ls : Array Slot) (hl : lv_has ls 3 [(0, .ref v0), (1, .ref v8), (2, .int (q_i v140_2))]), W p l e { frames := 1, cells := 0, slots := 0, locals := 21 } s m ([.ref v0, .ref v8] : List Value).toArray below meth c H locs 0 0 (MQ below (q_Q g K L [(3, 0, 4), (4, 0, 7), (5, 0, 8), (10, 3, 12)] f (q_Pv (fun (f1 : Nat → va_E) => q_is (q_z f1 v0 3) nn ∧ q_is (q_z f1 v0 4) ln ∧ q_is (q_z f1 v0 5) mn ∧ q_is (q_z f1 v0 11) tm ∧ (tw_vw K L 10 5 3 4 f1 v0 n0 l0 m0 d0 (tw_cp s0 s8)) ∧ (tw_nw K L 5 f1)))) ([.ref v0, .ref v8] : List Value).toArray s 0 0 (fun q => q ∈ L)) (F0 m 140 ls []) := by
    intro n
    induction n with
    | zero =>
      intro f140 v140_2 lv140_2 uv140_2 w140_v0_3 lw140_v0_3 uw140_v0_3 w140_v0_4 lw140_v0_4 uw140_v0_4 w140_v0_5 lw140_v0_5 uw140_v0_5 w140_v0_11 lw140_v0_11 uw140_v0_11 hj_v8_3 hj_v8_4 hj_v8_5 hj_v8_11 hj_v0_3 hj_v0_4 hj_v0_5 hj_v0_11 hq_v0_0 hq_v0_1 hq_v0_2 hq_v8_0 hq_v8_1 hq_v8_2 hw8140 hz0140 hz8140 hrl140_0 hrl140_1 hrl140_2 hrl140_3 hrl140_4 hvw hmu
      exact absurd hmu (Nat.not_lt_zero _)
    | succ n ih140 =>
      intro f140 v140_2 lv140_2 uv140_2 w140_v0_3 lw140_v0_3 uw140_v0_3 w140_v0_4 lw140_v0_4 uw140_v0_4 w140_v0_5 lw140_v0_5 uw140_v0_5 w140_v0_11 lw140_v0_11 uw140_v0_11 hj_v8_3 hj_v8_4 hj_v8_5 hj_v8_11 hj_v0_3 hj_v0_4 hj_v0_5 hj_v0_11 hq_v0_0 hq_v0_1 hq_v0_2 hq_v8_0 hq_v8_1 hq_v8_2 hw8140 hz0140 hz8140 hrl140_0 hrl140_1 hrl140_2 hrl140_3 hrl140_4 hvw hmu H locs hB ls hl
      refine q_ild_n cx dX10_copyFrom_140 rfl (lv_at hl 2 rfl) ?_
      refine q_ald_n cx dX10_copyFrom_141 rfl (lv_at hl 0 rfl) ?_
      obtain ⟨x1698, ex1698, nx1698⟩ : ∃ zz, q_is (q_z f140 v0 5) zz ∧ zz = w140_v0_5 := ⟨_, hj_v0_5, rfl⟩
      have sx1698 : q_is x1698 ((tw_cml (tw_cll (tw_cnl (tw_c0 s0 s8) s8 (Int.toNat (s8 0 3))) s8 (Int.toNat (s8 0 4))) s8 (Int.toNat v140_2)) 0 5) := tw_g hvw (tw_v0 hw0) (by omega) (by omega) ex1698
      refine q_gX10_42 cx hB hv0 kv0 ex1698 dX10_copyFrom_142 (fun lb1699 ub1699 => ?_)
      refine q_icge (tgt := 167) cx ⟨by omega, by omega⟩ ⟨by omega, by omega⟩ dX10_copyFrom_145 (by decide) (fun c1700 => ?_) (fun c1700 => ?_)
      · have hve5 : tw_vw K L 10 5 3 4 f140 v0 n0 l0 m0 d0 (tw_cml (tw_cll (tw_cnl (tw_c0 s0 s8) s8 (Int.toNat (s8 0 3))) s8 (Int.toNat (s8 0 4))) s8 (Int.toNat (s8 0 5))) := tw_cg hvw (by have e8 : mn = s8 0 5 := tw_g hw8 (tw_v0 hw8) (by omega) (by omega) hf2; have e9 : v140_2 = s8 0 5 := by omega; rw [e9])
        refine q_vret cx hr hlk hB dX10_copyFrom_167 ?_
        exact ⟨(Eq.trans hj_v0_3 (by omega)), (Eq.trans hj_v0_4 (by omega)), (Eq.trans hj_v0_5 (by omega)), (Eq.trans hj_v0_11 (by omega)), (tw_cg hve5 rfl), hz0140⟩
      · refine q_ald_n cx dX10_copyFrom_148 rfl (lv_at hl 0 rfl) ?_
        refine q_ild_n cx dX10_copyFrom_149 rfl (lv_at hl 2 rfl) ?_
        refine q_cVr (As := [.int (q_i v140_2)]) (rest := []) cx hB (fun _ h => h) hN hv0 kv0 (by decide) rfl (f_messageAt0 l g hN hB.2.1 d0 (tw_cml (tw_cll (tw_cnl (tw_c0 s0 s8) s8 (Int.toNat (s8 0 3))) s8 (Int.toNat (s8 0 4))) s8 (Int.toNat v140_2)) v0 hv0 kv0 v140_2 (by omega) (by omega) n0 hn0 kn0 l0 hl0 kl0 m0 hm0 km0 hq_v0_0 hq_v0_1 hq_v0_2 hvw) q_cX10_81 q_dX10_messageAt (by decide) rfl rfl hl.1 rfl (Nat.le_of_ble_eq_true rfl) dX10_copyFrom_150 (fun y1702 H locs f1701 h1703 hF hB => ?_)
        obtain ⟨rfl, hy1702, ky1702, t1704⟩ := h1703
        refine q_ald_n cx dX10_copyFrom_153 rfl (lv_at hl 1 rfl) ?_
        refine q_ild_n cx dX10_copyFrom_154 rfl (lv_at hl 2 rfl) ?_
        refine q_cVr (As := [.int (q_i v140_2)]) (rest := [.ref y1702]) cx hB (fun _ h => h) hN hv8 kv8 (by decide) rfl (f_messageAt8 l g hN hB.2.1 d8 s8 v8 hv8 kv8 v140_2 (by omega) (by omega) n8 hn8 kn8 l8 hl8 kl8 m8 hm8 km8 hq_v8_0 hq_v8_1 hq_v8_2 hw8140) q_cX10_81 q_dX10_messageAt (by decide) rfl rfl hl.1 rfl (Nat.le_of_ble_eq_true rfl) dX10_copyFrom_155 (fun y1706 H locs f1705 h1707 hF hB => ?_)
        obtain ⟨rfl, hy1706, ky1706, t1708⟩ := h1707
        refine q_cVv (As := [.ref y1706]) (rest := []) cx hB (fun _ h => h) hN hy1702 ky1702 (by decide) rfl (f_mcopy08 l g hN hB.2.1 d0 (tw_cml (tw_cll (tw_cnl (tw_c0 s0 s8) s8 (Int.toNat (s8 0 3))) s8 (Int.toNat (s8 0 4))) s8 (Int.toNat v140_2)) d8 s8 y1702 hy1702 ky1702 y1706 hy1706 ky1706 v0 hv0 kv0 n0 hn0 kn0 l0 hl0 kl0 m0 hm0 km0 v8 hv8 kv8 n8 hn8 kn8 l8 hl8 kl8 m8 hm8 km8 v140_2 (by omega) (by omega) v140_2 (by omega) (by omega) t1704 t1708 hvw hw8140) q_cX10_85 q_dX4_copyFrom (by decide) rfl rfl hl.1 rfl (Nat.le_of_ble_eq_true rfl) dX10_copyFrom_158 (fun H locs f1709 h1711 hF hB => ?_)
        have g1712 := h1711
        have z1713 : q_is (q_z f1709 v8 3) nn := Eq.trans (hF.z hv8 (by rw [kv8]; rfl)) hj_v8_3
        have z1714 : q_is (q_z f1709 v8 4) ln := Eq.trans (hF.z hv8 (by rw [kv8]; rfl)) hj_v8_4
        have z1715 : q_is (q_z f1709 v8 5) mn := Eq.trans (hF.z hv8 (by rw [kv8]; rfl)) hj_v8_5
        have z1716 : q_is (q_z f1709 v8 11) tm := Eq.trans (hF.z hv8 (by rw [kv8]; rfl)) hj_v8_11
        have z1717 : q_is (q_z f1709 v0 3) w140_v0_3 := Eq.trans (hF.z hv0 (by rw [kv0]; rfl)) hj_v0_3
        have z1718 : q_is (q_z f1709 v0 4) w140_v0_4 := Eq.trans (hF.z hv0 (by rw [kv0]; rfl)) hj_v0_4
        have z1719 : q_is (q_z f1709 v0 5) w140_v0_5 := Eq.trans (hF.z hv0 (by rw [kv0]; rfl)) hj_v0_5
        have z1720 : q_is (q_z f1709 v0 11) w140_v0_11 := Eq.trans (hF.z hv0 (by rw [kv0]; rfl)) hj_v0_11
        have z1721 : q_ir (q_r f1709 v0 0) n0 := Eq.trans (hF.r hv0 (by rw [kv0]; rfl)) hq_v0_0
        have z1722 : q_ir (q_r f1709 v0 1) l0 := Eq.trans (hF.r hv0 (by rw [kv0]; rfl)) hq_v0_1
        have z1723 : q_ir (q_r f1709 v0 2) m0 := Eq.trans (hF.r hv0 (by rw [kv0]; rfl)) hq_v0_2
        have z1724 : q_ir (q_r f1709 v8 0) n8 := Eq.trans (hF.r hv8 (by rw [kv8]; rfl)) hq_v8_0
        have z1725 : q_ir (q_r f1709 v8 1) l8 := Eq.trans (hF.r hv8 (by rw [kv8]; rfl)) hq_v8_1
        have z1726 : q_ir (q_r f1709 v8 2) m8 := Eq.trans (hF.r hv8 (by rw [kv8]; rfl)) hq_v8_2
        have g1727 : tw_vw K L 54 60 66 72 f1709 v8 n8 l8 m8 d8 s8 := tw_vw_tr hw8140 (fun a9 h9 k9 c9 => hF.z h9 (by rw [k9]; rfl)) (fun a9 h9 k9 c9 => hF.z h9 (by rw [k9]; rfl)) (fun a9 h9 k9 c9 => hF.z h9 (by rw [k9]; rfl)) (fun a9 h9 k9 c9 => hF.z h9 (by rw [k9]; rfl)) (fun i9 => hF.r hn8 (by rw [kn8]; rfl)) (fun i9 => hF.r hl8 (by rw [kl8]; rfl)) (fun i9 => hF.r hm8 (by rw [km8]; rfl))
        have g1728 : tw_nw K L 5 f1709 := tw_nw_tr hz0140 (fun a9 h9 k9 => hF.j h9 (by rw [k9]; rfl))
        have g1729 : tw_nw K L 60 f1709 := tw_nw_tr hz8140 (fun a9 h9 k9 => hF.j h9 (by rw [k9]; rfl))
        refine q_iinc (lv' := [(2, .int (q_i (v140_2 + 1))), (0, .ref v0), (1, .ref v8)]) cx dX10_copyFrom_161 hl (k := 2) rfl (by decide) rfl (fun ls hl => ?_)
        refine lv_goto (tgt := 140) cx.1 cx.2.1 dX10_copyFrom_164 (by decide) ?_
        exact ih140 f1709 (v140_2 + 1) (by omega) (by omega) w140_v0_3 (by omega) (by omega) w140_v0_4 (by omega) (by omega) w140_v0_5 (by omega) (by omega) w140_v0_11 (by omega) (by omega) z1713 z1714 z1715 z1716 z1717 z1718 z1719 z1720 z1721 z1722 z1723 z1724 z1725 z1726 g1727 g1728 g1729 (by omega) (by omega) (by omega) (by omega) (by omega) (tw_cg g1712 (by have t0_ : x1698 = (tw_cml (tw_cll (tw_cnl (tw_c0 s0 s8) s8 (Int.toNat (s8 0 3))) s8 (Int.toNat (s8 0 4))) s8 (Int.toNat v140_2)) 0 5 := sx1698; (try simp only [t0_]); rw [tw_cml_s (by omega)]; (repeat' split) <;> first | rfl | (exfalso; omega))) (by omega) H locs hB ls (lv_sub hl [1, 2, 0] rfl)
  have J111 : ∀ (n : Nat) (f111 : Nat → va_E) (v111_2 : Int) (lv111_2 : 0 ≤ v111_2) (uv111_2 : v111_2 ≤ 16) (w111_v0_3 : Int) (lw111_v0_3 : 0 ≤ w111_v0_3) (uw111_v0_3 : w111_v0_3 ≤ 10) (w111_v0_4 : Int) (lw111_v0_4 : 0 ≤ w111_v0_4) (uw111_v0_4 : w111_v0_4 ≤ 16) (w111_v0_5 : Int) (lw111_v0_5 : 0 ≤ w111_v0_5) (uw111_v0_5 : w111_v0_5 ≤ 61) (w111_v0_11 : Int) (lw111_v0_11 : 0 ≤ w111_v0_11) (uw111_v0_11 : w111_v0_11 ≤ 20000) (hj_v8_3 : q_is (q_z f111 v8 3) nn) (hj_v8_4 : q_is (q_z f111 v8 4) ln) (hj_v8_5 : q_is (q_z f111 v8 5) mn) (hj_v8_11 : q_is (q_z f111 v8 11) tm) (hj_v0_3 : q_is (q_z f111 v0 3) w111_v0_3) (hj_v0_4 : q_is (q_z f111 v0 4) w111_v0_4) (hj_v0_5 : q_is (q_z f111 v0 5) w111_v0_5) (hj_v0_11 : q_is (q_z f111 v0 11) w111_v0_11) (hq_v0_0 : q_ir (q_r f111 v0 0) n0) (hq_v0_1 : q_ir (q_r f111 v0 1) l0) (hq_v0_2 : q_ir (q_r f111 v0 2) m0) (hq_v8_0 : q_ir (q_r f111 v8 0) n8) (hq_v8_1 : q_ir (q_r f111 v8 1) l8) (hq_v8_2 : q_ir (q_r f111 v8 2) m8) (hw8111 : tw_vw K L 54 60 66 72 f111 v8 n8 l8 m8 d8 s8) (hz0111 : tw_nw K L 5 f111) (hz8111 : tw_nw K L 60 f111) (hrl111_0 : 0 ≤ 1 * ln + -1 * v111_2 + 0) (hrl111_1 : 0 ≤ 1 * nn + -1 * w111_v0_3 + 0 ∧ 1 * nn + -1 * w111_v0_3 + 0 ≤ 0) (hrl111_2 : 0 ≤ 1 * ln + -1 * w111_v0_4 + 0 ∧ 1 * ln + -1 * w111_v0_4 + 0 ≤ 0) (hrl111_3 : 0 ≤ 1 * mn + -1 * w111_v0_5 + 0 ∧ 1 * mn + -1 * w111_v0_5 + 0 ≤ 0) (hrl111_4 : 0 ≤ 1 * tm + -1 * w111_v0_11 + 0 ∧ 1 * tm + -1 * w111_v0_11 + 0 ≤ 0) (hvw : tw_vw K L 10 5 3 4 f111 v0 n0 l0 m0 d0 (tw_cll (tw_cnl (tw_c0 s0 s8) s8 (Int.toNat (s8 0 3))) s8 (Int.toNat v111_2))) (hmu : (Int.toNat (2147483647 - v111_2)) < n) (H : Heap) (locs : List Loc) (hB : q_B g K L (fun q => q ∈ L) [(3, 0, 4), (4, 0, 7), (5, 0, 8), (10, 3, 12)] f f111 s H locs) (ls : Array Slot) (hl : lv_has ls 3 [(0, .ref v0), (1, .ref v8), (2, .int (q_i v111_2))]), W p l e { frames := 1, cells := 0, slots := 0, locals := 21 } s m ([.ref v0, .ref v8] : List Value).toArray below meth c H locs 0 0 (MQ below (q_Q g K L [(3, 0, 4), (4, 0, 7), (5, 0, 8), (10, 3, 12)] f (q_Pv (fun (f1 : Nat → va_E) => q_is (q_z f1 v0 3) nn ∧ q_is (q_z f1 v0 4) ln ∧ q_is (q_z f1 v0 5) mn ∧ q_is (q_z f1 v0 11) tm ∧ (tw_vw K L 10 5 3 4 f1 v0 n0 l0 m0 d0 (tw_cp s0 s8)) ∧ (tw_nw K L 5 f1)))) ([.ref v0, .ref v8] : List Value).toArray s 0 0 (fun q => q ∈ L)) (F0 m 111 ls []) := by
    intro n
    induction n with
    | zero =>
      intro f111 v111_2 lv111_2 uv111_2 w111_v0_3 lw111_v0_3 uw111_v0_3 w111_v0_4 lw111_v0_4 uw111_v0_4 w111_v0_5 lw111_v0_5 uw111_v0_5 w111_v0_11 lw111_v0_11 uw111_v0_11 hj_v8_3 hj_v8_4 hj_v8_5 hj_v8_11 hj_v0_3 hj_v0_4 hj_v0_5 hj_v0_11 hq_v0_0 hq_v0_1 hq_v0_2 hq_v8_0 hq_v8_1 hq_v8_2 hw8111 hz0111 hz8111 hrl111_0 hrl111_1 hrl111_2 hrl111_3 hrl111_4 hvw hmu
      exact absurd hmu (Nat.not_lt_zero _)
    | succ n ih111 =>
      intro f111 v111_2 lv111_2 uv111_2 w111_v0_3 lw111_v0_3 uw111_v0_3 w111_v0_4 lw111_v0_4 uw111_v0_4 w111_v0_5 lw111_v0_5 uw111_v0_5 w111_v0_11 lw111_v0_11 uw111_v0_11 hj_v8_3 hj_v8_4 hj_v8_5 hj_v8_11 hj_v0_3 hj_v0_4 hj_v0_5 hj_v0_11 hq_v0_0 hq_v0_1 hq_v0_2 hq_v8_0 hq_v8_1 hq_v8_2 hw8111 hz0111 hz8111 hrl111_0 hrl111_1 hrl111_2 hrl111_3 hrl111_4 hvw hmu H locs hB ls hl
      refine q_ild_n cx dX10_copyFrom_111 rfl (lv_at hl 2 rfl) ?_
      refine q_ald_n cx dX10_copyFrom_112 rfl (lv_at hl 0 rfl) ?_
      obtain ⟨x1730, ex1730, nx1730⟩ : ∃ zz, q_is (q_z f111 v0 4) zz ∧ zz = w111_v0_4 := ⟨_, hj_v0_4, rfl⟩
      have sx1730 : q_is x1730 ((tw_cll (tw_cnl (tw_c0 s0 s8) s8 (Int.toNat (s8 0 3))) s8 (Int.toNat v111_2)) 0 4) := tw_g hvw (tw_v0 hw0) (by omega) (by omega) ex1730
      refine q_gX10_39 cx hB hv0 kv0 ex1730 dX10_copyFrom_113 (fun lb1731 ub1731 => ?_)
      refine q_icge (tgt := 138) cx ⟨by omega, by omega⟩ ⟨by omega, by omega⟩ dX10_copyFrom_116 (by decide) (fun c1732 => ?_) (fun c1732 => ?_)
      · have hve4 : tw_vw K L 10 5 3 4 f111 v0 n0 l0 m0 d0 (tw_cll (tw_cnl (tw_c0 s0 s8) s8 (Int.toNat (s8 0 3))) s8 (Int.toNat (s8 0 4))) := tw_cg hvw (by have e8 : ln = s8 0 4 := tw_g hw8 (tw_v0 hw8) (by omega) (by omega) hf1; have e9 : v111_2 = s8 0 4 := by omega; rw [e9])
        refine q_iconst cx dX10_copyFrom_138 ?_
        refine lv_istore_n (lv' := [(2, .int (q_i 0)), (0, .ref v0), (1, .ref v8)]) cx.1 cx.2.1 dX10_copyFrom_139 rfl hl (by decide) rfl (fun ls hl => ?_)
        exact J140 ((Int.toNat (2147483647 - 0)) + 1) f111 0 (by decide) (by decide) w111_v0_3 (by omega) (by omega) w111_v0_4 (by omega) (by omega) w111_v0_5 (by omega) (by omega) w111_v0_11 (by omega) (by omega) hj_v8_3 hj_v8_4 hj_v8_5 hj_v8_11 hj_v0_3 hj_v0_4 hj_v0_5 hj_v0_11 hq_v0_0 hq_v0_1 hq_v0_2 hq_v8_0 hq_v8_1 hq_v8_2 hw8111 hz0111 hz8111 (by omega) (by omega) (by omega) (by omega) (by omega) (tw_cg hve4 (by have t0_ : x1730 = (tw_cll (tw_cnl (tw_c0 s0 s8) s8 (Int.toNat (s8 0 3))) s8 (Int.toNat v111_2)) 0 4 := sx1730; (try simp only [t0_]); rfl)) (Nat.lt_succ_self _) H locs hB ls (lv_sub hl [1, 2, 0] rfl)
      · refine q_ald_n cx dX10_copyFrom_119 rfl (lv_at hl 0 rfl) ?_
        refine q_ild_n cx dX10_copyFrom_120 rfl (lv_at hl 2 rfl) ?_
        refine q_cVr (As := [.int (q_i v111_2)]) (rest := []) cx hB (fun _ h => h) hN hv0 kv0 (by decide) rfl (f_linkAt0 l g hN hB.2.1 d0 (tw_cll (tw_cnl (tw_c0 s0 s8) s8 (Int.toNat (s8 0 3))) s8 (Int.toNat v111_2)) v0 hv0 kv0 v111_2 (by omega) (by omega) n0 hn0 kn0 l0 hl0 kl0 m0 hm0 km0 hq_v0_0 hq_v0_1 hq_v0_2 hvw) q_cX10_74 q_dX10_linkAt (by decide) rfl rfl hl.1 rfl (Nat.le_of_ble_eq_true rfl) dX10_copyFrom_121 (fun y1734 H locs f1733 h1735 hF hB => ?_)
        obtain ⟨rfl, hy1734, ky1734, t1736⟩ := h1735
        refine q_ald_n cx dX10_copyFrom_124 rfl (lv_at hl 1 rfl) ?_
        refine q_ild_n cx dX10_copyFrom_125 rfl (lv_at hl 2 rfl) ?_
        refine q_cVr (As := [.int (q_i v111_2)]) (rest := [.ref y1734]) cx hB (fun _ h => h) hN hv8 kv8 (by decide) rfl (f_linkAt8 l g hN hB.2.1 d8 s8 v8 hv8 kv8 v111_2 (by omega) (by omega) n8 hn8 kn8 l8 hl8 kl8 m8 hm8 km8 hq_v8_0 hq_v8_1 hq_v8_2 hw8111) q_cX10_74 q_dX10_linkAt (by decide) rfl rfl hl.1 rfl (Nat.le_of_ble_eq_true rfl) dX10_copyFrom_126 (fun y1738 H locs f1737 h1739 hF hB => ?_)
        obtain ⟨rfl, hy1738, ky1738, t1740⟩ := h1739
        refine q_cVv (As := [.ref y1738]) (rest := []) cx hB (fun _ h => h) hN hy1734 ky1734 (by decide) rfl (f_lcopy08 l g hN hB.2.1 d0 (tw_cll (tw_cnl (tw_c0 s0 s8) s8 (Int.toNat (s8 0 3))) s8 (Int.toNat v111_2)) d8 s8 y1734 hy1734 ky1734 y1738 hy1738 ky1738 v0 hv0 kv0 n0 hn0 kn0 l0 hl0 kl0 m0 hm0 km0 v8 hv8 kv8 n8 hn8 kn8 l8 hl8 kl8 m8 hm8 km8 v111_2 (by omega) (by omega) v111_2 (by omega) (by omega) t1736 t1740 hvw hw8111) q_cX10_78 q_dX3_copyFrom (by decide) rfl rfl hl.1 rfl (Nat.le_of_ble_eq_true rfl) dX10_copyFrom_129 (fun H locs f1741 h1743 hF hB => ?_)
        have g1744 := h1743
        have z1745 : q_is (q_z f1741 v8 3) nn := Eq.trans (hF.z hv8 (by rw [kv8]; rfl)) hj_v8_3
        have z1746 : q_is (q_z f1741 v8 4) ln := Eq.trans (hF.z hv8 (by rw [kv8]; rfl)) hj_v8_4
        have z1747 : q_is (q_z f1741 v8 5) mn := Eq.trans (hF.z hv8 (by rw [kv8]; rfl)) hj_v8_5
        have z1748 : q_is (q_z f1741 v8 11) tm := Eq.trans (hF.z hv8 (by rw [kv8]; rfl)) hj_v8_11
        have z1749 : q_is (q_z f1741 v0 3) w111_v0_3 := Eq.trans (hF.z hv0 (by rw [kv0]; rfl)) hj_v0_3
        have z1750 : q_is (q_z f1741 v0 4) w111_v0_4 := Eq.trans (hF.z hv0 (by rw [kv0]; rfl)) hj_v0_4
        have z1751 : q_is (q_z f1741 v0 5) w111_v0_5 := Eq.trans (hF.z hv0 (by rw [kv0]; rfl)) hj_v0_5
        have z1752 : q_is (q_z f1741 v0 11) w111_v0_11 := Eq.trans (hF.z hv0 (by rw [kv0]; rfl)) hj_v0_11
        have z1753 : q_ir (q_r f1741 v0 0) n0 := Eq.trans (hF.r hv0 (by rw [kv0]; rfl)) hq_v0_0
        have z1754 : q_ir (q_r f1741 v0 1) l0 := Eq.trans (hF.r hv0 (by rw [kv0]; rfl)) hq_v0_1
        have z1755 : q_ir (q_r f1741 v0 2) m0 := Eq.trans (hF.r hv0 (by rw [kv0]; rfl)) hq_v0_2
        have z1756 : q_ir (q_r f1741 v8 0) n8 := Eq.trans (hF.r hv8 (by rw [kv8]; rfl)) hq_v8_0
        have z1757 : q_ir (q_r f1741 v8 1) l8 := Eq.trans (hF.r hv8 (by rw [kv8]; rfl)) hq_v8_1
        have z1758 : q_ir (q_r f1741 v8 2) m8 := Eq.trans (hF.r hv8 (by rw [kv8]; rfl)) hq_v8_2
        have g1759 : tw_vw K L 54 60 66 72 f1741 v8 n8 l8 m8 d8 s8 := tw_vw_tr hw8111 (fun a9 h9 k9 c9 => hF.z h9 (by rw [k9]; rfl)) (fun a9 h9 k9 c9 => hF.z h9 (by rw [k9]; rfl)) (fun a9 h9 k9 c9 => hF.z h9 (by rw [k9]; rfl)) (fun a9 h9 k9 c9 => hF.z h9 (by rw [k9]; rfl)) (fun i9 => hF.r hn8 (by rw [kn8]; rfl)) (fun i9 => hF.r hl8 (by rw [kl8]; rfl)) (fun i9 => hF.r hm8 (by rw [km8]; rfl))
        have g1760 : tw_nw K L 5 f1741 := tw_nw_tr hz0111 (fun a9 h9 k9 => hF.j h9 (by rw [k9]; rfl))
        have g1761 : tw_nw K L 60 f1741 := tw_nw_tr hz8111 (fun a9 h9 k9 => hF.j h9 (by rw [k9]; rfl))
        refine q_iinc (lv' := [(2, .int (q_i (v111_2 + 1))), (0, .ref v0), (1, .ref v8)]) cx dX10_copyFrom_132 hl (k := 2) rfl (by decide) rfl (fun ls hl => ?_)
        refine lv_goto (tgt := 111) cx.1 cx.2.1 dX10_copyFrom_135 (by decide) ?_
        exact ih111 f1741 (v111_2 + 1) (by omega) (by omega) w111_v0_3 (by omega) (by omega) w111_v0_4 (by omega) (by omega) w111_v0_5 (by omega) (by omega) w111_v0_11 (by omega) (by omega) z1745 z1746 z1747 z1748 z1749 z1750 z1751 z1752 z1753 z1754 z1755 z1756 z1757 z1758 g1759 g1760 g1761 (by omega) (by omega) (by omega) (by omega) (by omega) (tw_cg g1744 (by have t0_ : x1730 = (tw_cll (tw_cnl (tw_c0 s0 s8) s8 (Int.toNat (s8 0 3))) s8 (Int.toNat v111_2)) 0 4 := sx1730; (try simp only [t0_]); rw [tw_cll_s (by omega)]; (repeat' split) <;> first | rfl | (exfalso; omega))) (by omega) H locs hB ls (lv_sub hl [1, 2, 0] rfl)
  have J82 : ∀ (n : Nat) (f82 : Nat → va_E) (v82_2 : Int) (lv82_2 : 0 ≤ v82_2) (uv82_2 : v82_2 ≤ 10) (w82_v0_3 : Int) (lw82_v0_3 : 0 ≤ w82_v0_3) (uw82_v0_3 : w82_v0_3 ≤ 10) (w82_v0_4 : Int) (lw82_v0_4 : 0 ≤ w82_v0_4) (uw82_v0_4 : w82_v0_4 ≤ 16) (w82_v0_5 : Int) (lw82_v0_5 : 0 ≤ w82_v0_5) (uw82_v0_5 : w82_v0_5 ≤ 61) (w82_v0_11 : Int) (lw82_v0_11 : 0 ≤ w82_v0_11) (uw82_v0_11 : w82_v0_11 ≤ 20000) (hj_v8_3 : q_is (q_z f82 v8 3) nn) (hj_v8_4 : q_is (q_z f82 v8 4) ln) (hj_v8_5 : q_is (q_z f82 v8 5) mn) (hj_v8_11 : q_is (q_z f82 v8 11) tm) (hj_v0_3 : q_is (q_z f82 v0 3) w82_v0_3) (hj_v0_4 : q_is (q_z f82 v0 4) w82_v0_4) (hj_v0_5 : q_is (q_z f82 v0 5) w82_v0_5) (hj_v0_11 : q_is (q_z f82 v0 11) w82_v0_11) (hq_v0_0 : q_ir (q_r f82 v0 0) n0) (hq_v0_1 : q_ir (q_r f82 v0 1) l0) (hq_v0_2 : q_ir (q_r f82 v0 2) m0) (hq_v8_0 : q_ir (q_r f82 v8 0) n8) (hq_v8_1 : q_ir (q_r f82 v8 1) l8) (hq_v8_2 : q_ir (q_r f82 v8 2) m8) (hw882 : tw_vw K L 54 60 66 72 f82 v8 n8 l8 m8 d8 s8) (hz082 : tw_nw K L 5 f82) (hz882 : tw_nw K L 60 f82) (hrl82_0 : 0 ≤ 1 * nn + -1 * v82_2 + 0) (hrl82_1 : 0 ≤ 1 * nn + -1 * w82_v0_3 + 0 ∧ 1 * nn + -1 * w82_v0_3 + 0 ≤ 0) (hrl82_2 : 0 ≤ 1 * ln + -1 * w82_v0_4 + 0 ∧ 1 * ln + -1 * w82_v0_4 + 0 ≤ 0) (hrl82_3 : 0 ≤ 1 * mn + -1 * w82_v0_5 + 0 ∧ 1 * mn + -1 * w82_v0_5 + 0 ≤ 0) (hrl82_4 : 0 ≤ 1 * tm + -1 * w82_v0_11 + 0 ∧ 1 * tm + -1 * w82_v0_11 + 0 ≤ 0) (hvw : tw_vw K L 10 5 3 4 f82 v0 n0 l0 m0 d0 (tw_cnl (tw_c0 s0 s8) s8 (Int.toNat v82_2))) (hmu : (Int.toNat (2147483647 - v82_2)) < n) (H : Heap) (locs : List Loc) (hB : q_B g K L (fun q => q ∈ L) [(3, 0, 4), (4, 0, 7), (5, 0, 8), (10, 3, 12)] f f82 s H locs) (ls : Array Slot) (hl : lv_has ls 3 [(0, .ref v0), (1, .ref v8), (2, .int (q_i v82_2))]), W p l e { frames := 1, cells := 0, slots := 0, locals := 21 } s m ([.ref v0, .ref v8] : List Value).toArray below meth c H locs 0 0 (MQ below (q_Q g K L [(3, 0, 4), (4, 0, 7), (5, 0, 8), (10, 3, 12)] f (q_Pv (fun (f1 : Nat → va_E) => q_is (q_z f1 v0 3) nn ∧ q_is (q_z f1 v0 4) ln ∧ q_is (q_z f1 v0 5) mn ∧ q_is (q_z f1 v0 11) tm ∧ (tw_vw K L 10 5 3 4 f1 v0 n0 l0 m0 d0 (tw_cp s0 s8)) ∧ (tw_nw K L 5 f1)))) ([.ref v0, .ref v8] : List Value).toArray s 0 0 (fun q => q ∈ L)) (F0 m 82 ls []) := by
    intro n
    induction n with
    | zero =>
      intro f82 v82_2 lv82_2 uv82_2 w82_v0_3 lw82_v0_3 uw82_v0_3 w82_v0_4 lw82_v0_4 uw82_v0_4 w82_v0_5 lw82_v0_5 uw82_v0_5 w82_v0_11 lw82_v0_11 uw82_v0_11 hj_v8_3 hj_v8_4 hj_v8_5 hj_v8_11 hj_v0_3 hj_v0_4 hj_v0_5 hj_v0_11 hq_v0_0 hq_v0_1 hq_v0_2 hq_v8_0 hq_v8_1 hq_v8_2 hw882 hz082 hz882 hrl82_0 hrl82_1 hrl82_2 hrl82_3 hrl82_4 hvw hmu
      exact absurd hmu (Nat.not_lt_zero _)
    | succ n ih82 =>
      intro f82 v82_2 lv82_2 uv82_2 w82_v0_3 lw82_v0_3 uw82_v0_3 w82_v0_4 lw82_v0_4 uw82_v0_4 w82_v0_5 lw82_v0_5 uw82_v0_5 w82_v0_11 lw82_v0_11 uw82_v0_11 hj_v8_3 hj_v8_4 hj_v8_5 hj_v8_11 hj_v0_3 hj_v0_4 hj_v0_5 hj_v0_11 hq_v0_0 hq_v0_1 hq_v0_2 hq_v8_0 hq_v8_1 hq_v8_2 hw882 hz082 hz882 hrl82_0 hrl82_1 hrl82_2 hrl82_3 hrl82_4 hvw hmu H locs hB ls hl
      refine q_ild_n cx dX10_copyFrom_82 rfl (lv_at hl 2 rfl) ?_
      refine q_ald_n cx dX10_copyFrom_83 rfl (lv_at hl 0 rfl) ?_
      obtain ⟨x1762, ex1762, nx1762⟩ : ∃ zz, q_is (q_z f82 v0 3) zz ∧ zz = w82_v0_3 := ⟨_, hj_v0_3, rfl⟩
      have sx1762 : q_is x1762 ((tw_cnl (tw_c0 s0 s8) s8 (Int.toNat v82_2)) 0 3) := tw_g hvw (tw_v0 hw0) (by omega) (by omega) ex1762
      refine q_gX10_35 cx hB hv0 kv0 ex1762 dX10_copyFrom_84 (fun lb1763 ub1763 => ?_)
      refine q_icge (tgt := 109) cx ⟨by omega, by omega⟩ ⟨by omega, by omega⟩ dX10_copyFrom_87 (by decide) (fun c1764 => ?_) (fun c1764 => ?_)
      · have hve3 : tw_vw K L 10 5 3 4 f82 v0 n0 l0 m0 d0 (tw_cnl (tw_c0 s0 s8) s8 (Int.toNat (s8 0 3))) := tw_cg hvw (by have e8 : nn = s8 0 3 := tw_g hw8 (tw_v0 hw8) (by omega) (by omega) hf0; have e9 : v82_2 = s8 0 3 := by omega; rw [e9])
        refine q_iconst cx dX10_copyFrom_109 ?_
        refine lv_istore_n (lv' := [(2, .int (q_i 0)), (0, .ref v0), (1, .ref v8)]) cx.1 cx.2.1 dX10_copyFrom_110 rfl hl (by decide) rfl (fun ls hl => ?_)
        exact J111 ((Int.toNat (2147483647 - 0)) + 1) f82 0 (by decide) (by decide) w82_v0_3 (by omega) (by omega) w82_v0_4 (by omega) (by omega) w82_v0_5 (by omega) (by omega) w82_v0_11 (by omega) (by omega) hj_v8_3 hj_v8_4 hj_v8_5 hj_v8_11 hj_v0_3 hj_v0_4 hj_v0_5 hj_v0_11 hq_v0_0 hq_v0_1 hq_v0_2 hq_v8_0 hq_v8_1 hq_v8_2 hw882 hz082 hz882 (by omega) (by omega) (by omega) (by omega) (by omega) (tw_cg hve3 (by have t0_ : x1762 = (tw_cnl (tw_c0 s0 s8) s8 (Int.toNat v82_2)) 0 3 := sx1762; (try simp only [t0_]); rfl)) (Nat.lt_succ_self _) H locs hB ls (lv_sub hl [1, 2, 0] rfl)
      · refine q_ald_n cx dX10_copyFrom_90 rfl (lv_at hl 0 rfl) ?_
        refine q_ild_n cx dX10_copyFrom_91 rfl (lv_at hl 2 rfl) ?_
        refine q_cVr (As := [.int (q_i v82_2)]) (rest := []) cx hB (fun _ h => h) hN hv0 kv0 (by decide) rfl (f_nodeAt0 l g hN hB.2.1 d0 (tw_cnl (tw_c0 s0 s8) s8 (Int.toNat v82_2)) v0 hv0 kv0 v82_2 (by omega) (by omega) n0 hn0 kn0 l0 hl0 kl0 m0 hm0 km0 hq_v0_0 hq_v0_1 hq_v0_2 hvw) q_cX10_66 q_dX10_nodeAt (by decide) rfl rfl hl.1 rfl (Nat.le_of_ble_eq_true rfl) dX10_copyFrom_92 (fun y1766 H locs f1765 h1767 hF hB => ?_)
        obtain ⟨rfl, hy1766, ky1766, t1768⟩ := h1767
        refine q_ald_n cx dX10_copyFrom_95 rfl (lv_at hl 1 rfl) ?_
        refine q_ild_n cx dX10_copyFrom_96 rfl (lv_at hl 2 rfl) ?_
        refine q_cVr (As := [.int (q_i v82_2)]) (rest := [.ref y1766]) cx hB (fun _ h => h) hN hv8 kv8 (by decide) rfl (f_nodeAt8 l g hN hB.2.1 d8 s8 v8 hv8 kv8 v82_2 (by omega) (by omega) n8 hn8 kn8 l8 hl8 kl8 m8 hm8 km8 hq_v8_0 hq_v8_1 hq_v8_2 hw882) q_cX10_66 q_dX10_nodeAt (by decide) rfl rfl hl.1 rfl (Nat.le_of_ble_eq_true rfl) dX10_copyFrom_97 (fun y1770 H locs f1769 h1771 hF hB => ?_)
        obtain ⟨rfl, hy1770, ky1770, t1772⟩ := h1771
        refine q_cVv (As := [.ref y1770]) (rest := []) cx hB (fun _ h => h) hN hy1766 ky1766 (by decide) rfl (f_ncopy08 l g hN hB.2.1 d0 (tw_cnl (tw_c0 s0 s8) s8 (Int.toNat v82_2)) d8 s8 y1766 hy1766 ky1766 y1770 hy1770 ky1770 v0 hv0 kv0 n0 hn0 kn0 l0 hl0 kl0 m0 hm0 km0 v8 hv8 kv8 n8 hn8 kn8 l8 hl8 kl8 m8 hm8 km8 v82_2 (by omega) (by omega) v82_2 (by omega) (by omega) t1768 t1772 hvw hw882 hz082 hz882) q_cX10_70 q_dX5_copyFrom (by decide) rfl rfl hl.1 rfl (Nat.le_of_ble_eq_true rfl) dX10_copyFrom_100 (fun H locs f1773 h1775 hF hB => ?_)
        obtain ⟨g1776, g1777⟩ := h1775
        have z1778 : q_is (q_z f1773 v8 3) nn := Eq.trans (hF.z hv8 (by rw [kv8]; rfl)) hj_v8_3
        have z1779 : q_is (q_z f1773 v8 4) ln := Eq.trans (hF.z hv8 (by rw [kv8]; rfl)) hj_v8_4
        have z1780 : q_is (q_z f1773 v8 5) mn := Eq.trans (hF.z hv8 (by rw [kv8]; rfl)) hj_v8_5
        have z1781 : q_is (q_z f1773 v8 11) tm := Eq.trans (hF.z hv8 (by rw [kv8]; rfl)) hj_v8_11
        have z1782 : q_is (q_z f1773 v0 3) w82_v0_3 := Eq.trans (hF.z hv0 (by rw [kv0]; rfl)) hj_v0_3
        have z1783 : q_is (q_z f1773 v0 4) w82_v0_4 := Eq.trans (hF.z hv0 (by rw [kv0]; rfl)) hj_v0_4
        have z1784 : q_is (q_z f1773 v0 5) w82_v0_5 := Eq.trans (hF.z hv0 (by rw [kv0]; rfl)) hj_v0_5
        have z1785 : q_is (q_z f1773 v0 11) w82_v0_11 := Eq.trans (hF.z hv0 (by rw [kv0]; rfl)) hj_v0_11
        have z1786 : q_ir (q_r f1773 v0 0) n0 := Eq.trans (hF.r hv0 (by rw [kv0]; rfl)) hq_v0_0
        have z1787 : q_ir (q_r f1773 v0 1) l0 := Eq.trans (hF.r hv0 (by rw [kv0]; rfl)) hq_v0_1
        have z1788 : q_ir (q_r f1773 v0 2) m0 := Eq.trans (hF.r hv0 (by rw [kv0]; rfl)) hq_v0_2
        have z1789 : q_ir (q_r f1773 v8 0) n8 := Eq.trans (hF.r hv8 (by rw [kv8]; rfl)) hq_v8_0
        have z1790 : q_ir (q_r f1773 v8 1) l8 := Eq.trans (hF.r hv8 (by rw [kv8]; rfl)) hq_v8_1
        have z1791 : q_ir (q_r f1773 v8 2) m8 := Eq.trans (hF.r hv8 (by rw [kv8]; rfl)) hq_v8_2
        have g1792 : tw_vw K L 54 60 66 72 f1773 v8 n8 l8 m8 d8 s8 := tw_vw_tr hw882 (fun a9 h9 k9 c9 => hF.z h9 (by rw [k9]; rfl)) (fun a9 h9 k9 c9 => hF.z h9 (by rw [k9]; rfl)) (fun a9 h9 k9 c9 => hF.z h9 (by rw [k9]; rfl)) (fun a9 h9 k9 c9 => hF.z h9 (by rw [k9]; rfl)) (fun i9 => hF.r hn8 (by rw [kn8]; rfl)) (fun i9 => hF.r hl8 (by rw [kl8]; rfl)) (fun i9 => hF.r hm8 (by rw [km8]; rfl))
        have g1793 : tw_nw K L 60 f1773 := tw_nw_tr hz882 (fun a9 h9 k9 => hF.j h9 (by rw [k9]; rfl))
        refine q_iinc (lv' := [(2, .int (q_i (v82_2 + 1))), (0, .ref v0), (1, .ref v8)]) cx dX10_copyFrom_103 hl (k := 2) rfl (by decide) rfl (fun ls hl => ?_)
        refine lv_goto (tgt := 82) cx.1 cx.2.1 dX10_copyFrom_106 (by decide) ?_
        exact ih82 f1773 (v82_2 + 1) (by omega) (by omega) w82_v0_3 (by omega) (by omega) w82_v0_4 (by omega) (by omega) w82_v0_5 (by omega) (by omega) w82_v0_11 (by omega) (by omega) z1778 z1779 z1780 z1781 z1782 z1783 z1784 z1785 z1786 z1787 z1788 z1789 z1790 z1791 g1792 g1777 g1793 (by omega) (by omega) (by omega) (by omega) (by omega) (tw_cg g1776 (by have t0_ : x1762 = (tw_cnl (tw_c0 s0 s8) s8 (Int.toNat v82_2)) 0 3 := sx1762; (try simp only [t0_]); rw [tw_cnl_s (by omega)]; (repeat' split) <;> first | rfl | (exfalso; omega))) (by omega) H locs hB ls (lv_sub hl [1, 2, 0] rfl)
  obtain ⟨H, hH⟩ : ∃ H : Heap, H = s.heap := ⟨_, rfl⟩
  obtain ⟨locs, hlocs⟩ : ∃ z : List Loc, z = [] := ⟨_, rfl⟩
  rw [← hH, ← hlocs] at hB
  rw [← hH, ← hlocs]
  refine q_ald_n cx dX10_copyFrom_0 rfl (lv_at hl 0 rfl) ?_
  refine q_ald_n cx dX10_copyFrom_1 rfl (lv_at hl 1 rfl) ?_
  obtain ⟨x1794, ex1794, nx1794⟩ : ∃ zz, q_is (q_z f v8 3) zz ∧ zz = nn := ⟨_, hf0, rfl⟩
  have sx1794 : q_is x1794 (s8 0 3) := tw_g hw8 (tw_v0 hw8) (by omega) (by omega) ex1794
  refine q_gX10_35_54 cx hB hv8 kv8 ex1794 dX10_copyFrom_2 (fun lb1795 ub1795 => ?_)
  refine q_pX10_35 cx hB hv0 kv0 ⟨by omega, by omega⟩ (by omega) (by omega) rfl dX10_copyFrom_5 (fun H locs f1796 ef1796 z1797 hB => ?_)
  have z1798 : q_is (q_z f1796 v8 3) nn := by rw [ef1796, q_setz (Or.inl (fun q => by rw [q, kv0] at kv8; exact absurd kv8 (by decide)))]; exact hf0
  have z1799 : q_is (q_z f1796 v8 4) ln := by rw [ef1796, q_setz (Or.inr (by decide))]; exact hf1
  have z1800 : q_is (q_z f1796 v8 5) mn := by rw [ef1796, q_setz (Or.inr (by decide))]; exact hf2
  have z1801 : q_is (q_z f1796 v8 11) tm := by rw [ef1796, q_setz (Or.inr (by decide))]; exact hf3
  have z1802 : q_ir (q_r f1796 v0 0) n0 := by rw [ef1796, q_setr (Or.inr (by decide))]; exact hr0
  have z1803 : q_ir (q_r f1796 v0 1) l0 := by rw [ef1796, q_setr (Or.inr (by decide))]; exact hr1
  have z1804 : q_ir (q_r f1796 v0 2) m0 := by rw [ef1796, q_setr (Or.inr (by decide))]; exact hr2
  have z1805 : q_ir (q_r f1796 v8 0) n8 := by rw [ef1796, q_setr (Or.inr (by decide))]; exact hr3
  have z1806 : q_ir (q_r f1796 v8 1) l8 := by rw [ef1796, q_setr (Or.inr (by decide))]; exact hr4
  have z1807 : q_ir (q_r f1796 v8 2) m8 := by rw [ef1796, q_setr (Or.inr (by decide))]; exact hr5
  have g1808 : tw_vw K L 10 5 3 4 f1796 v0 n0 l0 m0 d0 (tw_u s0 0 3 x1794) := tw_vw_s hw0 (tw_v0 hw0) (by omega) (by omega) ef1796 z1797 (fun i9 => by rw [ef1796, q_setr (Or.inl (fun q => by rw [q, kv0] at kn0; exact absurd kn0 (by decide)))]) (fun i9 => by rw [ef1796, q_setr (Or.inl (fun q => by rw [q, kv0] at kl0; exact absurd kl0 (by decide)))]) (fun i9 => by rw [ef1796, q_setr (Or.inl (fun q => by rw [q, kv0] at km0; exact absurd km0 (by decide)))])
  have g1809 : tw_vw K L 54 60 66 72 f1796 v8 n8 l8 m8 d8 s8 := tw_vw_tr hw8 (fun a9 h9 k9 c9 => by rw [ef1796, q_setz (Or.inl (fun q => by rw [q, kv0] at k9; exact absurd k9 (by decide)))]) (fun a9 h9 k9 c9 => by rw [ef1796, q_setz (Or.inl (fun q => by rw [q, kv0] at k9; exact absurd k9 (by decide)))]) (fun a9 h9 k9 c9 => by rw [ef1796, q_setz (Or.inl (fun q => by rw [q, kv0] at k9; exact absurd k9 (by decide)))]) (fun a9 h9 k9 c9 => by rw [ef1796, q_setz (Or.inl (fun q => by rw [q, kv0] at k9; exact absurd k9 (by decide)))]) (fun i9 => by rw [ef1796, q_setr (Or.inl (fun q => by rw [q, kv0] at kn8; exact absurd kn8 (by decide)))]) (fun i9 => by rw [ef1796, q_setr (Or.inl (fun q => by rw [q, kv0] at kl8; exact absurd kl8 (by decide)))]) (fun i9 => by rw [ef1796, q_setr (Or.inl (fun q => by rw [q, kv0] at km8; exact absurd km8 (by decide)))])
  have g1810 : tw_nw K L 5 f1796 := tw_nw_tr hz0 (fun a9 h9 k9 => by rw [ef1796, q_setj (Or.inl (fun q => by rw [q, kv0] at k9; exact absurd k9 (by decide)))])
  have g1811 : tw_nw K L 60 f1796 := tw_nw_tr hz8 (fun a9 h9 k9 => by rw [ef1796, q_setj (Or.inl (fun q => by rw [q, kv0] at k9; exact absurd k9 (by decide)))])
  refine q_ald_n cx dX10_copyFrom_8 rfl (lv_at hl 0 rfl) ?_
  refine q_ald_n cx dX10_copyFrom_9 rfl (lv_at hl 1 rfl) ?_
  obtain ⟨x1812, ex1812, nx1812⟩ : ∃ zz, q_is (q_z f1796 v8 4) zz ∧ zz = ln := ⟨_, z1799, rfl⟩
  have sx1812 : q_is x1812 (s8 0 4) := tw_g g1809 (tw_v0 hw8) (by omega) (by omega) ex1812
  refine q_gX10_39_54 cx hB hv8 kv8 ex1812 dX10_copyFrom_10 (fun lb1813 ub1813 => ?_)
  refine q_pX10_39 cx hB hv0 kv0 ⟨by omega, by omega⟩ (by omega) (by omega) rfl dX10_copyFrom_13 (fun H locs f1814 ef1814 z1815 hB => ?_)
  have z1816 : q_is (q_z f1814 v8 3) nn := by rw [ef1814, q_setz (Or.inr (by decide))]; exact z1798
  have z1817 : q_is (q_z f1814 v8 4) ln := by rw [ef1814, q_setz (Or.inl (fun q => by rw [q, kv0] at kv8; exact absurd kv8 (by decide)))]; exact z1799
  have z1818 : q_is (q_z f1814 v8 5) mn := by rw [ef1814, q_setz (Or.inr (by decide))]; exact z1800
  have z1819 : q_is (q_z f1814 v8 11) tm := by rw [ef1814, q_setz (Or.inr (by decide))]; exact z1801
  have z1820 : q_is (q_z f1814 v0 3) x1794 := by rw [ef1814, q_setz (Or.inr (by decide))]; exact z1797
  have z1821 : q_ir (q_r f1814 v0 0) n0 := by rw [ef1814, q_setr (Or.inr (by decide))]; exact z1802
  have z1822 : q_ir (q_r f1814 v0 1) l0 := by rw [ef1814, q_setr (Or.inr (by decide))]; exact z1803
  have z1823 : q_ir (q_r f1814 v0 2) m0 := by rw [ef1814, q_setr (Or.inr (by decide))]; exact z1804
  have z1824 : q_ir (q_r f1814 v8 0) n8 := by rw [ef1814, q_setr (Or.inr (by decide))]; exact z1805
  have z1825 : q_ir (q_r f1814 v8 1) l8 := by rw [ef1814, q_setr (Or.inr (by decide))]; exact z1806
  have z1826 : q_ir (q_r f1814 v8 2) m8 := by rw [ef1814, q_setr (Or.inr (by decide))]; exact z1807
  have g1827 : tw_vw K L 10 5 3 4 f1814 v0 n0 l0 m0 d0 (tw_u (tw_u s0 0 3 x1794) 0 4 x1812) := tw_vw_s g1808 (tw_v0 hw0) (by omega) (by omega) ef1814 z1815 (fun i9 => by rw [ef1814, q_setr (Or.inl (fun q => by rw [q, kv0] at kn0; exact absurd kn0 (by decide)))]) (fun i9 => by rw [ef1814, q_setr (Or.inl (fun q => by rw [q, kv0] at kl0; exact absurd kl0 (by decide)))]) (fun i9 => by rw [ef1814, q_setr (Or.inl (fun q => by rw [q, kv0] at km0; exact absurd km0 (by decide)))])
  have g1828 : tw_vw K L 54 60 66 72 f1814 v8 n8 l8 m8 d8 s8 := tw_vw_tr g1809 (fun a9 h9 k9 c9 => by rw [ef1814, q_setz (Or.inl (fun q => by rw [q, kv0] at k9; exact absurd k9 (by decide)))]) (fun a9 h9 k9 c9 => by rw [ef1814, q_setz (Or.inl (fun q => by rw [q, kv0] at k9; exact absurd k9 (by decide)))]) (fun a9 h9 k9 c9 => by rw [ef1814, q_setz (Or.inl (fun q => by rw [q, kv0] at k9; exact absurd k9 (by decide)))]) (fun a9 h9 k9 c9 => by rw [ef1814, q_setz (Or.inl (fun q => by rw [q, kv0] at k9; exact absurd k9 (by decide)))]) (fun i9 => by rw [ef1814, q_setr (Or.inl (fun q => by rw [q, kv0] at kn8; exact absurd kn8 (by decide)))]) (fun i9 => by rw [ef1814, q_setr (Or.inl (fun q => by rw [q, kv0] at kl8; exact absurd kl8 (by decide)))]) (fun i9 => by rw [ef1814, q_setr (Or.inl (fun q => by rw [q, kv0] at km8; exact absurd km8 (by decide)))])
  have g1829 : tw_nw K L 5 f1814 := tw_nw_tr g1810 (fun a9 h9 k9 => by rw [ef1814, q_setj (Or.inl (fun q => by rw [q, kv0] at k9; exact absurd k9 (by decide)))])
  have g1830 : tw_nw K L 60 f1814 := tw_nw_tr g1811 (fun a9 h9 k9 => by rw [ef1814, q_setj (Or.inl (fun q => by rw [q, kv0] at k9; exact absurd k9 (by decide)))])
  refine q_ald_n cx dX10_copyFrom_16 rfl (lv_at hl 0 rfl) ?_
  refine q_ald_n cx dX10_copyFrom_17 rfl (lv_at hl 1 rfl) ?_
  obtain ⟨x1831, ex1831, nx1831⟩ : ∃ zz, q_is (q_z f1814 v8 5) zz ∧ zz = mn := ⟨_, z1818, rfl⟩
  have sx1831 : q_is x1831 (s8 0 5) := tw_g g1828 (tw_v0 hw8) (by omega) (by omega) ex1831
  refine q_gX10_42_54 cx hB hv8 kv8 ex1831 dX10_copyFrom_18 (fun lb1832 ub1832 => ?_)
  refine q_pX10_42 cx hB hv0 kv0 ⟨by omega, by omega⟩ (by omega) (by omega) rfl dX10_copyFrom_21 (fun H locs f1833 ef1833 z1834 hB => ?_)
  have z1835 : q_is (q_z f1833 v8 3) nn := by rw [ef1833, q_setz (Or.inr (by decide))]; exact z1816
  have z1836 : q_is (q_z f1833 v8 4) ln := by rw [ef1833, q_setz (Or.inr (by decide))]; exact z1817
  have z1837 : q_is (q_z f1833 v8 5) mn := by rw [ef1833, q_setz (Or.inl (fun q => by rw [q, kv0] at kv8; exact absurd kv8 (by decide)))]; exact z1818
  have z1838 : q_is (q_z f1833 v8 11) tm := by rw [ef1833, q_setz (Or.inr (by decide))]; exact z1819
  have z1839 : q_is (q_z f1833 v0 3) x1794 := by rw [ef1833, q_setz (Or.inr (by decide))]; exact z1820
  have z1840 : q_is (q_z f1833 v0 4) x1812 := by rw [ef1833, q_setz (Or.inr (by decide))]; exact z1815
  have z1841 : q_ir (q_r f1833 v0 0) n0 := by rw [ef1833, q_setr (Or.inr (by decide))]; exact z1821
  have z1842 : q_ir (q_r f1833 v0 1) l0 := by rw [ef1833, q_setr (Or.inr (by decide))]; exact z1822
  have z1843 : q_ir (q_r f1833 v0 2) m0 := by rw [ef1833, q_setr (Or.inr (by decide))]; exact z1823
  have z1844 : q_ir (q_r f1833 v8 0) n8 := by rw [ef1833, q_setr (Or.inr (by decide))]; exact z1824
  have z1845 : q_ir (q_r f1833 v8 1) l8 := by rw [ef1833, q_setr (Or.inr (by decide))]; exact z1825
  have z1846 : q_ir (q_r f1833 v8 2) m8 := by rw [ef1833, q_setr (Or.inr (by decide))]; exact z1826
  have g1847 : tw_vw K L 10 5 3 4 f1833 v0 n0 l0 m0 d0 (tw_u (tw_u (tw_u s0 0 3 x1794) 0 4 x1812) 0 5 x1831) := tw_vw_s g1827 (tw_v0 hw0) (by omega) (by omega) ef1833 z1834 (fun i9 => by rw [ef1833, q_setr (Or.inl (fun q => by rw [q, kv0] at kn0; exact absurd kn0 (by decide)))]) (fun i9 => by rw [ef1833, q_setr (Or.inl (fun q => by rw [q, kv0] at kl0; exact absurd kl0 (by decide)))]) (fun i9 => by rw [ef1833, q_setr (Or.inl (fun q => by rw [q, kv0] at km0; exact absurd km0 (by decide)))])
  have g1848 : tw_vw K L 54 60 66 72 f1833 v8 n8 l8 m8 d8 s8 := tw_vw_tr g1828 (fun a9 h9 k9 c9 => by rw [ef1833, q_setz (Or.inl (fun q => by rw [q, kv0] at k9; exact absurd k9 (by decide)))]) (fun a9 h9 k9 c9 => by rw [ef1833, q_setz (Or.inl (fun q => by rw [q, kv0] at k9; exact absurd k9 (by decide)))]) (fun a9 h9 k9 c9 => by rw [ef1833, q_setz (Or.inl (fun q => by rw [q, kv0] at k9; exact absurd k9 (by decide)))]) (fun a9 h9 k9 c9 => by rw [ef1833, q_setz (Or.inl (fun q => by rw [q, kv0] at k9; exact absurd k9 (by decide)))]) (fun i9 => by rw [ef1833, q_setr (Or.inl (fun q => by rw [q, kv0] at kn8; exact absurd kn8 (by decide)))]) (fun i9 => by rw [ef1833, q_setr (Or.inl (fun q => by rw [q, kv0] at kl8; exact absurd kl8 (by decide)))]) (fun i9 => by rw [ef1833, q_setr (Or.inl (fun q => by rw [q, kv0] at km8; exact absurd km8 (by decide)))])
  have g1849 : tw_nw K L 5 f1833 := tw_nw_tr g1829 (fun a9 h9 k9 => by rw [ef1833, q_setj (Or.inl (fun q => by rw [q, kv0] at k9; exact absurd k9 (by decide)))])
  have g1850 : tw_nw K L 60 f1833 := tw_nw_tr g1830 (fun a9 h9 k9 => by rw [ef1833, q_setj (Or.inl (fun q => by rw [q, kv0] at k9; exact absurd k9 (by decide)))])
  refine q_ald_n cx dX10_copyFrom_24 rfl (lv_at hl 0 rfl) ?_
  refine q_ald_n cx dX10_copyFrom_25 rfl (lv_at hl 1 rfl) ?_
  obtain ⟨x1851, ex1851⟩ : ∃ zz, q_is (q_z f1833 v8 6) zz := ⟨_, q_isr _⟩
  obtain ⟨lx1851, ux1851⟩ := q_isb ex1851 (q_fib hB.2.1 hv8 kv8 (by decide) rfl)
  obtain ⟨x1852, ex1852, nx1852⟩ : ∃ zz, q_is (q_z f1833 v8 6) zz ∧ zz = x1851 := ⟨_, ex1851, rfl⟩
  have sx1852 : q_is x1852 (s8 0 6) := tw_g g1848 (tw_v0 hw8) (by omega) (by omega) ex1852
  refine q_gX10_45_54 cx hB hv8 kv8 ex1852 dX10_copyFrom_26 (fun lb1853 ub1853 => ?_)
  refine q_pX10_45 cx hB hv0 kv0 ⟨by omega, by omega⟩ (by omega) (by omega) rfl dX10_copyFrom_29 (fun H locs f1854 ef1854 z1855 hB => ?_)
  have z1856 : q_is (q_z f1854 v8 3) nn := by rw [ef1854, q_setz (Or.inr (by decide))]; exact z1835
  have z1857 : q_is (q_z f1854 v8 4) ln := by rw [ef1854, q_setz (Or.inr (by decide))]; exact z1836
  have z1858 : q_is (q_z f1854 v8 5) mn := by rw [ef1854, q_setz (Or.inr (by decide))]; exact z1837
  have z1859 : q_is (q_z f1854 v8 11) tm := by rw [ef1854, q_setz (Or.inr (by decide))]; exact z1838
  have z1860 : q_is (q_z f1854 v0 3) x1794 := by rw [ef1854, q_setz (Or.inr (by decide))]; exact z1839
  have z1861 : q_is (q_z f1854 v0 4) x1812 := by rw [ef1854, q_setz (Or.inr (by decide))]; exact z1840
  have z1862 : q_is (q_z f1854 v0 5) x1831 := by rw [ef1854, q_setz (Or.inr (by decide))]; exact z1834
  have z1863 : q_is (q_z f1854 v8 6) x1851 := by rw [ef1854, q_setz (Or.inl (fun q => by rw [q, kv0] at kv8; exact absurd kv8 (by decide)))]; exact ex1851
  have z1864 : q_ir (q_r f1854 v0 0) n0 := by rw [ef1854, q_setr (Or.inr (by decide))]; exact z1841
  have z1865 : q_ir (q_r f1854 v0 1) l0 := by rw [ef1854, q_setr (Or.inr (by decide))]; exact z1842
  have z1866 : q_ir (q_r f1854 v0 2) m0 := by rw [ef1854, q_setr (Or.inr (by decide))]; exact z1843
  have z1867 : q_ir (q_r f1854 v8 0) n8 := by rw [ef1854, q_setr (Or.inr (by decide))]; exact z1844
  have z1868 : q_ir (q_r f1854 v8 1) l8 := by rw [ef1854, q_setr (Or.inr (by decide))]; exact z1845
  have z1869 : q_ir (q_r f1854 v8 2) m8 := by rw [ef1854, q_setr (Or.inr (by decide))]; exact z1846
  have g1870 : tw_vw K L 10 5 3 4 f1854 v0 n0 l0 m0 d0 (tw_u (tw_u (tw_u (tw_u s0 0 3 x1794) 0 4 x1812) 0 5 x1831) 0 6 x1852) := tw_vw_s g1847 (tw_v0 hw0) (by omega) (by omega) ef1854 z1855 (fun i9 => by rw [ef1854, q_setr (Or.inl (fun q => by rw [q, kv0] at kn0; exact absurd kn0 (by decide)))]) (fun i9 => by rw [ef1854, q_setr (Or.inl (fun q => by rw [q, kv0] at kl0; exact absurd kl0 (by decide)))]) (fun i9 => by rw [ef1854, q_setr (Or.inl (fun q => by rw [q, kv0] at km0; exact absurd km0 (by decide)))])
  have g1871 : tw_vw K L 54 60 66 72 f1854 v8 n8 l8 m8 d8 s8 := tw_vw_tr g1848 (fun a9 h9 k9 c9 => by rw [ef1854, q_setz (Or.inl (fun q => by rw [q, kv0] at k9; exact absurd k9 (by decide)))]) (fun a9 h9 k9 c9 => by rw [ef1854, q_setz (Or.inl (fun q => by rw [q, kv0] at k9; exact absurd k9 (by decide)))]) (fun a9 h9 k9 c9 => by rw [ef1854, q_setz (Or.inl (fun q => by rw [q, kv0] at k9; exact absurd k9 (by decide)))]) (fun a9 h9 k9 c9 => by rw [ef1854, q_setz (Or.inl (fun q => by rw [q, kv0] at k9; exact absurd k9 (by decide)))]) (fun i9 => by rw [ef1854, q_setr (Or.inl (fun q => by rw [q, kv0] at kn8; exact absurd kn8 (by decide)))]) (fun i9 => by rw [ef1854, q_setr (Or.inl (fun q => by rw [q, kv0] at kl8; exact absurd kl8 (by decide)))]) (fun i9 => by rw [ef1854, q_setr (Or.inl (fun q => by rw [q, kv0] at km8; exact absurd km8 (by decide)))])
  have g1872 : tw_nw K L 5 f1854 := tw_nw_tr g1849 (fun a9 h9 k9 => by rw [ef1854, q_setj (Or.inl (fun q => by rw [q, kv0] at k9; exact absurd k9 (by decide)))])
  have g1873 : tw_nw K L 60 f1854 := tw_nw_tr g1850 (fun a9 h9 k9 => by rw [ef1854, q_setj (Or.inl (fun q => by rw [q, kv0] at k9; exact absurd k9 (by decide)))])
  refine q_ald_n cx dX10_copyFrom_32 rfl (lv_at hl 0 rfl) ?_
  refine q_ald_n cx dX10_copyFrom_33 rfl (lv_at hl 1 rfl) ?_
  obtain ⟨x1874, ex1874⟩ : ∃ zz, q_is (q_z f1854 v8 7) zz := ⟨_, q_isr _⟩
  obtain ⟨lx1874, ux1874⟩ := q_isb ex1874 (q_fib hB.2.1 hv8 kv8 (by decide) rfl)
  obtain ⟨x1875, ex1875, nx1875⟩ : ∃ zz, q_is (q_z f1854 v8 7) zz ∧ zz = x1874 := ⟨_, ex1874, rfl⟩
  have sx1875 : q_is x1875 (s8 0 7) := tw_g g1871 (tw_v0 hw8) (by omega) (by omega) ex1875
  refine q_gX10_48_54 cx hB hv8 kv8 ex1875 dX10_copyFrom_34 (fun lb1876 ub1876 => ?_)
  refine q_pX10_48 cx hB hv0 kv0 ⟨by omega, by omega⟩ (by omega) (by omega) rfl dX10_copyFrom_37 (fun H locs f1877 ef1877 z1878 hB => ?_)
  have z1879 : q_is (q_z f1877 v8 3) nn := by rw [ef1877, q_setz (Or.inr (by decide))]; exact z1856
  have z1880 : q_is (q_z f1877 v8 4) ln := by rw [ef1877, q_setz (Or.inr (by decide))]; exact z1857
  have z1881 : q_is (q_z f1877 v8 5) mn := by rw [ef1877, q_setz (Or.inr (by decide))]; exact z1858
  have z1882 : q_is (q_z f1877 v8 11) tm := by rw [ef1877, q_setz (Or.inr (by decide))]; exact z1859
  have z1883 : q_is (q_z f1877 v0 3) x1794 := by rw [ef1877, q_setz (Or.inr (by decide))]; exact z1860
  have z1884 : q_is (q_z f1877 v0 4) x1812 := by rw [ef1877, q_setz (Or.inr (by decide))]; exact z1861
  have z1885 : q_is (q_z f1877 v0 5) x1831 := by rw [ef1877, q_setz (Or.inr (by decide))]; exact z1862
  have z1886 : q_is (q_z f1877 v8 6) x1851 := by rw [ef1877, q_setz (Or.inr (by decide))]; exact z1863
  have z1887 : q_is (q_z f1877 v0 6) x1852 := by rw [ef1877, q_setz (Or.inr (by decide))]; exact z1855
  have z1888 : q_is (q_z f1877 v8 7) x1874 := by rw [ef1877, q_setz (Or.inl (fun q => by rw [q, kv0] at kv8; exact absurd kv8 (by decide)))]; exact ex1874
  have z1889 : q_ir (q_r f1877 v0 0) n0 := by rw [ef1877, q_setr (Or.inr (by decide))]; exact z1864
  have z1890 : q_ir (q_r f1877 v0 1) l0 := by rw [ef1877, q_setr (Or.inr (by decide))]; exact z1865
  have z1891 : q_ir (q_r f1877 v0 2) m0 := by rw [ef1877, q_setr (Or.inr (by decide))]; exact z1866
  have z1892 : q_ir (q_r f1877 v8 0) n8 := by rw [ef1877, q_setr (Or.inr (by decide))]; exact z1867
  have z1893 : q_ir (q_r f1877 v8 1) l8 := by rw [ef1877, q_setr (Or.inr (by decide))]; exact z1868
  have z1894 : q_ir (q_r f1877 v8 2) m8 := by rw [ef1877, q_setr (Or.inr (by decide))]; exact z1869
  have g1895 : tw_vw K L 10 5 3 4 f1877 v0 n0 l0 m0 d0 (tw_u (tw_u (tw_u (tw_u (tw_u s0 0 3 x1794) 0 4 x1812) 0 5 x1831) 0 6 x1852) 0 7 x1875) := tw_vw_s g1870 (tw_v0 hw0) (by omega) (by omega) ef1877 z1878 (fun i9 => by rw [ef1877, q_setr (Or.inl (fun q => by rw [q, kv0] at kn0; exact absurd kn0 (by decide)))]) (fun i9 => by rw [ef1877, q_setr (Or.inl (fun q => by rw [q, kv0] at kl0; exact absurd kl0 (by decide)))]) (fun i9 => by rw [ef1877, q_setr (Or.inl (fun q => by rw [q, kv0] at km0; exact absurd km0 (by decide)))])
  have g1896 : tw_vw K L 54 60 66 72 f1877 v8 n8 l8 m8 d8 s8 := tw_vw_tr g1871 (fun a9 h9 k9 c9 => by rw [ef1877, q_setz (Or.inl (fun q => by rw [q, kv0] at k9; exact absurd k9 (by decide)))]) (fun a9 h9 k9 c9 => by rw [ef1877, q_setz (Or.inl (fun q => by rw [q, kv0] at k9; exact absurd k9 (by decide)))]) (fun a9 h9 k9 c9 => by rw [ef1877, q_setz (Or.inl (fun q => by rw [q, kv0] at k9; exact absurd k9 (by decide)))]) (fun a9 h9 k9 c9 => by rw [ef1877, q_setz (Or.inl (fun q => by rw [q, kv0] at k9; exact absurd k9 (by decide)))]) (fun i9 => by rw [ef1877, q_setr (Or.inl (fun q => by rw [q, kv0] at kn8; exact absurd kn8 (by decide)))]) (fun i9 => by rw [ef1877, q_setr (Or.inl (fun q => by rw [q, kv0] at kl8; exact absurd kl8 (by decide)))]) (fun i9 => by rw [ef1877, q_setr (Or.inl (fun q => by rw [q, kv0] at km8; exact absurd km8 (by decide)))])
  have g1897 : tw_nw K L 5 f1877 := tw_nw_tr g1872 (fun a9 h9 k9 => by rw [ef1877, q_setj (Or.inl (fun q => by rw [q, kv0] at k9; exact absurd k9 (by decide)))])
  have g1898 : tw_nw K L 60 f1877 := tw_nw_tr g1873 (fun a9 h9 k9 => by rw [ef1877, q_setj (Or.inl (fun q => by rw [q, kv0] at k9; exact absurd k9 (by decide)))])
  refine q_ald_n cx dX10_copyFrom_40 rfl (lv_at hl 0 rfl) ?_
  refine q_ald_n cx dX10_copyFrom_41 rfl (lv_at hl 1 rfl) ?_
  obtain ⟨x1899, ex1899⟩ : ∃ zz, q_is (q_z f1877 v8 8) zz := ⟨_, q_isr _⟩
  obtain ⟨lx1899, ux1899⟩ := q_isb ex1899 (q_fib hB.2.1 hv8 kv8 (by decide) rfl)
  obtain ⟨x1900, ex1900, nx1900⟩ : ∃ zz, q_is (q_z f1877 v8 8) zz ∧ zz = x1899 := ⟨_, ex1899, rfl⟩
  have sx1900 : q_is x1900 (s8 0 8) := tw_g g1896 (tw_v0 hw8) (by omega) (by omega) ex1900
  refine q_gX10_51_54 cx hB hv8 kv8 ex1900 dX10_copyFrom_42 (fun lb1901 ub1901 => ?_)
  refine q_pX10_51 cx hB hv0 kv0 ⟨by omega, by omega⟩ (by omega) (by omega) rfl dX10_copyFrom_45 (fun H locs f1902 ef1902 z1903 hB => ?_)
  have z1904 : q_is (q_z f1902 v8 3) nn := by rw [ef1902, q_setz (Or.inr (by decide))]; exact z1879
  have z1905 : q_is (q_z f1902 v8 4) ln := by rw [ef1902, q_setz (Or.inr (by decide))]; exact z1880
  have z1906 : q_is (q_z f1902 v8 5) mn := by rw [ef1902, q_setz (Or.inr (by decide))]; exact z1881
  have z1907 : q_is (q_z f1902 v8 11) tm := by rw [ef1902, q_setz (Or.inr (by decide))]; exact z1882
  have z1908 : q_is (q_z f1902 v0 3) x1794 := by rw [ef1902, q_setz (Or.inr (by decide))]; exact z1883
  have z1909 : q_is (q_z f1902 v0 4) x1812 := by rw [ef1902, q_setz (Or.inr (by decide))]; exact z1884
  have z1910 : q_is (q_z f1902 v0 5) x1831 := by rw [ef1902, q_setz (Or.inr (by decide))]; exact z1885
  have z1911 : q_is (q_z f1902 v8 6) x1851 := by rw [ef1902, q_setz (Or.inr (by decide))]; exact z1886
  have z1912 : q_is (q_z f1902 v0 6) x1852 := by rw [ef1902, q_setz (Or.inr (by decide))]; exact z1887
  have z1913 : q_is (q_z f1902 v8 7) x1874 := by rw [ef1902, q_setz (Or.inr (by decide))]; exact z1888
  have z1914 : q_is (q_z f1902 v0 7) x1875 := by rw [ef1902, q_setz (Or.inr (by decide))]; exact z1878
  have z1915 : q_is (q_z f1902 v8 8) x1899 := by rw [ef1902, q_setz (Or.inl (fun q => by rw [q, kv0] at kv8; exact absurd kv8 (by decide)))]; exact ex1899
  have z1916 : q_ir (q_r f1902 v0 0) n0 := by rw [ef1902, q_setr (Or.inr (by decide))]; exact z1889
  have z1917 : q_ir (q_r f1902 v0 1) l0 := by rw [ef1902, q_setr (Or.inr (by decide))]; exact z1890
  have z1918 : q_ir (q_r f1902 v0 2) m0 := by rw [ef1902, q_setr (Or.inr (by decide))]; exact z1891
  have z1919 : q_ir (q_r f1902 v8 0) n8 := by rw [ef1902, q_setr (Or.inr (by decide))]; exact z1892
  have z1920 : q_ir (q_r f1902 v8 1) l8 := by rw [ef1902, q_setr (Or.inr (by decide))]; exact z1893
  have z1921 : q_ir (q_r f1902 v8 2) m8 := by rw [ef1902, q_setr (Or.inr (by decide))]; exact z1894
  have g1922 : tw_vw K L 10 5 3 4 f1902 v0 n0 l0 m0 d0 (tw_u (tw_u (tw_u (tw_u (tw_u (tw_u s0 0 3 x1794) 0 4 x1812) 0 5 x1831) 0 6 x1852) 0 7 x1875) 0 8 x1900) := tw_vw_s g1895 (tw_v0 hw0) (by omega) (by omega) ef1902 z1903 (fun i9 => by rw [ef1902, q_setr (Or.inl (fun q => by rw [q, kv0] at kn0; exact absurd kn0 (by decide)))]) (fun i9 => by rw [ef1902, q_setr (Or.inl (fun q => by rw [q, kv0] at kl0; exact absurd kl0 (by decide)))]) (fun i9 => by rw [ef1902, q_setr (Or.inl (fun q => by rw [q, kv0] at km0; exact absurd km0 (by decide)))])
  have g1923 : tw_vw K L 54 60 66 72 f1902 v8 n8 l8 m8 d8 s8 := tw_vw_tr g1896 (fun a9 h9 k9 c9 => by rw [ef1902, q_setz (Or.inl (fun q => by rw [q, kv0] at k9; exact absurd k9 (by decide)))]) (fun a9 h9 k9 c9 => by rw [ef1902, q_setz (Or.inl (fun q => by rw [q, kv0] at k9; exact absurd k9 (by decide)))]) (fun a9 h9 k9 c9 => by rw [ef1902, q_setz (Or.inl (fun q => by rw [q, kv0] at k9; exact absurd k9 (by decide)))]) (fun a9 h9 k9 c9 => by rw [ef1902, q_setz (Or.inl (fun q => by rw [q, kv0] at k9; exact absurd k9 (by decide)))]) (fun i9 => by rw [ef1902, q_setr (Or.inl (fun q => by rw [q, kv0] at kn8; exact absurd kn8 (by decide)))]) (fun i9 => by rw [ef1902, q_setr (Or.inl (fun q => by rw [q, kv0] at kl8; exact absurd kl8 (by decide)))]) (fun i9 => by rw [ef1902, q_setr (Or.inl (fun q => by rw [q, kv0] at km8; exact absurd km8 (by decide)))])
  have g1924 : tw_nw K L 5 f1902 := tw_nw_tr g1897 (fun a9 h9 k9 => by rw [ef1902, q_setj (Or.inl (fun q => by rw [q, kv0] at k9; exact absurd k9 (by decide)))])
  have g1925 : tw_nw K L 60 f1902 := tw_nw_tr g1898 (fun a9 h9 k9 => by rw [ef1902, q_setj (Or.inl (fun q => by rw [q, kv0] at k9; exact absurd k9 (by decide)))])
  refine q_ald_n cx dX10_copyFrom_48 rfl (lv_at hl 0 rfl) ?_
  refine q_ald_n cx dX10_copyFrom_49 rfl (lv_at hl 1 rfl) ?_
  obtain ⟨x1926, ex1926⟩ : ∃ zz, q_is (q_z f1902 v8 9) zz := ⟨_, q_isr _⟩
  obtain ⟨lx1926, ux1926⟩ := q_isb ex1926 (q_fib hB.2.1 hv8 kv8 (by decide) rfl)
  obtain ⟨x1927, ex1927, nx1927⟩ : ∃ zz, q_is (q_z f1902 v8 9) zz ∧ zz = x1926 := ⟨_, ex1926, rfl⟩
  have sx1927 : q_is x1927 (s8 0 9) := tw_g g1923 (tw_v0 hw8) (by omega) (by omega) ex1927
  refine q_gX10_54_54 cx hB hv8 kv8 ex1927 dX10_copyFrom_50 (fun lb1928 ub1928 => ?_)
  refine q_pX10_54 cx hB hv0 kv0 ⟨by omega, by omega⟩ (by omega) (by omega) rfl dX10_copyFrom_53 (fun H locs f1929 ef1929 z1930 hB => ?_)
  have z1931 : q_is (q_z f1929 v8 3) nn := by rw [ef1929, q_setz (Or.inr (by decide))]; exact z1904
  have z1932 : q_is (q_z f1929 v8 4) ln := by rw [ef1929, q_setz (Or.inr (by decide))]; exact z1905
  have z1933 : q_is (q_z f1929 v8 5) mn := by rw [ef1929, q_setz (Or.inr (by decide))]; exact z1906
  have z1934 : q_is (q_z f1929 v8 11) tm := by rw [ef1929, q_setz (Or.inr (by decide))]; exact z1907
  have z1935 : q_is (q_z f1929 v0 3) x1794 := by rw [ef1929, q_setz (Or.inr (by decide))]; exact z1908
  have z1936 : q_is (q_z f1929 v0 4) x1812 := by rw [ef1929, q_setz (Or.inr (by decide))]; exact z1909
  have z1937 : q_is (q_z f1929 v0 5) x1831 := by rw [ef1929, q_setz (Or.inr (by decide))]; exact z1910
  have z1938 : q_is (q_z f1929 v8 6) x1851 := by rw [ef1929, q_setz (Or.inr (by decide))]; exact z1911
  have z1939 : q_is (q_z f1929 v0 6) x1852 := by rw [ef1929, q_setz (Or.inr (by decide))]; exact z1912
  have z1940 : q_is (q_z f1929 v8 7) x1874 := by rw [ef1929, q_setz (Or.inr (by decide))]; exact z1913
  have z1941 : q_is (q_z f1929 v0 7) x1875 := by rw [ef1929, q_setz (Or.inr (by decide))]; exact z1914
  have z1942 : q_is (q_z f1929 v8 8) x1899 := by rw [ef1929, q_setz (Or.inr (by decide))]; exact z1915
  have z1943 : q_is (q_z f1929 v0 8) x1900 := by rw [ef1929, q_setz (Or.inr (by decide))]; exact z1903
  have z1944 : q_is (q_z f1929 v8 9) x1926 := by rw [ef1929, q_setz (Or.inl (fun q => by rw [q, kv0] at kv8; exact absurd kv8 (by decide)))]; exact ex1926
  have z1945 : q_ir (q_r f1929 v0 0) n0 := by rw [ef1929, q_setr (Or.inr (by decide))]; exact z1916
  have z1946 : q_ir (q_r f1929 v0 1) l0 := by rw [ef1929, q_setr (Or.inr (by decide))]; exact z1917
  have z1947 : q_ir (q_r f1929 v0 2) m0 := by rw [ef1929, q_setr (Or.inr (by decide))]; exact z1918
  have z1948 : q_ir (q_r f1929 v8 0) n8 := by rw [ef1929, q_setr (Or.inr (by decide))]; exact z1919
  have z1949 : q_ir (q_r f1929 v8 1) l8 := by rw [ef1929, q_setr (Or.inr (by decide))]; exact z1920
  have z1950 : q_ir (q_r f1929 v8 2) m8 := by rw [ef1929, q_setr (Or.inr (by decide))]; exact z1921
  have g1951 : tw_vw K L 10 5 3 4 f1929 v0 n0 l0 m0 d0 (tw_u (tw_u (tw_u (tw_u (tw_u (tw_u (tw_u s0 0 3 x1794) 0 4 x1812) 0 5 x1831) 0 6 x1852) 0 7 x1875) 0 8 x1900) 0 9 x1927) := tw_vw_s g1922 (tw_v0 hw0) (by omega) (by omega) ef1929 z1930 (fun i9 => by rw [ef1929, q_setr (Or.inl (fun q => by rw [q, kv0] at kn0; exact absurd kn0 (by decide)))]) (fun i9 => by rw [ef1929, q_setr (Or.inl (fun q => by rw [q, kv0] at kl0; exact absurd kl0 (by decide)))]) (fun i9 => by rw [ef1929, q_setr (Or.inl (fun q => by rw [q, kv0] at km0; exact absurd km0 (by decide)))])
  have g1952 : tw_vw K L 54 60 66 72 f1929 v8 n8 l8 m8 d8 s8 := tw_vw_tr g1923 (fun a9 h9 k9 c9 => by rw [ef1929, q_setz (Or.inl (fun q => by rw [q, kv0] at k9; exact absurd k9 (by decide)))]) (fun a9 h9 k9 c9 => by rw [ef1929, q_setz (Or.inl (fun q => by rw [q, kv0] at k9; exact absurd k9 (by decide)))]) (fun a9 h9 k9 c9 => by rw [ef1929, q_setz (Or.inl (fun q => by rw [q, kv0] at k9; exact absurd k9 (by decide)))]) (fun a9 h9 k9 c9 => by rw [ef1929, q_setz (Or.inl (fun q => by rw [q, kv0] at k9; exact absurd k9 (by decide)))]) (fun i9 => by rw [ef1929, q_setr (Or.inl (fun q => by rw [q, kv0] at kn8; exact absurd kn8 (by decide)))]) (fun i9 => by rw [ef1929, q_setr (Or.inl (fun q => by rw [q, kv0] at kl8; exact absurd kl8 (by decide)))]) (fun i9 => by rw [ef1929, q_setr (Or.inl (fun q => by rw [q, kv0] at km8; exact absurd km8 (by decide)))])
  have g1953 : tw_nw K L 5 f1929 := tw_nw_tr g1924 (fun a9 h9 k9 => by rw [ef1929, q_setj (Or.inl (fun q => by rw [q, kv0] at k9; exact absurd k9 (by decide)))])
  have g1954 : tw_nw K L 60 f1929 := tw_nw_tr g1925 (fun a9 h9 k9 => by rw [ef1929, q_setj (Or.inl (fun q => by rw [q, kv0] at k9; exact absurd k9 (by decide)))])
  refine q_ald_n cx dX10_copyFrom_56 rfl (lv_at hl 0 rfl) ?_
  refine q_ald_n cx dX10_copyFrom_57 rfl (lv_at hl 1 rfl) ?_
  obtain ⟨x1955, ex1955⟩ : ∃ zz, q_is (q_z f1929 v8 10) zz := ⟨_, q_isr _⟩
  obtain ⟨lx1955, ux1955⟩ := q_isb ex1955 (q_fib hB.2.1 hv8 kv8 (by decide) rfl)
  obtain ⟨x1956, ex1956, nx1956⟩ : ∃ zz, q_is (q_z f1929 v8 10) zz ∧ zz = x1955 := ⟨_, ex1955, rfl⟩
  have sx1956 : q_is x1956 (s8 0 10) := tw_g g1952 (tw_v0 hw8) (by omega) (by omega) ex1956
  refine q_gX10_57_54 cx hB hv8 kv8 ex1956 dX10_copyFrom_58 (fun lb1957 ub1957 => ?_)
  refine q_pX10_57 cx hB hv0 kv0 ⟨by omega, by omega⟩ (by omega) (by omega) rfl dX10_copyFrom_61 (fun H locs f1958 ef1958 z1959 hB => ?_)
  have z1960 : q_is (q_z f1958 v8 3) nn := by rw [ef1958, q_setz (Or.inr (by decide))]; exact z1931
  have z1961 : q_is (q_z f1958 v8 4) ln := by rw [ef1958, q_setz (Or.inr (by decide))]; exact z1932
  have z1962 : q_is (q_z f1958 v8 5) mn := by rw [ef1958, q_setz (Or.inr (by decide))]; exact z1933
  have z1963 : q_is (q_z f1958 v8 11) tm := by rw [ef1958, q_setz (Or.inr (by decide))]; exact z1934
  have z1964 : q_is (q_z f1958 v0 3) x1794 := by rw [ef1958, q_setz (Or.inr (by decide))]; exact z1935
  have z1965 : q_is (q_z f1958 v0 4) x1812 := by rw [ef1958, q_setz (Or.inr (by decide))]; exact z1936
  have z1966 : q_is (q_z f1958 v0 5) x1831 := by rw [ef1958, q_setz (Or.inr (by decide))]; exact z1937
  have z1967 : q_is (q_z f1958 v8 6) x1851 := by rw [ef1958, q_setz (Or.inr (by decide))]; exact z1938
  have z1968 : q_is (q_z f1958 v0 6) x1852 := by rw [ef1958, q_setz (Or.inr (by decide))]; exact z1939
  have z1969 : q_is (q_z f1958 v8 7) x1874 := by rw [ef1958, q_setz (Or.inr (by decide))]; exact z1940
  have z1970 : q_is (q_z f1958 v0 7) x1875 := by rw [ef1958, q_setz (Or.inr (by decide))]; exact z1941
  have z1971 : q_is (q_z f1958 v8 8) x1899 := by rw [ef1958, q_setz (Or.inr (by decide))]; exact z1942
  have z1972 : q_is (q_z f1958 v0 8) x1900 := by rw [ef1958, q_setz (Or.inr (by decide))]; exact z1943
  have z1973 : q_is (q_z f1958 v8 9) x1926 := by rw [ef1958, q_setz (Or.inr (by decide))]; exact z1944
  have z1974 : q_is (q_z f1958 v0 9) x1927 := by rw [ef1958, q_setz (Or.inr (by decide))]; exact z1930
  have z1975 : q_is (q_z f1958 v8 10) x1955 := by rw [ef1958, q_setz (Or.inl (fun q => by rw [q, kv0] at kv8; exact absurd kv8 (by decide)))]; exact ex1955
  have z1976 : q_ir (q_r f1958 v0 0) n0 := by rw [ef1958, q_setr (Or.inr (by decide))]; exact z1945
  have z1977 : q_ir (q_r f1958 v0 1) l0 := by rw [ef1958, q_setr (Or.inr (by decide))]; exact z1946
  have z1978 : q_ir (q_r f1958 v0 2) m0 := by rw [ef1958, q_setr (Or.inr (by decide))]; exact z1947
  have z1979 : q_ir (q_r f1958 v8 0) n8 := by rw [ef1958, q_setr (Or.inr (by decide))]; exact z1948
  have z1980 : q_ir (q_r f1958 v8 1) l8 := by rw [ef1958, q_setr (Or.inr (by decide))]; exact z1949
  have z1981 : q_ir (q_r f1958 v8 2) m8 := by rw [ef1958, q_setr (Or.inr (by decide))]; exact z1950
  have g1982 : tw_vw K L 10 5 3 4 f1958 v0 n0 l0 m0 d0 (tw_u (tw_u (tw_u (tw_u (tw_u (tw_u (tw_u (tw_u s0 0 3 x1794) 0 4 x1812) 0 5 x1831) 0 6 x1852) 0 7 x1875) 0 8 x1900) 0 9 x1927) 0 10 x1956) := tw_vw_s g1951 (tw_v0 hw0) (by omega) (by omega) ef1958 z1959 (fun i9 => by rw [ef1958, q_setr (Or.inl (fun q => by rw [q, kv0] at kn0; exact absurd kn0 (by decide)))]) (fun i9 => by rw [ef1958, q_setr (Or.inl (fun q => by rw [q, kv0] at kl0; exact absurd kl0 (by decide)))]) (fun i9 => by rw [ef1958, q_setr (Or.inl (fun q => by rw [q, kv0] at km0; exact absurd km0 (by decide)))])
  have g1983 : tw_vw K L 54 60 66 72 f1958 v8 n8 l8 m8 d8 s8 := tw_vw_tr g1952 (fun a9 h9 k9 c9 => by rw [ef1958, q_setz (Or.inl (fun q => by rw [q, kv0] at k9; exact absurd k9 (by decide)))]) (fun a9 h9 k9 c9 => by rw [ef1958, q_setz (Or.inl (fun q => by rw [q, kv0] at k9; exact absurd k9 (by decide)))]) (fun a9 h9 k9 c9 => by rw [ef1958, q_setz (Or.inl (fun q => by rw [q, kv0] at k9; exact absurd k9 (by decide)))]) (fun a9 h9 k9 c9 => by rw [ef1958, q_setz (Or.inl (fun q => by rw [q, kv0] at k9; exact absurd k9 (by decide)))]) (fun i9 => by rw [ef1958, q_setr (Or.inl (fun q => by rw [q, kv0] at kn8; exact absurd kn8 (by decide)))]) (fun i9 => by rw [ef1958, q_setr (Or.inl (fun q => by rw [q, kv0] at kl8; exact absurd kl8 (by decide)))]) (fun i9 => by rw [ef1958, q_setr (Or.inl (fun q => by rw [q, kv0] at km8; exact absurd km8 (by decide)))])
  have g1984 : tw_nw K L 5 f1958 := tw_nw_tr g1953 (fun a9 h9 k9 => by rw [ef1958, q_setj (Or.inl (fun q => by rw [q, kv0] at k9; exact absurd k9 (by decide)))])
  have g1985 : tw_nw K L 60 f1958 := tw_nw_tr g1954 (fun a9 h9 k9 => by rw [ef1958, q_setj (Or.inl (fun q => by rw [q, kv0] at k9; exact absurd k9 (by decide)))])
  refine q_ald_n cx dX10_copyFrom_64 rfl (lv_at hl 0 rfl) ?_
  refine q_ald_n cx dX10_copyFrom_65 rfl (lv_at hl 1 rfl) ?_
  obtain ⟨x1986, ex1986, nx1986⟩ : ∃ zz, q_is (q_z f1958 v8 11) zz ∧ zz = tm := ⟨_, z1963, rfl⟩
  have sx1986 : q_is x1986 (s8 0 11) := tw_g g1983 (tw_v0 hw8) (by omega) (by omega) ex1986
  refine q_gX10_60_54 cx hB hv8 kv8 ex1986 dX10_copyFrom_66 (fun lb1987 ub1987 => ?_)
  refine q_pX10_60 cx hB hv0 kv0 ⟨by omega, by omega⟩ (by omega) (by omega) rfl dX10_copyFrom_69 (fun H locs f1988 ef1988 z1989 hB => ?_)
  have z1990 : q_is (q_z f1988 v8 3) nn := by rw [ef1988, q_setz (Or.inr (by decide))]; exact z1960
  have z1991 : q_is (q_z f1988 v8 4) ln := by rw [ef1988, q_setz (Or.inr (by decide))]; exact z1961
  have z1992 : q_is (q_z f1988 v8 5) mn := by rw [ef1988, q_setz (Or.inr (by decide))]; exact z1962
  have z1993 : q_is (q_z f1988 v8 11) tm := by rw [ef1988, q_setz (Or.inl (fun q => by rw [q, kv0] at kv8; exact absurd kv8 (by decide)))]; exact z1963
  have z1994 : q_is (q_z f1988 v0 3) x1794 := by rw [ef1988, q_setz (Or.inr (by decide))]; exact z1964
  have z1995 : q_is (q_z f1988 v0 4) x1812 := by rw [ef1988, q_setz (Or.inr (by decide))]; exact z1965
  have z1996 : q_is (q_z f1988 v0 5) x1831 := by rw [ef1988, q_setz (Or.inr (by decide))]; exact z1966
  have z1997 : q_is (q_z f1988 v8 6) x1851 := by rw [ef1988, q_setz (Or.inr (by decide))]; exact z1967
  have z1998 : q_is (q_z f1988 v0 6) x1852 := by rw [ef1988, q_setz (Or.inr (by decide))]; exact z1968
  have z1999 : q_is (q_z f1988 v8 7) x1874 := by rw [ef1988, q_setz (Or.inr (by decide))]; exact z1969
  have z2000 : q_is (q_z f1988 v0 7) x1875 := by rw [ef1988, q_setz (Or.inr (by decide))]; exact z1970
  have z2001 : q_is (q_z f1988 v8 8) x1899 := by rw [ef1988, q_setz (Or.inr (by decide))]; exact z1971
  have z2002 : q_is (q_z f1988 v0 8) x1900 := by rw [ef1988, q_setz (Or.inr (by decide))]; exact z1972
  have z2003 : q_is (q_z f1988 v8 9) x1926 := by rw [ef1988, q_setz (Or.inr (by decide))]; exact z1973
  have z2004 : q_is (q_z f1988 v0 9) x1927 := by rw [ef1988, q_setz (Or.inr (by decide))]; exact z1974
  have z2005 : q_is (q_z f1988 v8 10) x1955 := by rw [ef1988, q_setz (Or.inr (by decide))]; exact z1975
  have z2006 : q_is (q_z f1988 v0 10) x1956 := by rw [ef1988, q_setz (Or.inr (by decide))]; exact z1959
  have z2007 : q_ir (q_r f1988 v0 0) n0 := by rw [ef1988, q_setr (Or.inr (by decide))]; exact z1976
  have z2008 : q_ir (q_r f1988 v0 1) l0 := by rw [ef1988, q_setr (Or.inr (by decide))]; exact z1977
  have z2009 : q_ir (q_r f1988 v0 2) m0 := by rw [ef1988, q_setr (Or.inr (by decide))]; exact z1978
  have z2010 : q_ir (q_r f1988 v8 0) n8 := by rw [ef1988, q_setr (Or.inr (by decide))]; exact z1979
  have z2011 : q_ir (q_r f1988 v8 1) l8 := by rw [ef1988, q_setr (Or.inr (by decide))]; exact z1980
  have z2012 : q_ir (q_r f1988 v8 2) m8 := by rw [ef1988, q_setr (Or.inr (by decide))]; exact z1981
  have g2013 : tw_vw K L 10 5 3 4 f1988 v0 n0 l0 m0 d0 (tw_u (tw_u (tw_u (tw_u (tw_u (tw_u (tw_u (tw_u (tw_u s0 0 3 x1794) 0 4 x1812) 0 5 x1831) 0 6 x1852) 0 7 x1875) 0 8 x1900) 0 9 x1927) 0 10 x1956) 0 11 x1986) := tw_vw_s g1982 (tw_v0 hw0) (by omega) (by omega) ef1988 z1989 (fun i9 => by rw [ef1988, q_setr (Or.inl (fun q => by rw [q, kv0] at kn0; exact absurd kn0 (by decide)))]) (fun i9 => by rw [ef1988, q_setr (Or.inl (fun q => by rw [q, kv0] at kl0; exact absurd kl0 (by decide)))]) (fun i9 => by rw [ef1988, q_setr (Or.inl (fun q => by rw [q, kv0] at km0; exact absurd km0 (by decide)))])
  have g2014 : tw_vw K L 54 60 66 72 f1988 v8 n8 l8 m8 d8 s8 := tw_vw_tr g1983 (fun a9 h9 k9 c9 => by rw [ef1988, q_setz (Or.inl (fun q => by rw [q, kv0] at k9; exact absurd k9 (by decide)))]) (fun a9 h9 k9 c9 => by rw [ef1988, q_setz (Or.inl (fun q => by rw [q, kv0] at k9; exact absurd k9 (by decide)))]) (fun a9 h9 k9 c9 => by rw [ef1988, q_setz (Or.inl (fun q => by rw [q, kv0] at k9; exact absurd k9 (by decide)))]) (fun a9 h9 k9 c9 => by rw [ef1988, q_setz (Or.inl (fun q => by rw [q, kv0] at k9; exact absurd k9 (by decide)))]) (fun i9 => by rw [ef1988, q_setr (Or.inl (fun q => by rw [q, kv0] at kn8; exact absurd kn8 (by decide)))]) (fun i9 => by rw [ef1988, q_setr (Or.inl (fun q => by rw [q, kv0] at kl8; exact absurd kl8 (by decide)))]) (fun i9 => by rw [ef1988, q_setr (Or.inl (fun q => by rw [q, kv0] at km8; exact absurd km8 (by decide)))])
  have g2015 : tw_nw K L 5 f1988 := tw_nw_tr g1984 (fun a9 h9 k9 => by rw [ef1988, q_setj (Or.inl (fun q => by rw [q, kv0] at k9; exact absurd k9 (by decide)))])
  have g2016 : tw_nw K L 60 f1988 := tw_nw_tr g1985 (fun a9 h9 k9 => by rw [ef1988, q_setj (Or.inl (fun q => by rw [q, kv0] at k9; exact absurd k9 (by decide)))])
  refine q_ald_n cx dX10_copyFrom_72 rfl (lv_at hl 0 rfl) ?_
  refine q_ald_n cx dX10_copyFrom_73 rfl (lv_at hl 1 rfl) ?_
  obtain ⟨x2017, ex2017⟩ : ∃ zz, q_is (q_z f1988 v8 12) zz := ⟨_, q_isr _⟩
  obtain ⟨lx2017, ux2017⟩ := q_isb ex2017 (q_fib hB.2.1 hv8 kv8 (by decide) rfl)
  obtain ⟨x2018, ex2018, nx2018⟩ : ∃ zz, q_is (q_z f1988 v8 12) zz ∧ zz = x2017 := ⟨_, ex2017, rfl⟩
  have sx2018 : q_is x2018 (s8 0 12) := tw_g g2014 (tw_v0 hw8) (by omega) (by omega) ex2018
  refine q_gX10_63_54 cx hB hv8 kv8 ex2018 dX10_copyFrom_74 (fun lb2019 ub2019 => ?_)
  refine q_pX10_63 cx hB hv0 kv0 ⟨by omega, by omega⟩ (by omega) (by omega) rfl dX10_copyFrom_77 (fun H locs f2020 ef2020 z2021 hB => ?_)
  have z2022 : q_is (q_z f2020 v8 3) nn := by rw [ef2020, q_setz (Or.inr (by decide))]; exact z1990
  have z2023 : q_is (q_z f2020 v8 4) ln := by rw [ef2020, q_setz (Or.inr (by decide))]; exact z1991
  have z2024 : q_is (q_z f2020 v8 5) mn := by rw [ef2020, q_setz (Or.inr (by decide))]; exact z1992
  have z2025 : q_is (q_z f2020 v8 11) tm := by rw [ef2020, q_setz (Or.inr (by decide))]; exact z1993
  have z2026 : q_is (q_z f2020 v0 3) x1794 := by rw [ef2020, q_setz (Or.inr (by decide))]; exact z1994
  have z2027 : q_is (q_z f2020 v0 4) x1812 := by rw [ef2020, q_setz (Or.inr (by decide))]; exact z1995
  have z2028 : q_is (q_z f2020 v0 5) x1831 := by rw [ef2020, q_setz (Or.inr (by decide))]; exact z1996
  have z2029 : q_is (q_z f2020 v8 6) x1851 := by rw [ef2020, q_setz (Or.inr (by decide))]; exact z1997
  have z2030 : q_is (q_z f2020 v0 6) x1852 := by rw [ef2020, q_setz (Or.inr (by decide))]; exact z1998
  have z2031 : q_is (q_z f2020 v8 7) x1874 := by rw [ef2020, q_setz (Or.inr (by decide))]; exact z1999
  have z2032 : q_is (q_z f2020 v0 7) x1875 := by rw [ef2020, q_setz (Or.inr (by decide))]; exact z2000
  have z2033 : q_is (q_z f2020 v8 8) x1899 := by rw [ef2020, q_setz (Or.inr (by decide))]; exact z2001
  have z2034 : q_is (q_z f2020 v0 8) x1900 := by rw [ef2020, q_setz (Or.inr (by decide))]; exact z2002
  have z2035 : q_is (q_z f2020 v8 9) x1926 := by rw [ef2020, q_setz (Or.inr (by decide))]; exact z2003
  have z2036 : q_is (q_z f2020 v0 9) x1927 := by rw [ef2020, q_setz (Or.inr (by decide))]; exact z2004
  have z2037 : q_is (q_z f2020 v8 10) x1955 := by rw [ef2020, q_setz (Or.inr (by decide))]; exact z2005
  have z2038 : q_is (q_z f2020 v0 10) x1956 := by rw [ef2020, q_setz (Or.inr (by decide))]; exact z2006
  have z2039 : q_is (q_z f2020 v0 11) x1986 := by rw [ef2020, q_setz (Or.inr (by decide))]; exact z1989
  have z2040 : q_is (q_z f2020 v8 12) x2017 := by rw [ef2020, q_setz (Or.inl (fun q => by rw [q, kv0] at kv8; exact absurd kv8 (by decide)))]; exact ex2017
  have z2041 : q_ir (q_r f2020 v0 0) n0 := by rw [ef2020, q_setr (Or.inr (by decide))]; exact z2007
  have z2042 : q_ir (q_r f2020 v0 1) l0 := by rw [ef2020, q_setr (Or.inr (by decide))]; exact z2008
  have z2043 : q_ir (q_r f2020 v0 2) m0 := by rw [ef2020, q_setr (Or.inr (by decide))]; exact z2009
  have z2044 : q_ir (q_r f2020 v8 0) n8 := by rw [ef2020, q_setr (Or.inr (by decide))]; exact z2010
  have z2045 : q_ir (q_r f2020 v8 1) l8 := by rw [ef2020, q_setr (Or.inr (by decide))]; exact z2011
  have z2046 : q_ir (q_r f2020 v8 2) m8 := by rw [ef2020, q_setr (Or.inr (by decide))]; exact z2012
  have g2047 : tw_vw K L 10 5 3 4 f2020 v0 n0 l0 m0 d0 (tw_u (tw_u (tw_u (tw_u (tw_u (tw_u (tw_u (tw_u (tw_u (tw_u s0 0 3 x1794) 0 4 x1812) 0 5 x1831) 0 6 x1852) 0 7 x1875) 0 8 x1900) 0 9 x1927) 0 10 x1956) 0 11 x1986) 0 12 x2018) := tw_vw_s g2013 (tw_v0 hw0) (by omega) (by omega) ef2020 z2021 (fun i9 => by rw [ef2020, q_setr (Or.inl (fun q => by rw [q, kv0] at kn0; exact absurd kn0 (by decide)))]) (fun i9 => by rw [ef2020, q_setr (Or.inl (fun q => by rw [q, kv0] at kl0; exact absurd kl0 (by decide)))]) (fun i9 => by rw [ef2020, q_setr (Or.inl (fun q => by rw [q, kv0] at km0; exact absurd km0 (by decide)))])
  have g2048 : tw_vw K L 54 60 66 72 f2020 v8 n8 l8 m8 d8 s8 := tw_vw_tr g2014 (fun a9 h9 k9 c9 => by rw [ef2020, q_setz (Or.inl (fun q => by rw [q, kv0] at k9; exact absurd k9 (by decide)))]) (fun a9 h9 k9 c9 => by rw [ef2020, q_setz (Or.inl (fun q => by rw [q, kv0] at k9; exact absurd k9 (by decide)))]) (fun a9 h9 k9 c9 => by rw [ef2020, q_setz (Or.inl (fun q => by rw [q, kv0] at k9; exact absurd k9 (by decide)))]) (fun a9 h9 k9 c9 => by rw [ef2020, q_setz (Or.inl (fun q => by rw [q, kv0] at k9; exact absurd k9 (by decide)))]) (fun i9 => by rw [ef2020, q_setr (Or.inl (fun q => by rw [q, kv0] at kn8; exact absurd kn8 (by decide)))]) (fun i9 => by rw [ef2020, q_setr (Or.inl (fun q => by rw [q, kv0] at kl8; exact absurd kl8 (by decide)))]) (fun i9 => by rw [ef2020, q_setr (Or.inl (fun q => by rw [q, kv0] at km8; exact absurd km8 (by decide)))])
  have g2049 : tw_nw K L 5 f2020 := tw_nw_tr g2015 (fun a9 h9 k9 => by rw [ef2020, q_setj (Or.inl (fun q => by rw [q, kv0] at k9; exact absurd k9 (by decide)))])
  have g2050 : tw_nw K L 60 f2020 := tw_nw_tr g2016 (fun a9 h9 k9 => by rw [ef2020, q_setj (Or.inl (fun q => by rw [q, kv0] at k9; exact absurd k9 (by decide)))])
  refine q_iconst cx dX10_copyFrom_80 ?_
  refine lv_istore_n (lv' := [(2, .int (q_i 0)), (0, .ref v0), (1, .ref v8)]) cx.1 cx.2.1 dX10_copyFrom_81 rfl hl (by decide) rfl (fun ls hl => ?_)
  exact J82 ((Int.toNat (2147483647 - 0)) + 1) f2020 0 (by decide) (by decide) x1794 (by omega) (by omega) x1812 (by omega) (by omega) x1831 (by omega) (by omega) x1986 (by omega) (by omega) z2022 z2023 z2024 z2025 z2026 z2027 z2028 z2039 z2041 z2042 z2043 z2044 z2045 z2046 g2048 g2049 g2050 (by omega) (by omega) (by omega) (by omega) (by omega) (tw_cg g2047 (by have t0_ : x1794 = s8 0 3 := sx1794; have t1_ : x1812 = s8 0 4 := sx1812; have t2_ : x1831 = s8 0 5 := sx1831; have t3_ : x1852 = s8 0 6 := sx1852; have t4_ : x1875 = s8 0 7 := sx1875; have t5_ : x1900 = s8 0 8 := sx1900; have t6_ : x1927 = s8 0 9 := sx1927; have t7_ : x1956 = s8 0 10 := sx1956; have t8_ : x1986 = s8 0 11 := sx1986; have t9_ : x2018 = s8 0 12 := sx2018; (try simp only [t0_, t1_, t2_, t3_, t4_, t5_, t6_, t7_, t8_, t9_]); rfl)) (Nat.lt_succ_self _) H locs hB ls (lv_sub hl [1, 2, 0] rfl)
set_option maxHeartbeats 4000000 in
set_option maxRecDepth 100000 in
theorem f_ncopy09 (l : Launch) (g : q_G) {K : Nat → Nat} {L : List Nat} (hN : L.Nodup) {f : Nat → va_E} (hT : q_Ty g K L f) (d0 : Nat → Nat) (s0 : tw_S) (d9 : Nat → Nat) (s9 : tw_S) (v : Nat) (hv : v ∈ L) (kv : K v = 5) (p0 : Nat) (hp0 : p0 ∈ L) (kp0 : K p0 = 61) (v0 : Nat) (hv0 : v0 ∈ L) (kv0 : K v0 = 10) (n0 : Nat) (hn0 : n0 ∈ L) (kn0 : K n0 = 110) (l0 : Nat) (hl0 : l0 ∈ L) (kl0 : K l0 = 120) (m0 : Nat) (hm0 : m0 ∈ L) (km0 : K m0 = 130) (v9 : Nat) (hv9 : v9 ∈ L) (kv9 : K v9 = 55) (n9 : Nat) (hn9 : n9 ∈ L) (kn9 : K n9 = 205) (l9 : Nat) (hl9 : l9 ∈ L) (kl9 : K l9 = 211) (m9 : Nat) (hm9 : m9 ∈ L) (km9 : K m9 = 217) (li : Int) (lli : 0 ≤ li) (uli : li ≤ 9) (lj : Int) (llj : 0 ≤ lj) (ulj : lj ≤ 9) (hp0 : v = d0 (1 + Int.toNat li)) (hp1 : p0 = d9 (1 + Int.toNat lj)) (hw0 : tw_vw K L 10 5 3 4 f v0 n0 l0 m0 d0 s0) (hw9 : tw_vw K L 55 61 67 73 f v9 n9 l9 m9 d9 s9) (hz0 : tw_nw K L 5 f) (hz9 : tw_nw K L 61 f) : q_Ct l g K L yX5_copyFrom cX5_copyFrom 2 none 0 0 [.ref v, .ref p0] f [(5, 0, 8)] (q_Pv (fun (f1 : Nat → va_E) => (tw_vw K L 10 5 3 4 f1 v0 n0 l0 m0 d0 (tw_cn s0 s9 (1 + Int.toNat li) (1 + Int.toNat lj))) ∧ (tw_nw K L 5 f1))) := by
  refine q_ofb (by decide +kernel) hN hT (Nat.le_of_ble_eq_true rfl) ?_
  intro p e s m below meth c ls cx hr hlk hB hl
  have hl : lv_has ls 2 [(0, .ref v), (1, .ref p0)] := hl
  obtain ⟨H, hH⟩ : ∃ H : Heap, H = s.heap := ⟨_, rfl⟩
  obtain ⟨locs, hlocs⟩ : ∃ z : List Loc, z = [] := ⟨_, rfl⟩
  rw [← hH, ← hlocs] at hB
  rw [← hH, ← hlocs]
  refine q_ald_n cx dX5_copyFrom_0 rfl (lv_at hl 0 rfl) ?_
  refine q_ald_n cx dX5_copyFrom_1 rfl (lv_at hl 1 rfl) ?_
  obtain ⟨j149, ej149⟩ : ∃ zz, q_j f p0 0 = zz := ⟨_, rfl⟩
  refine q_gX5_7_61 cx hB hp0 kp0 ej149 dX5_copyFrom_2 ?_
  refine q_pX5_7 cx hB hv kv rfl dX5_copyFrom_5 (fun H locs f150 ef150 z151 hB => ?_)
  have g152 : tw_vw K L 10 5 3 4 f150 v0 n0 l0 m0 d0 s0 := tw_vw_l hw0 hp0 (by omega) (by omega) (by decide) ef150 (fun i9 => by rw [ef150, q_setr (Or.inl (fun q => by rw [q, kv] at kn0; exact absurd kn0 (by decide)))]) (fun i9 => by rw [ef150, q_setr (Or.inl (fun q => by rw [q, kv] at kl0; exact absurd kl0 (by decide)))]) (fun i9 => by rw [ef150, q_setr (Or.inl (fun q => by rw [q, kv] at km0; exact absurd km0 (by decide)))])
  have g153 : tw_vw K L 55 61 67 73 f150 v9 n9 l9 m9 d9 s9 := tw_vw_tr hw9 (fun a9 h9 k9 c9 => by rw [ef150, q_setz (Or.inl (fun q => by rw [q, kv] at k9; exact absurd k9 (by decide)))]) (fun a9 h9 k9 c9 => by rw [ef150, q_setz (Or.inl (fun q => by rw [q, kv] at k9; exact absurd k9 (by decide)))]) (fun a9 h9 k9 c9 => by rw [ef150, q_setz (Or.inl (fun q => by rw [q, kv] at k9; exact absurd k9 (by decide)))]) (fun a9 h9 k9 c9 => by rw [ef150, q_setz (Or.inl (fun q => by rw [q, kv] at k9; exact absurd k9 (by decide)))]) (fun i9 => by rw [ef150, q_setr (Or.inl (fun q => by rw [q, kv] at kn9; exact absurd kn9 (by decide)))]) (fun i9 => by rw [ef150, q_setr (Or.inl (fun q => by rw [q, kv] at kl9; exact absurd kl9 (by decide)))]) (fun i9 => by rw [ef150, q_setr (Or.inl (fun q => by rw [q, kv] at km9; exact absurd km9 (by decide)))])
  have g154 : tw_nw K L 5 f150 := tw_nw_tr hz0 (fun a9 h9 k9 => by rw [ef150, q_setj (Or.inr (by decide))])
  have g155 : tw_nw K L 61 f150 := tw_nw_tr hz9 (fun a9 h9 k9 => by rw [ef150, q_setj (Or.inl (fun q => by rw [q, kv] at k9; exact absurd k9 (by decide)))])
  refine q_ald_n cx dX5_copyFrom_8 rfl (lv_at hl 0 rfl) ?_
  refine q_ald_n cx dX5_copyFrom_9 rfl (lv_at hl 1 rfl) ?_
  refine q_gX5_13_61 cx hB hp0 kp0 (hz9 p0 hp0 kp0) dX5_copyFrom_10 ?_
  refine q_pX5_13 cx hB hv kv rfl dX5_copyFrom_13 (fun H locs f156 ef156 z157 hB => ?_)
  have z158 : q_j f156 v 0 = j149 := by rw [ef156, q_setj (Or.inr (by decide))]; exact z151
  have z159 : q_j f156 p0 1 = (q_l 0) := by rw [ef156, q_setj (Or.inl (fun q => by rw [q, kv] at kp0; exact absurd kp0 (by decide)))]; exact (hz9 p0 hp0 kp0)
  have g160 : tw_vw K L 10 5 3 4 f156 v0 n0 l0 m0 d0 s0 := tw_vw_l g152 hp0 (by omega) (by omega) (by decide) ef156 (fun i9 => by rw [ef156, q_setr (Or.inl (fun q => by rw [q, kv] at kn0; exact absurd kn0 (by decide)))]) (fun i9 => by rw [ef156, q_setr (Or.inl (fun q => by rw [q, kv] at kl0; exact absurd kl0 (by decide)))]) (fun i9 => by rw [ef156, q_setr (Or.inl (fun q => by rw [q, kv] at km0; exact absurd km0 (by decide)))])
  have g161 : tw_vw K L 55 61 67 73 f156 v9 n9 l9 m9 d9 s9 := tw_vw_tr g153 (fun a9 h9 k9 c9 => by rw [ef156, q_setz (Or.inl (fun q => by rw [q, kv] at k9; exact absurd k9 (by decide)))]) (fun a9 h9 k9 c9 => by rw [ef156, q_setz (Or.inl (fun q => by rw [q, kv] at k9; exact absurd k9 (by decide)))]) (fun a9 h9 k9 c9 => by rw [ef156, q_setz (Or.inl (fun q => by rw [q, kv] at k9; exact absurd k9 (by decide)))]) (fun a9 h9 k9 c9 => by rw [ef156, q_setz (Or.inl (fun q => by rw [q, kv] at k9; exact absurd k9 (by decide)))]) (fun i9 => by rw [ef156, q_setr (Or.inl (fun q => by rw [q, kv] at kn9; exact absurd kn9 (by decide)))]) (fun i9 => by rw [ef156, q_setr (Or.inl (fun q => by rw [q, kv] at kl9; exact absurd kl9 (by decide)))]) (fun i9 => by rw [ef156, q_setr (Or.inl (fun q => by rw [q, kv] at km9; exact absurd km9 (by decide)))])
  have g162 : tw_nw K L 5 f156 := tw_nw_s g154 ef156 z157
  have g163 : tw_nw K L 61 f156 := tw_nw_tr g155 (fun a9 h9 k9 => by rw [ef156, q_setj (Or.inl (fun q => by rw [q, kv] at k9; exact absurd k9 (by decide)))])
  refine q_ald_n cx dX5_copyFrom_16 rfl (lv_at hl 0 rfl) ?_
  refine q_ald_n cx dX5_copyFrom_17 rfl (lv_at hl 1 rfl) ?_
  obtain ⟨x164, ex164⟩ : ∃ zz, q_is (q_z f156 p0 2) zz := ⟨_, q_isr _⟩
  obtain ⟨lx164, ux164⟩ := q_isb ex164 (q_fib hB.2.1 hp0 kp0 (by decide) rfl)
  obtain ⟨x165, ex165, nx165⟩ : ∃ zz, q_is (q_z f156 p0 2) zz ∧ zz = x164 := ⟨_, ex164, rfl⟩
  have sx165 : q_is x165 (s9 (1 + Int.toNat lj) 2) := tw_g g161 hp1 (by omega) (by omega) ex165
  refine q_gX5_16_61 cx hB hp0 kp0 ex165 dX5_copyFrom_18 (fun lb166 ub166 => ?_)
  refine q_pX5_16 cx hB hv kv ⟨by omega, by omega⟩ (by omega) (by omega) rfl dX5_copyFrom_21 (fun H locs f167 ef167 z168 hB => ?_)
  have z169 : q_is (q_z f167 p0 2) x164 := by rw [ef167, q_setz (Or.inl (fun q => by rw [q, kv] at kp0; exact absurd kp0 (by decide)))]; exact ex164
  have z170 : q_j f167 v 0 = j149 := by rw [ef167, q_setj (Or.inr (by decide))]; exact z158
  have z171 : q_j f167 p0 1 = (q_l 0) := by rw [ef167, q_setj (Or.inr (by decide))]; exact z159
  have z172 : q_j f167 v 1 = (q_l 0) := by rw [ef167, q_setj (Or.inr (by decide))]; exact z157
  have g173 : tw_vw K L 10 5 3 4 f167 v0 n0 l0 m0 d0 (tw_u s0 (1 + Int.toNat li) 2 x165) := tw_vw_s g160 hp0 (by omega) (by omega) ef167 z168 (fun i9 => by rw [ef167, q_setr (Or.inl (fun q => by rw [q, kv] at kn0; exact absurd kn0 (by decide)))]) (fun i9 => by rw [ef167, q_setr (Or.inl (fun q => by rw [q, kv] at kl0; exact absurd kl0 (by decide)))]) (fun i9 => by rw [ef167, q_setr (Or.inl (fun q => by rw [q, kv] at km0; exact absurd km0 (by decide)))])
  have g174 : tw_vw K L 55 61 67 73 f167 v9 n9 l9 m9 d9 s9 := tw_vw_tr g161 (fun a9 h9 k9 c9 => by rw [ef167, q_setz (Or.inl (fun q => by rw [q, kv] at k9; exact absurd k9 (by decide)))]) (fun a9 h9 k9 c9 => by rw [ef167, q_setz (Or.inl (fun q => by rw [q, kv] at k9; exact absurd k9 (by decide)))]) (fun a9 h9 k9 c9 => by rw [ef167, q_setz (Or.inl (fun q => by rw [q, kv] at k9; exact absurd k9 (by decide)))]) (fun a9 h9 k9 c9 => by rw [ef167, q_setz (Or.inl (fun q => by rw [q, kv] at k9; exact absurd k9 (by decide)))]) (fun i9 => by rw [ef167, q_setr (Or.inl (fun q => by rw [q, kv] at kn9; exact absurd kn9 (by decide)))]) (fun i9 => by rw [ef167, q_setr (Or.inl (fun q => by rw [q, kv] at kl9; exact absurd kl9 (by decide)))]) (fun i9 => by rw [ef167, q_setr (Or.inl (fun q => by rw [q, kv] at km9; exact absurd km9 (by decide)))])
  have g175 : tw_nw K L 5 f167 := tw_nw_tr g162 (fun a9 h9 k9 => by rw [ef167, q_setj (Or.inr (by decide))])
  have g176 : tw_nw K L 61 f167 := tw_nw_tr g163 (fun a9 h9 k9 => by rw [ef167, q_setj (Or.inl (fun q => by rw [q, kv] at k9; exact absurd k9 (by decide)))])
  refine q_ald_n cx dX5_copyFrom_24 rfl (lv_at hl 0 rfl) ?_
  refine q_ald_n cx dX5_copyFrom_25 rfl (lv_at hl 1 rfl) ?_
  obtain ⟨x177, ex177⟩ : ∃ zz, q_is (q_z f167 p0 3) zz := ⟨_, q_isr _⟩
  obtain ⟨lx177, ux177⟩ := q_isb ex177 (q_fib hB.2.1 hp0 kp0 (by decide) rfl)
  obtain ⟨x178, ex178, nx178⟩ : ∃ zz, q_is (q_z f167 p0 3) zz ∧ zz = x177 := ⟨_, ex177, rfl⟩
  have sx178 : q_is x178 (s9 (1 + Int.toNat lj) 3) := tw_g g174 hp1 (by omega) (by omega) ex178
  refine q_gX5_20_61 cx hB hp0 kp0 ex178 dX5_copyFrom_26 (fun lb179 ub179 => ?_)
  refine q_pX5_20 cx hB hv kv ⟨by omega, by omega⟩ (by omega) (by omega) rfl dX5_copyFrom_29 (fun H locs f180 ef180 z181 hB => ?_)
  have z182 : q_is (q_z f180 p0 2) x164 := by rw [ef180, q_setz (Or.inr (by decide))]; exact z169
  have z183 : q_is (q_z f180 v 2) x165 := by rw [ef180, q_setz (Or.inr (by decide))]; exact z168
  have z184 : q_is (q_z f180 p0 3) x177 := by rw [ef180, q_setz (Or.inl (fun q => by rw [q, kv] at kp0; exact absurd kp0 (by decide)))]; exact ex177
  have z185 : q_j f180 v 0 = j149 := by rw [ef180, q_setj (Or.inr (by decide))]; exact z170
  have z186 : q_j f180 p0 1 = (q_l 0) := by rw [ef180, q_setj (Or.inr (by decide))]; exact z171
  have z187 : q_j f180 v 1 = (q_l 0) := by rw [ef180, q_setj (Or.inr (by decide))]; exact z172
  have g188 : tw_vw K L 10 5 3 4 f180 v0 n0 l0 m0 d0 (tw_u (tw_u s0 (1 + Int.toNat li) 2 x165) (1 + Int.toNat li) 3 x178) := tw_vw_s g173 hp0 (by omega) (by omega) ef180 z181 (fun i9 => by rw [ef180, q_setr (Or.inl (fun q => by rw [q, kv] at kn0; exact absurd kn0 (by decide)))]) (fun i9 => by rw [ef180, q_setr (Or.inl (fun q => by rw [q, kv] at kl0; exact absurd kl0 (by decide)))]) (fun i9 => by rw [ef180, q_setr (Or.inl (fun q => by rw [q, kv] at km0; exact absurd km0 (by decide)))])
  have g189 : tw_vw K L 55 61 67 73 f180 v9 n9 l9 m9 d9 s9 := tw_vw_tr g174 (fun a9 h9 k9 c9 => by rw [ef180, q_setz (Or.inl (fun q => by rw [q, kv] at k9; exact absurd k9 (by decide)))]) (fun a9 h9 k9 c9 => by rw [ef180, q_setz (Or.inl (fun q => by rw [q, kv] at k9; exact absurd k9 (by decide)))]) (fun a9 h9 k9 c9 => by rw [ef180, q_setz (Or.inl (fun q => by rw [q, kv] at k9; exact absurd k9 (by decide)))]) (fun a9 h9 k9 c9 => by rw [ef180, q_setz (Or.inl (fun q => by rw [q, kv] at k9; exact absurd k9 (by decide)))]) (fun i9 => by rw [ef180, q_setr (Or.inl (fun q => by rw [q, kv] at kn9; exact absurd kn9 (by decide)))]) (fun i9 => by rw [ef180, q_setr (Or.inl (fun q => by rw [q, kv] at kl9; exact absurd kl9 (by decide)))]) (fun i9 => by rw [ef180, q_setr (Or.inl (fun q => by rw [q, kv] at km9; exact absurd km9 (by decide)))])
  have g190 : tw_nw K L 5 f180 := tw_nw_tr g175 (fun a9 h9 k9 => by rw [ef180, q_setj (Or.inr (by decide))])
  have g191 : tw_nw K L 61 f180 := tw_nw_tr g176 (fun a9 h9 k9 => by rw [ef180, q_setj (Or.inl (fun q => by rw [q, kv] at k9; exact absurd k9 (by decide)))])
  refine q_ald_n cx dX5_copyFrom_32 rfl (lv_at hl 0 rfl) ?_
  refine q_ald_n cx dX5_copyFrom_33 rfl (lv_at hl 1 rfl) ?_
  obtain ⟨x192, ex192⟩ : ∃ zz, q_is (q_z f180 p0 4) zz := ⟨_, q_isr _⟩
  obtain ⟨lx192, ux192⟩ := q_isb ex192 (q_fib hB.2.1 hp0 kp0 (by decide) rfl)
  obtain ⟨x193, ex193, nx193⟩ : ∃ zz, q_is (q_z f180 p0 4) zz ∧ zz = x192 := ⟨_, ex192, rfl⟩
  have sx193 : q_is x193 (s9 (1 + Int.toNat lj) 4) := tw_g g189 hp1 (by omega) (by omega) ex193
  refine q_gX5_23_61 cx hB hp0 kp0 ex193 dX5_copyFrom_34 (fun lb194 ub194 => ?_)
  refine q_pX5_23 cx hB hv kv ⟨by omega, by omega⟩ (by omega) (by omega) rfl dX5_copyFrom_37 (fun H locs f195 ef195 z196 hB => ?_)
  have z197 : q_is (q_z f195 p0 2) x164 := by rw [ef195, q_setz (Or.inr (by decide))]; exact z182
  have z198 : q_is (q_z f195 v 2) x165 := by rw [ef195, q_setz (Or.inr (by decide))]; exact z183
  have z199 : q_is (q_z f195 p0 3) x177 := by rw [ef195, q_setz (Or.inr (by decide))]; exact z184
  have z200 : q_is (q_z f195 v 3) x178 := by rw [ef195, q_setz (Or.inr (by decide))]; exact z181
  have z201 : q_is (q_z f195 p0 4) x192 := by rw [ef195, q_setz (Or.inl (fun q => by rw [q, kv] at kp0; exact absurd kp0 (by decide)))]; exact ex192
  have z202 : q_j f195 v 0 = j149 := by rw [ef195, q_setj (Or.inr (by decide))]; exact z185
  have z203 : q_j f195 p0 1 = (q_l 0) := by rw [ef195, q_setj (Or.inr (by decide))]; exact z186
  have z204 : q_j f195 v 1 = (q_l 0) := by rw [ef195, q_setj (Or.inr (by decide))]; exact z187
  have g205 : tw_vw K L 10 5 3 4 f195 v0 n0 l0 m0 d0 (tw_u (tw_u (tw_u s0 (1 + Int.toNat li) 2 x165) (1 + Int.toNat li) 3 x178) (1 + Int.toNat li) 4 x193) := tw_vw_s g188 hp0 (by omega) (by omega) ef195 z196 (fun i9 => by rw [ef195, q_setr (Or.inl (fun q => by rw [q, kv] at kn0; exact absurd kn0 (by decide)))]) (fun i9 => by rw [ef195, q_setr (Or.inl (fun q => by rw [q, kv] at kl0; exact absurd kl0 (by decide)))]) (fun i9 => by rw [ef195, q_setr (Or.inl (fun q => by rw [q, kv] at km0; exact absurd km0 (by decide)))])
  have g206 : tw_vw K L 55 61 67 73 f195 v9 n9 l9 m9 d9 s9 := tw_vw_tr g189 (fun a9 h9 k9 c9 => by rw [ef195, q_setz (Or.inl (fun q => by rw [q, kv] at k9; exact absurd k9 (by decide)))]) (fun a9 h9 k9 c9 => by rw [ef195, q_setz (Or.inl (fun q => by rw [q, kv] at k9; exact absurd k9 (by decide)))]) (fun a9 h9 k9 c9 => by rw [ef195, q_setz (Or.inl (fun q => by rw [q, kv] at k9; exact absurd k9 (by decide)))]) (fun a9 h9 k9 c9 => by rw [ef195, q_setz (Or.inl (fun q => by rw [q, kv] at k9; exact absurd k9 (by decide)))]) (fun i9 => by rw [ef195, q_setr (Or.inl (fun q => by rw [q, kv] at kn9; exact absurd kn9 (by decide)))]) (fun i9 => by rw [ef195, q_setr (Or.inl (fun q => by rw [q, kv] at kl9; exact absurd kl9 (by decide)))]) (fun i9 => by rw [ef195, q_setr (Or.inl (fun q => by rw [q, kv] at km9; exact absurd km9 (by decide)))])
  have g207 : tw_nw K L 5 f195 := tw_nw_tr g190 (fun a9 h9 k9 => by rw [ef195, q_setj (Or.inr (by decide))])
  have g208 : tw_nw K L 61 f195 := tw_nw_tr g191 (fun a9 h9 k9 => by rw [ef195, q_setj (Or.inl (fun q => by rw [q, kv] at k9; exact absurd k9 (by decide)))])
  refine q_ald_n cx dX5_copyFrom_40 rfl (lv_at hl 0 rfl) ?_
  refine q_ald_n cx dX5_copyFrom_41 rfl (lv_at hl 1 rfl) ?_
  obtain ⟨x209, ex209⟩ : ∃ zz, q_is (q_z f195 p0 5) zz := ⟨_, q_isr _⟩
  obtain ⟨lx209, ux209⟩ := q_isb ex209 (q_fib hB.2.1 hp0 kp0 (by decide) rfl)
  obtain ⟨x210, ex210, nx210⟩ : ∃ zz, q_is (q_z f195 p0 5) zz ∧ zz = x209 := ⟨_, ex209, rfl⟩
  have sx210 : q_is x210 (s9 (1 + Int.toNat lj) 5) := tw_g g206 hp1 (by omega) (by omega) ex210
  refine q_gX5_26_61 cx hB hp0 kp0 ex210 dX5_copyFrom_42 (fun lb211 ub211 => ?_)
  refine q_pX5_26 cx hB hv kv ⟨by omega, by omega⟩ (by omega) (by omega) rfl dX5_copyFrom_45 (fun H locs f212 ef212 z213 hB => ?_)
  have z214 : q_is (q_z f212 p0 2) x164 := by rw [ef212, q_setz (Or.inr (by decide))]; exact z197
  have z215 : q_is (q_z f212 v 2) x165 := by rw [ef212, q_setz (Or.inr (by decide))]; exact z198
  have z216 : q_is (q_z f212 p0 3) x177 := by rw [ef212, q_setz (Or.inr (by decide))]; exact z199
  have z217 : q_is (q_z f212 v 3) x178 := by rw [ef212, q_setz (Or.inr (by decide))]; exact z200
  have z218 : q_is (q_z f212 p0 4) x192 := by rw [ef212, q_setz (Or.inr (by decide))]; exact z201
  have z219 : q_is (q_z f212 v 4) x193 := by rw [ef212, q_setz (Or.inr (by decide))]; exact z196
  have z220 : q_is (q_z f212 p0 5) x209 := by rw [ef212, q_setz (Or.inl (fun q => by rw [q, kv] at kp0; exact absurd kp0 (by decide)))]; exact ex209
  have z221 : q_j f212 v 0 = j149 := by rw [ef212, q_setj (Or.inr (by decide))]; exact z202
  have z222 : q_j f212 p0 1 = (q_l 0) := by rw [ef212, q_setj (Or.inr (by decide))]; exact z203
  have z223 : q_j f212 v 1 = (q_l 0) := by rw [ef212, q_setj (Or.inr (by decide))]; exact z204
  have g224 : tw_vw K L 10 5 3 4 f212 v0 n0 l0 m0 d0 (tw_u (tw_u (tw_u (tw_u s0 (1 + Int.toNat li) 2 x165) (1 + Int.toNat li) 3 x178) (1 + Int.toNat li) 4 x193) (1 + Int.toNat li) 5 x210) := tw_vw_s g205 hp0 (by omega) (by omega) ef212 z213 (fun i9 => by rw [ef212, q_setr (Or.inl (fun q => by rw [q, kv] at kn0; exact absurd kn0 (by decide)))]) (fun i9 => by rw [ef212, q_setr (Or.inl (fun q => by rw [q, kv] at kl0; exact absurd kl0 (by decide)))]) (fun i9 => by rw [ef212, q_setr (Or.inl (fun q => by rw [q, kv] at km0; exact absurd km0 (by decide)))])
  have g225 : tw_vw K L 55 61 67 73 f212 v9 n9 l9 m9 d9 s9 := tw_vw_tr g206 (fun a9 h9 k9 c9 => by rw [ef212, q_setz (Or.inl (fun q => by rw [q, kv] at k9; exact absurd k9 (by decide)))]) (fun a9 h9 k9 c9 => by rw [ef212, q_setz (Or.inl (fun q => by rw [q, kv] at k9; exact absurd k9 (by decide)))]) (fun a9 h9 k9 c9 => by rw [ef212, q_setz (Or.inl (fun q => by rw [q, kv] at k9; exact absurd k9 (by decide)))]) (fun a9 h9 k9 c9 => by rw [ef212, q_setz (Or.inl (fun q => by rw [q, kv] at k9; exact absurd k9 (by decide)))]) (fun i9 => by rw [ef212, q_setr (Or.inl (fun q => by rw [q, kv] at kn9; exact absurd kn9 (by decide)))]) (fun i9 => by rw [ef212, q_setr (Or.inl (fun q => by rw [q, kv] at kl9; exact absurd kl9 (by decide)))]) (fun i9 => by rw [ef212, q_setr (Or.inl (fun q => by rw [q, kv] at km9; exact absurd km9 (by decide)))])
  have g226 : tw_nw K L 5 f212 := tw_nw_tr g207 (fun a9 h9 k9 => by rw [ef212, q_setj (Or.inr (by decide))])
  have g227 : tw_nw K L 61 f212 := tw_nw_tr g208 (fun a9 h9 k9 => by rw [ef212, q_setj (Or.inl (fun q => by rw [q, kv] at k9; exact absurd k9 (by decide)))])
  refine q_ald_n cx dX5_copyFrom_48 rfl (lv_at hl 0 rfl) ?_
  refine q_ald_n cx dX5_copyFrom_49 rfl (lv_at hl 1 rfl) ?_
  obtain ⟨x228, ex228⟩ : ∃ zz, q_is (q_z f212 p0 6) zz := ⟨_, q_isr _⟩
  obtain ⟨lx228, ux228⟩ := q_isb ex228 (q_fib hB.2.1 hp0 kp0 (by decide) rfl)
  obtain ⟨x229, ex229, nx229⟩ : ∃ zz, q_is (q_z f212 p0 6) zz ∧ zz = x228 := ⟨_, ex228, rfl⟩
  have sx229 : q_is x229 (s9 (1 + Int.toNat lj) 6) := tw_g g225 hp1 (by omega) (by omega) ex229
  refine q_gX5_29_61 cx hB hp0 kp0 ex229 dX5_copyFrom_50 (fun lb230 ub230 => ?_)
  refine q_pX5_29 cx hB hv kv ⟨by omega, by omega⟩ (by omega) (by omega) rfl dX5_copyFrom_53 (fun H locs f231 ef231 z232 hB => ?_)
  have z233 : q_is (q_z f231 p0 2) x164 := by rw [ef231, q_setz (Or.inr (by decide))]; exact z214
  have z234 : q_is (q_z f231 v 2) x165 := by rw [ef231, q_setz (Or.inr (by decide))]; exact z215
  have z235 : q_is (q_z f231 p0 3) x177 := by rw [ef231, q_setz (Or.inr (by decide))]; exact z216
  have z236 : q_is (q_z f231 v 3) x178 := by rw [ef231, q_setz (Or.inr (by decide))]; exact z217
  have z237 : q_is (q_z f231 p0 4) x192 := by rw [ef231, q_setz (Or.inr (by decide))]; exact z218
  have z238 : q_is (q_z f231 v 4) x193 := by rw [ef231, q_setz (Or.inr (by decide))]; exact z219
  have z239 : q_is (q_z f231 p0 5) x209 := by rw [ef231, q_setz (Or.inr (by decide))]; exact z220
  have z240 : q_is (q_z f231 v 5) x210 := by rw [ef231, q_setz (Or.inr (by decide))]; exact z213
  have z241 : q_is (q_z f231 p0 6) x228 := by rw [ef231, q_setz (Or.inl (fun q => by rw [q, kv] at kp0; exact absurd kp0 (by decide)))]; exact ex228
  have z242 : q_j f231 v 0 = j149 := by rw [ef231, q_setj (Or.inr (by decide))]; exact z221
  have z243 : q_j f231 p0 1 = (q_l 0) := by rw [ef231, q_setj (Or.inr (by decide))]; exact z222
  have z244 : q_j f231 v 1 = (q_l 0) := by rw [ef231, q_setj (Or.inr (by decide))]; exact z223
  have g245 : tw_vw K L 10 5 3 4 f231 v0 n0 l0 m0 d0 (tw_u (tw_u (tw_u (tw_u (tw_u s0 (1 + Int.toNat li) 2 x165) (1 + Int.toNat li) 3 x178) (1 + Int.toNat li) 4 x193) (1 + Int.toNat li) 5 x210) (1 + Int.toNat li) 6 x229) := tw_vw_s g224 hp0 (by omega) (by omega) ef231 z232 (fun i9 => by rw [ef231, q_setr (Or.inl (fun q => by rw [q, kv] at kn0; exact absurd kn0 (by decide)))]) (fun i9 => by rw [ef231, q_setr (Or.inl (fun q => by rw [q, kv] at kl0; exact absurd kl0 (by decide)))]) (fun i9 => by rw [ef231, q_setr (Or.inl (fun q => by rw [q, kv] at km0; exact absurd km0 (by decide)))])
  have g246 : tw_vw K L 55 61 67 73 f231 v9 n9 l9 m9 d9 s9 := tw_vw_tr g225 (fun a9 h9 k9 c9 => by rw [ef231, q_setz (Or.inl (fun q => by rw [q, kv] at k9; exact absurd k9 (by decide)))]) (fun a9 h9 k9 c9 => by rw [ef231, q_setz (Or.inl (fun q => by rw [q, kv] at k9; exact absurd k9 (by decide)))]) (fun a9 h9 k9 c9 => by rw [ef231, q_setz (Or.inl (fun q => by rw [q, kv] at k9; exact absurd k9 (by decide)))]) (fun a9 h9 k9 c9 => by rw [ef231, q_setz (Or.inl (fun q => by rw [q, kv] at k9; exact absurd k9 (by decide)))]) (fun i9 => by rw [ef231, q_setr (Or.inl (fun q => by rw [q, kv] at kn9; exact absurd kn9 (by decide)))]) (fun i9 => by rw [ef231, q_setr (Or.inl (fun q => by rw [q, kv] at kl9; exact absurd kl9 (by decide)))]) (fun i9 => by rw [ef231, q_setr (Or.inl (fun q => by rw [q, kv] at km9; exact absurd km9 (by decide)))])
  have g247 : tw_nw K L 5 f231 := tw_nw_tr g226 (fun a9 h9 k9 => by rw [ef231, q_setj (Or.inr (by decide))])
  have g248 : tw_nw K L 61 f231 := tw_nw_tr g227 (fun a9 h9 k9 => by rw [ef231, q_setj (Or.inl (fun q => by rw [q, kv] at k9; exact absurd k9 (by decide)))])
  refine q_ald_n cx dX5_copyFrom_56 rfl (lv_at hl 0 rfl) ?_
  refine q_ald_n cx dX5_copyFrom_57 rfl (lv_at hl 1 rfl) ?_
  obtain ⟨x249, ex249⟩ : ∃ zz, q_is (q_z f231 p0 7) zz := ⟨_, q_isr _⟩
  obtain ⟨lx249, ux249⟩ := q_isb ex249 (q_fib hB.2.1 hp0 kp0 (by decide) rfl)
  obtain ⟨x250, ex250, nx250⟩ : ∃ zz, q_is (q_z f231 p0 7) zz ∧ zz = x249 := ⟨_, ex249, rfl⟩
  have sx250 : q_is x250 (s9 (1 + Int.toNat lj) 7) := tw_g g246 hp1 (by omega) (by omega) ex250
  refine q_gX5_32_61 cx hB hp0 kp0 ex250 dX5_copyFrom_58 (fun lb251 ub251 => ?_)
  refine q_pX5_32 cx hB hv kv ⟨by omega, by omega⟩ (by omega) (by omega) rfl dX5_copyFrom_61 (fun H locs f252 ef252 z253 hB => ?_)
  have z254 : q_is (q_z f252 p0 2) x164 := by rw [ef252, q_setz (Or.inr (by decide))]; exact z233
  have z255 : q_is (q_z f252 v 2) x165 := by rw [ef252, q_setz (Or.inr (by decide))]; exact z234
  have z256 : q_is (q_z f252 p0 3) x177 := by rw [ef252, q_setz (Or.inr (by decide))]; exact z235
  have z257 : q_is (q_z f252 v 3) x178 := by rw [ef252, q_setz (Or.inr (by decide))]; exact z236
  have z258 : q_is (q_z f252 p0 4) x192 := by rw [ef252, q_setz (Or.inr (by decide))]; exact z237
  have z259 : q_is (q_z f252 v 4) x193 := by rw [ef252, q_setz (Or.inr (by decide))]; exact z238
  have z260 : q_is (q_z f252 p0 5) x209 := by rw [ef252, q_setz (Or.inr (by decide))]; exact z239
  have z261 : q_is (q_z f252 v 5) x210 := by rw [ef252, q_setz (Or.inr (by decide))]; exact z240
  have z262 : q_is (q_z f252 p0 6) x228 := by rw [ef252, q_setz (Or.inr (by decide))]; exact z241
  have z263 : q_is (q_z f252 v 6) x229 := by rw [ef252, q_setz (Or.inr (by decide))]; exact z232
  have z264 : q_is (q_z f252 p0 7) x249 := by rw [ef252, q_setz (Or.inl (fun q => by rw [q, kv] at kp0; exact absurd kp0 (by decide)))]; exact ex249
  have z265 : q_j f252 v 0 = j149 := by rw [ef252, q_setj (Or.inr (by decide))]; exact z242
  have z266 : q_j f252 p0 1 = (q_l 0) := by rw [ef252, q_setj (Or.inr (by decide))]; exact z243
  have z267 : q_j f252 v 1 = (q_l 0) := by rw [ef252, q_setj (Or.inr (by decide))]; exact z244
  have g268 : tw_vw K L 10 5 3 4 f252 v0 n0 l0 m0 d0 (tw_u (tw_u (tw_u (tw_u (tw_u (tw_u s0 (1 + Int.toNat li) 2 x165) (1 + Int.toNat li) 3 x178) (1 + Int.toNat li) 4 x193) (1 + Int.toNat li) 5 x210) (1 + Int.toNat li) 6 x229) (1 + Int.toNat li) 7 x250) := tw_vw_s g245 hp0 (by omega) (by omega) ef252 z253 (fun i9 => by rw [ef252, q_setr (Or.inl (fun q => by rw [q, kv] at kn0; exact absurd kn0 (by decide)))]) (fun i9 => by rw [ef252, q_setr (Or.inl (fun q => by rw [q, kv] at kl0; exact absurd kl0 (by decide)))]) (fun i9 => by rw [ef252, q_setr (Or.inl (fun q => by rw [q, kv] at km0; exact absurd km0 (by decide)))])
  have g269 : tw_vw K L 55 61 67 73 f252 v9 n9 l9 m9 d9 s9 := tw_vw_tr g246 (fun a9 h9 k9 c9 => by rw [ef252, q_setz (Or.inl (fun q => by rw [q, kv] at k9; exact absurd k9 (by decide)))]) (fun a9 h9 k9 c9 => by rw [ef252, q_setz (Or.inl (fun q => by rw [q, kv] at k9; exact absurd k9 (by decide)))]) (fun a9 h9 k9 c9 => by rw [ef252, q_setz (Or.inl (fun q => by rw [q, kv] at k9; exact absurd k9 (by decide)))]) (fun a9 h9 k9 c9 => by rw [ef252, q_setz (Or.inl (fun q => by rw [q, kv] at k9; exact absurd k9 (by decide)))]) (fun i9 => by rw [ef252, q_setr (Or.inl (fun q => by rw [q, kv] at kn9; exact absurd kn9 (by decide)))]) (fun i9 => by rw [ef252, q_setr (Or.inl (fun q => by rw [q, kv] at kl9; exact absurd kl9 (by decide)))]) (fun i9 => by rw [ef252, q_setr (Or.inl (fun q => by rw [q, kv] at km9; exact absurd km9 (by decide)))])
  have g270 : tw_nw K L 5 f252 := tw_nw_tr g247 (fun a9 h9 k9 => by rw [ef252, q_setj (Or.inr (by decide))])
  have g271 : tw_nw K L 61 f252 := tw_nw_tr g248 (fun a9 h9 k9 => by rw [ef252, q_setj (Or.inl (fun q => by rw [q, kv] at k9; exact absurd k9 (by decide)))])
  refine q_ald_n cx dX5_copyFrom_64 rfl (lv_at hl 0 rfl) ?_
  refine q_ald_n cx dX5_copyFrom_65 rfl (lv_at hl 1 rfl) ?_
  obtain ⟨x272, ex272⟩ : ∃ zz, q_is (q_z f252 p0 8) zz := ⟨_, q_isr _⟩
  obtain ⟨lx272, ux272⟩ := q_isb ex272 (q_fib hB.2.1 hp0 kp0 (by decide) rfl)
  obtain ⟨x273, ex273, nx273⟩ : ∃ zz, q_is (q_z f252 p0 8) zz ∧ zz = x272 := ⟨_, ex272, rfl⟩
  have sx273 : q_is x273 (s9 (1 + Int.toNat lj) 8) := tw_g g269 hp1 (by omega) (by omega) ex273
  refine q_gX5_35_61 cx hB hp0 kp0 ex273 dX5_copyFrom_66 (fun lb274 ub274 => ?_)
  refine q_pX5_35 cx hB hv kv ⟨by omega, by omega⟩ (by omega) (by omega) rfl dX5_copyFrom_69 (fun H locs f275 ef275 z276 hB => ?_)
  have z277 : q_is (q_z f275 p0 2) x164 := by rw [ef275, q_setz (Or.inr (by decide))]; exact z254
  have z278 : q_is (q_z f275 v 2) x165 := by rw [ef275, q_setz (Or.inr (by decide))]; exact z255
  have z279 : q_is (q_z f275 p0 3) x177 := by rw [ef275, q_setz (Or.inr (by decide))]; exact z256
  have z280 : q_is (q_z f275 v 3) x178 := by rw [ef275, q_setz (Or.inr (by decide))]; exact z257
  have z281 : q_is (q_z f275 p0 4) x192 := by rw [ef275, q_setz (Or.inr (by decide))]; exact z258
  have z282 : q_is (q_z f275 v 4) x193 := by rw [ef275, q_setz (Or.inr (by decide))]; exact z259
  have z283 : q_is (q_z f275 p0 5) x209 := by rw [ef275, q_setz (Or.inr (by decide))]; exact z260
  have z284 : q_is (q_z f275 v 5) x210 := by rw [ef275, q_setz (Or.inr (by decide))]; exact z261
  have z285 : q_is (q_z f275 p0 6) x228 := by rw [ef275, q_setz (Or.inr (by decide))]; exact z262
  have z286 : q_is (q_z f275 v 6) x229 := by rw [ef275, q_setz (Or.inr (by decide))]; exact z263
  have z287 : q_is (q_z f275 p0 7) x249 := by rw [ef275, q_setz (Or.inr (by decide))]; exact z264
  have z288 : q_is (q_z f275 v 7) x250 := by rw [ef275, q_setz (Or.inr (by decide))]; exact z253
  have z289 : q_is (q_z f275 p0 8) x272 := by rw [ef275, q_setz (Or.inl (fun q => by rw [q, kv] at kp0; exact absurd kp0 (by decide)))]; exact ex272
  have z290 : q_j f275 v 0 = j149 := by rw [ef275, q_setj (Or.inr (by decide))]; exact z265
  have z291 : q_j f275 p0 1 = (q_l 0) := by rw [ef275, q_setj (Or.inr (by decide))]; exact z266
  have z292 : q_j f275 v 1 = (q_l 0) := by rw [ef275, q_setj (Or.inr (by decide))]; exact z267
  have g293 : tw_vw K L 10 5 3 4 f275 v0 n0 l0 m0 d0 (tw_u (tw_u (tw_u (tw_u (tw_u (tw_u (tw_u s0 (1 + Int.toNat li) 2 x165) (1 + Int.toNat li) 3 x178) (1 + Int.toNat li) 4 x193) (1 + Int.toNat li) 5 x210) (1 + Int.toNat li) 6 x229) (1 + Int.toNat li) 7 x250) (1 + Int.toNat li) 8 x273) := tw_vw_s g268 hp0 (by omega) (by omega) ef275 z276 (fun i9 => by rw [ef275, q_setr (Or.inl (fun q => by rw [q, kv] at kn0; exact absurd kn0 (by decide)))]) (fun i9 => by rw [ef275, q_setr (Or.inl (fun q => by rw [q, kv] at kl0; exact absurd kl0 (by decide)))]) (fun i9 => by rw [ef275, q_setr (Or.inl (fun q => by rw [q, kv] at km0; exact absurd km0 (by decide)))])
  have g294 : tw_vw K L 55 61 67 73 f275 v9 n9 l9 m9 d9 s9 := tw_vw_tr g269 (fun a9 h9 k9 c9 => by rw [ef275, q_setz (Or.inl (fun q => by rw [q, kv] at k9; exact absurd k9 (by decide)))]) (fun a9 h9 k9 c9 => by rw [ef275, q_setz (Or.inl (fun q => by rw [q, kv] at k9; exact absurd k9 (by decide)))]) (fun a9 h9 k9 c9 => by rw [ef275, q_setz (Or.inl (fun q => by rw [q, kv] at k9; exact absurd k9 (by decide)))]) (fun a9 h9 k9 c9 => by rw [ef275, q_setz (Or.inl (fun q => by rw [q, kv] at k9; exact absurd k9 (by decide)))]) (fun i9 => by rw [ef275, q_setr (Or.inl (fun q => by rw [q, kv] at kn9; exact absurd kn9 (by decide)))]) (fun i9 => by rw [ef275, q_setr (Or.inl (fun q => by rw [q, kv] at kl9; exact absurd kl9 (by decide)))]) (fun i9 => by rw [ef275, q_setr (Or.inl (fun q => by rw [q, kv] at km9; exact absurd km9 (by decide)))])
  have g295 : tw_nw K L 5 f275 := tw_nw_tr g270 (fun a9 h9 k9 => by rw [ef275, q_setj (Or.inr (by decide))])
  have g296 : tw_nw K L 61 f275 := tw_nw_tr g271 (fun a9 h9 k9 => by rw [ef275, q_setj (Or.inl (fun q => by rw [q, kv] at k9; exact absurd k9 (by decide)))])
  refine q_vret cx hr hlk hB dX5_copyFrom_72 ?_
  exact ⟨(tw_cg g293 (by have t0_ : x165 = s9 (1 + Int.toNat lj) 2 := sx165; have t1_ : x178 = s9 (1 + Int.toNat lj) 3 := sx178; have t2_ : x193 = s9 (1 + Int.toNat lj) 4 := sx193; have t3_ : x210 = s9 (1 + Int.toNat lj) 5 := sx210; have t4_ : x229 = s9 (1 + Int.toNat lj) 6 := sx229; have t5_ : x250 = s9 (1 + Int.toNat lj) 7 := sx250; have t6_ : x273 = s9 (1 + Int.toNat lj) 8 := sx273; (try simp only [t0_, t1_, t2_, t3_, t4_, t5_, t6_]); (repeat' split) <;> first | rfl | (exfalso; omega))), g295⟩
