set_option maxHeartbeats 4000000 in
set_option maxRecDepth 100000 in
theorem f_passMessages0 (l : Launch) (g : q_G) {K : Nat → Nat} {L : List Nat} (hN : L.Nodup) {f : Nat → va_E} (hT : q_Ty g K L f) (d0 : Nat → Nat) (s0 : tw_S) (v0 : Nat) (hv0 : v0 ∈ L) (kv0 : K v0 = 10) (p0 : Int) (lp0 : 0 ≤ p0) (up0 : p0 ≤ 1) (n0 : Nat) (hn0 : n0 ∈ L) (kn0 : K n0 = 110) (l0 : Nat) (hl0 : l0 ∈ L) (kl0 : K l0 = 120) (m0 : Nat) (hm0 : m0 ∈ L) (km0 : K m0 = 130) (nn : Int) (lnn : 0 ≤ nn) (unn : nn ≤ 10) (mn : Int) (lmn : 0 ≤ mn) (umn : mn ≤ 61) (hf0 : q_is (q_z f v0 3) nn) (hf1 : q_is (q_z f v0 5) mn) (hr0 : q_ir (q_r f v0 0) n0) (hr1 : q_ir (q_r f v0 1) l0) (hr2 : q_ir (q_r f v0 2) m0) (hw0 : tw_vw K L 10 5 3 4 f v0 n0 l0 m0 d0 s0) : q_Ct l g K L yX10_passMessages cX10_passMessages 5 (some .int) 3 77 [.ref v0, .int (q_i p0)] f [(4, 2, 3), (4, 5, 6), (5, 4, 4), (5, 7, 8), (10, 14, 15)] (q_Pi (fun (z : Int) (f1 : Nat → va_E) => 0 ≤ z ∧ z ≤ 61 ∧ (z = tw_pn s0 p0) ∧ (tw_vw K L 10 5 3 4 f1 v0 n0 l0 m0 d0 (tw_pm s0 p0)))) := by
  refine q_ofb (by decide +kernel) hN hT (Nat.le_of_ble_eq_true rfl) ?_
  intro p e s m below meth c ls cx hr hlk hB hl
  have hl : lv_has ls 5 [(0, .ref v0), (1, .int (q_i p0))] := hl
  have J4 : ∀ (n : Nat) (f4 : Nat → va_E) (v4_1 : Int) (lv4_1 : 0 ≤ v4_1) (uv4_1 : v4_1 ≤ 1) (v4_2 : Int) (lv4_2 : 0 ≤ v4_2) (uv4_2 : v4_2 ≤ 61) (v4_3 : Int) (lv4_3 : 0 ≤ v4_3) (uv4_3 : v4_3 ≤ 61) (hj_v0_3 : q_is (q_z f4 v0 3) nn) (hj_v0_5 : q_is (q_z f4 v0 5) mn) (hq_v0_0 : q_ir (q_r f4 v0 0) n0) (hq_v0_1 : q_ir (q_r f4 v0 1) l0) (hq_v0_2 : q_ir (q_r f4 v0 2) m0) (hrl4_0 : 0 ≤ 1 * mn + -1 * v4_3 + 0) (hrl4_1 : 0 ≤ 1 * v4_3 + -1 * v4_2 + 0) (hvw : tw_vw K L 10 5 3 4 f4 v0 n0 l0 m0 d0 (tw_pml s0 p0 (Int.toNat v4_3))) (hac : v4_2 = tw_pnl s0 p0 (Int.toNat v4_3)) (hmu : (Int.toNat (2147483647 - v4_3)) < n) (H : Heap) (locs : List Loc) (hB : q_B g K L (fun q => q ∈ L) [(4, 2, 3), (4, 5, 6), (5, 4, 4), (5, 7, 8), (10, 14, 15)] f f4 s H locs) (ls : Array Slot) (hl : lv_has ls 5 [(0, .ref v0), (1, .int (q_i v4_1)), (2, .int (q_i v4_2)), (3, .int (q_i v4_3))]), W p l e { frames := 3, cells := 0, slots := 0, locals := 77 } s m ([.ref v0, .int (q_i p0)] : List Value).toArray below meth c H locs 0 0 (MQ below (q_Q g K L [(4, 2, 3), (4, 5, 6), (5, 4, 4), (5, 7, 8), (10, 14, 15)] f (q_Pi (fun (z : Int) (f1 : Nat → va_E) => 0 ≤ z ∧ z ≤ 61 ∧ (z = tw_pn s0 p0) ∧ (tw_vw K L 10 5 3 4 f1 v0 n0 l0 m0 d0 (tw_pm s0 p0))))) ([.ref v0, .int (q_i p0)] : List Value).toArray s 0 0 (fun q => q ∈ L)) (F0 m 4 ls []) := by
    intro n
    induction n with
    | zero =>
      intro f4 v4_1 lv4_1 uv4_1 v4_2 lv4_2 uv4_2 v4_3 lv4_3 uv4_3 hj_v0_3 hj_v0_5 hq_v0_0 hq_v0_1 hq_v0_2 hrl4_0 hrl4_1 hvw hac hmu
      exact absurd hmu (Nat.not_lt_zero _)
    | succ n ih4 =>
      intro f4 v4_1 lv4_1 uv4_1 v4_2 lv4_2 uv4_2 v4_3 lv4_3 uv4_3 hj_v0_3 hj_v0_5 hq_v0_0 hq_v0_1 hq_v0_2 hrl4_0 hrl4_1 hvw hac hmu H locs hB ls hl
      refine q_ild_n cx dX10_passMessages_4 rfl (lv_at hl 3 rfl) ?_
      refine q_ald_n cx dX10_passMessages_5 rfl (lv_at hl 0 rfl) ?_
      obtain ⟨x610, ex610, nx610⟩ : ∃ zz, q_is (q_z f4 v0 5) zz ∧ zz = mn := ⟨_, hj_v0_5, rfl⟩
      have sx610 : q_is x610 ((tw_pml s0 p0 (Int.toNat v4_3)) 0 5) := tw_g hvw (tw_v0 hw0) (by omega) (by omega) ex610
      refine q_gX10_42 cx hB hv0 kv0 ex610 dX10_passMessages_6 (fun lb611 ub611 => ?_)
      refine q_icge (tgt := 65) cx ⟨by omega, by omega⟩ ⟨by omega, by omega⟩ dX10_passMessages_9 (by decide) (fun c612 => ?_) (fun c612 => ?_)
      · refine q_ild_n cx dX10_passMessages_65 rfl (lv_at hl 2 rfl) ?_
        refine q_iret cx hr hlk hB dX10_passMessages_66 ⟨by omega, by omega⟩ ?_
        exact ⟨(by omega), (by omega), (by have t0_ : v4_2 = tw_pnl s0 p0 (Int.toNat v4_3) := hac; have t1_ : x610 = (tw_pml s0 p0 (Int.toNat v4_3)) 0 5 := sx610; have e8 : tw_pml s0 p0 (Int.toNat v4_3) 0 5 = s0 0 5 := tw_pml_c _ _ (by decide) (by decide); have e9 : v4_3 = s0 0 5 := by omega; rw [hac, e9]; rfl), (tw_cg hvw (by have t0_ : v4_2 = tw_pnl s0 p0 (Int.toNat v4_3) := hac; have t1_ : x610 = (tw_pml s0 p0 (Int.toNat v4_3)) 0 5 := sx610; have e8 : tw_pml s0 p0 (Int.toNat v4_3) 0 5 = s0 0 5 := tw_pml_c _ _ (by decide) (by decide); have e9 : v4_3 = s0 0 5 := by omega; rw [e9]; rfl))⟩
      · refine q_ald_n cx dX10_passMessages_12 rfl (lv_at hl 0 rfl) ?_
        refine q_ild_n cx dX10_passMessages_13 rfl (lv_at hl 3 rfl) ?_
        refine q_cVr (As := [.int (q_i v4_3)]) (rest := []) cx hB (fun _ h => h) hN hv0 kv0 (by decide) rfl (f_messageAt0 l g hN hB.2.1 d0 (tw_pml s0 p0 (Int.toNat v4_3)) v0 hv0 kv0 v4_3 (by omega) (by omega) n0 hn0 kn0 l0 hl0 kl0 m0 hm0 km0 hq_v0_0 hq_v0_1 hq_v0_2 hvw) q_cX10_81 q_dX10_messageAt (by decide) rfl rfl hl.1 rfl (Nat.le_of_ble_eq_true rfl) dX10_passMessages_14 (fun y614 H locs f613 h615 hF hB => ?_)
        obtain ⟨rfl, hy614, ky614, t616⟩ := h615
        refine lv_astore (lv' := [(4, .ref y614), (0, .ref v0), (1, .int (q_i v4_1)), (2, .int (q_i v4_2)), (3, .int (q_i v4_3))]) cx.1 cx.2.1 dX10_passMessages_17 hl (by decide) rfl (fun ls hl => ?_)
        refine lv_aload cx.1 cx.2.1 dX10_passMessages_19 (lv_at hl 0 rfl) ?_
        obtain ⟨x617, ex617⟩ : ∃ zz, q_is (q_z f4 y614 3) zz := ⟨_, q_isr _⟩
        obtain ⟨lx617, ux617⟩ := q_isb ex617 (q_fib hB.2.1 hy614 ky614 (by decide) rfl)
        obtain ⟨x618, ex618, nx618⟩ : ∃ zz, q_is (q_z f4 y614 3) zz ∧ zz = x617 := ⟨_, ex617, rfl⟩
        have sx618 : q_is x618 ((tw_pml s0 p0 (Int.toNat v4_3)) (27 + Int.toNat v4_3) 3) := tw_g hvw t616 (by omega) (by omega) ex618
        refine q_gX10_140 cx hB hy614 ky614 ex618 dX10_passMessages_21 (fun lb619 ub619 => ?_)
        refine q_ifne (tgt := 59) cx ⟨by omega, by omega⟩ dX10_passMessages_24 (by decide) (fun c620 => ?_) (fun c620 => ?_)
        · refine q_iinc (lv' := [(3, .int (q_i (v4_3 + 1))), (4, .ref y614), (0, .ref v0), (1, .int (q_i v4_1)), (2, .int (q_i v4_2))]) cx dX10_passMessages_59 hl (k := 4) rfl (by decide) rfl (fun ls hl => ?_)
          refine lv_goto (tgt := 4) cx.1 cx.2.1 dX10_passMessages_62 (by decide) ?_
          exact ih4 f4 v4_1 (by omega) (by omega) v4_2 (by omega) (by omega) (v4_3 + 1) (by omega) (by omega) hj_v0_3 hj_v0_5 hq_v0_0 hq_v0_1 hq_v0_2 (by omega) (by omega) (tw_cg hvw (by have t0_ : v4_2 = tw_pnl s0 p0 (Int.toNat v4_3) := hac; have t1_ : x610 = (tw_pml s0 p0 (Int.toNat v4_3)) 0 5 := sx610; have t2_ : x618 = (tw_pml s0 p0 (Int.toNat v4_3)) (27 + Int.toNat v4_3) 3 := sx618; (try simp only [t0_, t1_, t2_]); rw [tw_pml_s (by omega)]; (repeat' split) <;> first | rfl | (exfalso; omega))) (by have t0_ : v4_2 = tw_pnl s0 p0 (Int.toNat v4_3) := hac; have t1_ : x610 = (tw_pml s0 p0 (Int.toNat v4_3)) 0 5 := sx610; have t2_ : x618 = (tw_pml s0 p0 (Int.toNat v4_3)) (27 + Int.toNat v4_3) 3 := sx618; (try simp only [t0_, t1_, t2_]); rw [tw_pnl_s (by omega)]; (repeat' split) <;> first | rfl | (exfalso; omega)) (by omega) H locs hB ls (lv_sub hl [2, 3, 4, 0] rfl)
        · refine lv_aload cx.1 cx.2.1 dX10_passMessages_27 (lv_at hl 0 rfl) ?_
          obtain ⟨x621, ex621⟩ : ∃ zz, q_is (q_z f4 y614 7) zz := ⟨_, q_isr _⟩
          obtain ⟨lx621, ux621⟩ := q_isb ex621 (q_fib hB.2.1 hy614 ky614 (by decide) rfl)
          obtain ⟨x622, ex622, nx622⟩ : ∃ zz, q_is (q_z f4 y614 7) zz ∧ zz = x621 := ⟨_, ex621, rfl⟩
          have sx622 : q_is x622 ((tw_pml s0 p0 (Int.toNat v4_3)) (27 + Int.toNat v4_3) 7) := tw_g hvw t616 (by omega) (by omega) ex622
          refine q_gX10_152 cx hB hy614 ky614 ex622 dX10_passMessages_29 (fun lb623 ub623 => ?_)
          refine q_ild_n cx dX10_passMessages_32 rfl (lv_at hl 2 rfl) ?_
          refine q_icne (tgt := 59) cx ⟨by omega, by omega⟩ ⟨by omega, by omega⟩ dX10_passMessages_33 (by decide) (fun c624 => ?_) (fun c624 => ?_)
          · refine q_iinc (lv' := [(3, .int (q_i (v4_3 + 1))), (4, .ref y614), (0, .ref v0), (1, .int (q_i v4_1)), (2, .int (q_i v4_2))]) cx dX10_passMessages_59 hl (k := 4) rfl (by decide) rfl (fun ls hl => ?_)
            refine lv_goto (tgt := 4) cx.1 cx.2.1 dX10_passMessages_62 (by decide) ?_
            exact ih4 f4 v4_1 (by omega) (by omega) v4_2 (by omega) (by omega) (v4_3 + 1) (by omega) (by omega) hj_v0_3 hj_v0_5 hq_v0_0 hq_v0_1 hq_v0_2 (by omega) (by omega) (tw_cg hvw (by have t0_ : v4_2 = tw_pnl s0 p0 (Int.toNat v4_3) := hac; have t1_ : x610 = (tw_pml s0 p0 (Int.toNat v4_3)) 0 5 := sx610; have t2_ : x618 = (tw_pml s0 p0 (Int.toNat v4_3)) (27 + Int.toNat v4_3) 3 := sx618; have t3_ : x622 = (tw_pml s0 p0 (Int.toNat v4_3)) (27 + Int.toNat v4_3) 7 := sx622; (try simp only [t0_, t1_, t2_, t3_]); rw [tw_pml_s (by omega)]; (repeat' split) <;> first | rfl | (exfalso; omega))) (by have t0_ : v4_2 = tw_pnl s0 p0 (Int.toNat v4_3) := hac; have t1_ : x610 = (tw_pml s0 p0 (Int.toNat v4_3)) 0 5 := sx610; have t2_ : x618 = (tw_pml s0 p0 (Int.toNat v4_3)) (27 + Int.toNat v4_3) 3 := sx618; have t3_ : x622 = (tw_pml s0 p0 (Int.toNat v4_3)) (27 + Int.toNat v4_3) 7 := sx622; (try simp only [t0_, t1_, t2_, t3_]); rw [tw_pnl_s (by omega)]; (repeat' split) <;> first | rfl | (exfalso; omega)) (by omega) H locs hB ls (lv_sub hl [2, 3, 4, 0] rfl)
          · refine q_ald_n cx dX10_passMessages_36 rfl (lv_at hl 1 rfl) ?_
            refine lv_aload cx.1 cx.2.1 dX10_passMessages_37 (lv_at hl 0 rfl) ?_
            refine q_cVv (As := [.ref y614]) (rest := []) cx hB (fun _ h => h) hN hv0 kv0 (by decide) rfl (f_tryToPass0 l g hN hB.2.1 d0 (tw_pml s0 p0 (Int.toNat v4_3)) v0 hv0 kv0 y614 hy614 ky614 n0 hn0 kn0 l0 hl0 kl0 m0 hm0 km0 v4_3 (by omega) (by omega) nn (by omega) (by omega) hj_v0_3 hq_v0_0 hq_v0_1 hq_v0_2 t616 hvw) q_cX10_271 q_dX10_tryToPass (by decide) rfl rfl hl.1 rfl (Nat.le_of_ble_eq_true rfl) dX10_passMessages_39 (fun H locs f625 h627 hF hB => ?_)
            have g628 := h627
            have z629 : q_is (q_z f625 v0 3) nn := Eq.trans (hF.z hv0 (by rw [kv0]; rfl)) hj_v0_3
            have z630 : q_is (q_z f625 v0 5) mn := Eq.trans (hF.z hv0 (by rw [kv0]; rfl)) hj_v0_5
            have z631 : q_is (q_z f625 y614 7) x621 := Eq.trans (hF.z hy614 (by rw [ky614]; rfl)) ex621
            have z632 : q_ir (q_r f625 v0 0) n0 := Eq.trans (hF.r hv0 (by rw [kv0]; rfl)) hq_v0_0
            have z633 : q_ir (q_r f625 v0 1) l0 := Eq.trans (hF.r hv0 (by rw [kv0]; rfl)) hq_v0_1
            have z634 : q_ir (q_r f625 v0 2) m0 := Eq.trans (hF.r hv0 (by rw [kv0]; rfl)) hq_v0_2
            refine q_ild_n cx dX10_passMessages_42 rfl (lv_at hl 3 rfl) ?_
            refine lv_aload cx.1 cx.2.1 dX10_passMessages_43 (lv_at hl 0 rfl) ?_
            obtain ⟨x635, ex635⟩ : ∃ zz, q_is (q_z f625 y614 3) zz := ⟨_, q_isr _⟩
            obtain ⟨lx635, ux635⟩ := q_isb ex635 (q_fib hB.2.1 hy614 ky614 (by decide) rfl)
            obtain ⟨x636, ex636, nx636⟩ : ∃ zz, q_is (q_z f625 y614 3) zz ∧ zz = x635 := ⟨_, ex635, rfl⟩
            have sx636 : q_is x636 ((tw_tp (tw_pml s0 p0 (Int.toNat v4_3)) v4_3) (27 + Int.toNat v4_3) 3) := tw_g g628 t616 (by omega) (by omega) ex636
            refine q_gX10_140 cx hB hy614 ky614 ex636 dX10_passMessages_45 (fun lb637 ub637 => ?_)
            refine q_iconst cx dX10_passMessages_48 ?_
            refine q_icne (tgt := 56) cx ⟨by omega, by omega⟩ ⟨by decide, by decide⟩ dX10_passMessages_49 (by decide) (fun c638 => ?_) (fun c638 => ?_)
            · refine q_iconst cx dX10_passMessages_56 ?_
              refine q_iadd cx dX10_passMessages_57 ?_
              refine lv_istore_n (lv' := [(2, .int (q_i (v4_2 + 0))), (4, .ref y614), (0, .ref v0), (1, .int (q_i v4_1)), (3, .int (q_i v4_3))]) cx.1 cx.2.1 dX10_passMessages_58 rfl hl (by decide) rfl (fun ls hl => ?_)
              refine q_iinc (lv' := [(3, .int (q_i (v4_3 + 1))), (2, .int (q_i (v4_2 + 0))), (4, .ref y614), (0, .ref v0), (1, .int (q_i v4_1))]) cx dX10_passMessages_59 hl (k := 4) rfl (by decide) rfl (fun ls hl => ?_)
              refine lv_goto (tgt := 4) cx.1 cx.2.1 dX10_passMessages_62 (by decide) ?_
              exact ih4 f625 v4_1 (by omega) (by omega) (v4_2 + 0) (by omega) (by omega) (v4_3 + 1) (by omega) (by omega) z629 z630 z632 z633 z634 (by omega) (by omega) (tw_cg g628 (by have t0_ : v4_2 = tw_pnl s0 p0 (Int.toNat v4_3) := hac; have t1_ : x610 = (tw_pml s0 p0 (Int.toNat v4_3)) 0 5 := sx610; have t2_ : x618 = (tw_pml s0 p0 (Int.toNat v4_3)) (27 + Int.toNat v4_3) 3 := sx618; have t3_ : x622 = (tw_pml s0 p0 (Int.toNat v4_3)) (27 + Int.toNat v4_3) 7 := sx622; have t4_ : x636 = (tw_tp (tw_pml s0 p0 (Int.toNat v4_3)) v4_3) (27 + Int.toNat v4_3) 3 := sx636; (try simp only [t0_, t1_, t2_, t3_, t4_]); rw [tw_pml_s (by omega)]; (repeat' split) <;> first | rfl | (exfalso; omega))) (by have t0_ : v4_2 = tw_pnl s0 p0 (Int.toNat v4_3) := hac; have t1_ : x610 = (tw_pml s0 p0 (Int.toNat v4_3)) 0 5 := sx610; have t2_ : x618 = (tw_pml s0 p0 (Int.toNat v4_3)) (27 + Int.toNat v4_3) 3 := sx618; have t3_ : x622 = (tw_pml s0 p0 (Int.toNat v4_3)) (27 + Int.toNat v4_3) 7 := sx622; have t4_ : x636 = (tw_tp (tw_pml s0 p0 (Int.toNat v4_3)) v4_3) (27 + Int.toNat v4_3) 3 := sx636; (try simp only [t0_, t1_, t2_, t3_, t4_]); rw [tw_pnl_s (by omega)]; (repeat' split) <;> first | rfl | (exfalso; omega)) (by omega) H locs hB ls (lv_sub hl [3, 4, 1, 0] rfl)
            · refine q_iconst cx dX10_passMessages_52 ?_
              refine lv_goto (tgt := 57) cx.1 cx.2.1 dX10_passMessages_53 (by decide) ?_
              refine q_iadd cx dX10_passMessages_57 ?_
              refine lv_istore_n (lv' := [(2, .int (q_i (v4_2 + 1))), (4, .ref y614), (0, .ref v0), (1, .int (q_i v4_1)), (3, .int (q_i v4_3))]) cx.1 cx.2.1 dX10_passMessages_58 rfl hl (by decide) rfl (fun ls hl => ?_)
              refine q_iinc (lv' := [(3, .int (q_i (v4_3 + 1))), (2, .int (q_i (v4_2 + 1))), (4, .ref y614), (0, .ref v0), (1, .int (q_i v4_1))]) cx dX10_passMessages_59 hl (k := 4) rfl (by decide) rfl (fun ls hl => ?_)
              refine lv_goto (tgt := 4) cx.1 cx.2.1 dX10_passMessages_62 (by decide) ?_
              exact ih4 f625 v4_1 (by omega) (by omega) (v4_2 + 1) (by omega) (by omega) (v4_3 + 1) (by omega) (by omega) z629 z630 z632 z633 z634 (by omega) (by omega) (tw_cg g628 (by have t0_ : v4_2 = tw_pnl s0 p0 (Int.toNat v4_3) := hac; have t1_ : x610 = (tw_pml s0 p0 (Int.toNat v4_3)) 0 5 := sx610; have t2_ : x618 = (tw_pml s0 p0 (Int.toNat v4_3)) (27 + Int.toNat v4_3) 3 := sx618; have t3_ : x622 = (tw_pml s0 p0 (Int.toNat v4_3)) (27 + Int.toNat v4_3) 7 := sx622; have t4_ : x636 = (tw_tp (tw_pml s0 p0 (Int.toNat v4_3)) v4_3) (27 + Int.toNat v4_3) 3 := sx636; (try simp only [t0_, t1_, t2_, t3_, t4_]); rw [tw_pml_s (by omega)]; (repeat' split) <;> first | rfl | (exfalso; omega))) (by have t0_ : v4_2 = tw_pnl s0 p0 (Int.toNat v4_3) := hac; have t1_ : x610 = (tw_pml s0 p0 (Int.toNat v4_3)) 0 5 := sx610; have t2_ : x618 = (tw_pml s0 p0 (Int.toNat v4_3)) (27 + Int.toNat v4_3) 3 := sx618; have t3_ : x622 = (tw_pml s0 p0 (Int.toNat v4_3)) (27 + Int.toNat v4_3) 7 := sx622; have t4_ : x636 = (tw_tp (tw_pml s0 p0 (Int.toNat v4_3)) v4_3) (27 + Int.toNat v4_3) 3 := sx636; (try simp only [t0_, t1_, t2_, t3_, t4_]); rw [tw_pnl_s (by omega)]; (repeat' split) <;> first | rfl | (exfalso; omega)) (by omega) H locs hB ls (lv_sub hl [3, 4, 1, 0] rfl)
  obtain ⟨H, hH⟩ : ∃ H : Heap, H = s.heap := ⟨_, rfl⟩
  obtain ⟨locs, hlocs⟩ : ∃ z : List Loc, z = [] := ⟨_, rfl⟩
  rw [← hH, ← hlocs] at hB
  rw [← hH, ← hlocs]
  refine q_iconst cx dX10_passMessages_0 ?_
  refine lv_istore_n (lv' := [(2, .int (q_i 0)), (0, .ref v0), (1, .int (q_i p0))]) cx.1 cx.2.1 dX10_passMessages_1 rfl hl (by decide) rfl (fun ls hl => ?_)
  refine q_iconst cx dX10_passMessages_2 ?_
  refine lv_istore_n (lv' := [(3, .int (q_i 0)), (2, .int (q_i 0)), (0, .ref v0), (1, .int (q_i p0))]) cx.1 cx.2.1 dX10_passMessages_3 rfl hl (by decide) rfl (fun ls hl => ?_)
  exact J4 ((Int.toNat (2147483647 - 0)) + 1) f p0 (by omega) (by omega) 0 (by decide) (by decide) 0 (by decide) (by decide) hf0 hf1 hr0 hr1 hr2 (by omega) (by omega) (tw_cg hw0 rfl) rfl (Nat.lt_succ_self _) H locs hB ls (lv_sub hl [2, 3, 1, 0] rfl)
set_option maxHeartbeats 4000000 in
set_option maxRecDepth 100000 in
theorem f_loseMessages0 (l : Launch) (g : q_G) {K : Nat → Nat} {L : List Nat} (hN : L.Nodup) {f : Nat → va_E} (hT : q_Ty g K L f) (d0 : Nat → Nat) (s0 : tw_S) (v0 : Nat) (hv0 : v0 ∈ L) (kv0 : K v0 = 10) (n0 : Nat) (hn0 : n0 ∈ L) (kn0 : K n0 = 110) (l0 : Nat) (hl0 : l0 ∈ L) (kl0 : K l0 = 120) (m0 : Nat) (hm0 : m0 ∈ L) (km0 : K m0 = 130) (mn : Int) (lmn : 0 ≤ mn) (umn : mn ≤ 61) (hf0 : q_is (q_z f v0 5) mn) (hr0 : q_ir (q_r f v0 0) n0) (hr1 : q_ir (q_r f v0 1) l0) (hr2 : q_ir (q_r f v0 2) m0) (hw0 : tw_vw K L 10 5 3 4 f v0 n0 l0 m0 d0 s0) : q_Ct l g K L yX10_loseMessages cX10_loseMessages 3 none 2 42 [.ref v0] f [(4, 3, 3)] (q_Pv (fun (f1 : Nat → va_E) => (tw_vw K L 10 5 3 4 f1 v0 n0 l0 m0 d0 (tw_ls s0)))) := by
  refine q_ofb (by decide +kernel) hN hT (Nat.le_of_ble_eq_true rfl) ?_
  intro p e s m below meth c ls cx hr hlk hB hl
  have hl : lv_has ls 3 [(0, .ref v0)] := hl
  have J2 : ∀ (n : Nat) (f2 : Nat → va_E) (v2_1 : Int) (lv2_1 : 0 ≤ v2_1) (uv2_1 : v2_1 ≤ 61) (hj_v0_5 : q_is (q_z f2 v0 5) mn) (hq_v0_0 : q_ir (q_r f2 v0 0) n0) (hq_v0_1 : q_ir (q_r f2 v0 1) l0) (hq_v0_2 : q_ir (q_r f2 v0 2) m0) (hrl2_0 : 0 ≤ 1 * mn + -1 * v2_1 + 0) (hvw : tw_vw K L 10 5 3 4 f2 v0 n0 l0 m0 d0 (tw_lsl s0 (Int.toNat v2_1))) (hmu : (Int.toNat (2147483647 - v2_1)) < n) (H : Heap) (locs : List Loc) (hB : q_B g K L (fun q => q ∈ L) [(4, 3, 3)] f f2 s H locs) (ls : Array Slot) (hl : lv_has ls 3 [(0, .ref v0), (1, .int (q_i v2_1))]), W p l e { frames := 2, cells := 0, slots := 0, locals := 42 } s m ([.ref v0] : List Value).toArray below meth c H locs 0 0 (MQ below (q_Q g K L [(4, 3, 3)] f (q_Pv (fun (f1 : Nat → va_E) => (tw_vw K L 10 5 3 4 f1 v0 n0 l0 m0 d0 (tw_ls s0))))) ([.ref v0] : List Value).toArray s 0 0 (fun q => q ∈ L)) (F0 m 2 ls []) := by
    intro n
    induction n with
    | zero =>
      intro f2 v2_1 lv2_1 uv2_1 hj_v0_5 hq_v0_0 hq_v0_1 hq_v0_2 hrl2_0 hvw hmu
      exact absurd hmu (Nat.not_lt_zero _)
    | succ n ih2 =>
      intro f2 v2_1 lv2_1 uv2_1 hj_v0_5 hq_v0_0 hq_v0_1 hq_v0_2 hrl2_0 hvw hmu H locs hB ls hl
      refine q_ild_n cx dX10_loseMessages_2 rfl (lv_at hl 1 rfl) ?_
      refine q_ald_n cx dX10_loseMessages_3 rfl (lv_at hl 0 rfl) ?_
      obtain ⟨x652, ex652, nx652⟩ : ∃ zz, q_is (q_z f2 v0 5) zz ∧ zz = mn := ⟨_, hj_v0_5, rfl⟩
      have sx652 : q_is x652 ((tw_lsl s0 (Int.toNat v2_1)) 0 5) := tw_g hvw (tw_v0 hw0) (by omega) (by omega) ex652
      refine q_gX10_42 cx hB hv0 kv0 ex652 dX10_loseMessages_4 (fun lb653 ub653 => ?_)
      refine q_icge (tgt := 45) cx ⟨by omega, by omega⟩ ⟨by omega, by omega⟩ dX10_loseMessages_7 (by decide) (fun c654 => ?_) (fun c654 => ?_)
      · refine q_vret cx hr hlk hB dX10_loseMessages_45 ?_
        exact (tw_cg hvw (by have t0_ : x652 = (tw_lsl s0 (Int.toNat v2_1)) 0 5 := sx652; have e8 : tw_lsl s0 (Int.toNat v2_1) 0 5 = s0 0 5 := tw_lsl_c _ _ (by decide) (by decide); have e9 : v2_1 = s0 0 5 := by omega; rw [e9]; rfl))
      · refine q_ald_n cx dX10_loseMessages_10 rfl (lv_at hl 0 rfl) ?_
        refine q_ild_n cx dX10_loseMessages_11 rfl (lv_at hl 1 rfl) ?_
        refine q_cVr (As := [.int (q_i v2_1)]) (rest := []) cx hB (fun _ h => h) hN hv0 kv0 (by decide) rfl (f_messageAt0 l g hN hB.2.1 d0 (tw_lsl s0 (Int.toNat v2_1)) v0 hv0 kv0 v2_1 (by omega) (by omega) n0 hn0 kn0 l0 hl0 kl0 m0 hm0 km0 hq_v0_0 hq_v0_1 hq_v0_2 hvw) q_cX10_81 q_dX10_messageAt (by decide) rfl rfl hl.1 rfl (Nat.le_of_ble_eq_true rfl) dX10_loseMessages_12 (fun y656 H locs f655 h657 hF hB => ?_)
        obtain ⟨rfl, hy656, ky656, t658⟩ := h657
        refine lv_astore_n (lv' := [(2, .ref y656), (0, .ref v0), (1, .int (q_i v2_1))]) cx.1 cx.2.1 dX10_loseMessages_15 rfl hl (by decide) rfl (fun ls hl => ?_)
        refine q_ald_n cx dX10_loseMessages_16 rfl (lv_at hl 0 rfl) ?_
        obtain ⟨x659, ex659⟩ : ∃ zz, q_is (q_z f2 y656 3) zz := ⟨_, q_isr _⟩
        obtain ⟨lx659, ux659⟩ := q_isb ex659 (q_fib hB.2.1 hy656 ky656 (by decide) rfl)
        obtain ⟨x660, ex660, nx660⟩ : ∃ zz, q_is (q_z f2 y656 3) zz ∧ zz = x659 := ⟨_, ex659, rfl⟩
        have sx660 : q_is x660 ((tw_lsl s0 (Int.toNat v2_1)) (27 + Int.toNat v2_1) 3) := tw_g hvw t658 (by omega) (by omega) ex660
        refine q_gX10_140 cx hB hy656 ky656 ex660 dX10_loseMessages_17 (fun lb661 ub661 => ?_)
        refine q_ifne (tgt := 39) cx ⟨by omega, by omega⟩ dX10_loseMessages_20 (by decide) (fun c662 => ?_) (fun c662 => ?_)
        · refine q_iinc (lv' := [(1, .int (q_i (v2_1 + 1))), (2, .ref y656), (0, .ref v0)]) cx dX10_loseMessages_39 hl (k := 2) rfl (by decide) rfl (fun ls hl => ?_)
          refine lv_goto (tgt := 2) cx.1 cx.2.1 dX10_loseMessages_42 (by decide) ?_
          exact ih2 f2 (v2_1 + 1) (by omega) (by omega) hj_v0_5 hq_v0_0 hq_v0_1 hq_v0_2 (by omega) (tw_cg hvw (by have t0_ : x652 = (tw_lsl s0 (Int.toNat v2_1)) 0 5 := sx652; have t1_ : x660 = (tw_lsl s0 (Int.toNat v2_1)) (27 + Int.toNat v2_1) 3 := sx660; (try simp only [t0_, t1_]); rw [tw_lsl_s (by omega)]; (repeat' split) <;> first | rfl | (exfalso; omega))) (by omega) H locs hB ls (lv_sub hl [2, 0] rfl)
        · refine q_ald_n cx dX10_loseMessages_23 rfl (lv_at hl 1 rfl) ?_
          refine q_ald_n cx dX10_loseMessages_24 rfl (lv_at hl 0 rfl) ?_
          obtain ⟨x663, ex663⟩ : ∃ zz, q_is (q_z f2 y656 2) zz := ⟨_, q_isr _⟩
          obtain ⟨lx663, ux663⟩ := q_isb ex663 (q_fib hB.2.1 hy656 ky656 (by decide) rfl)
          obtain ⟨x664, ex664, nx664⟩ : ∃ zz, q_is (q_z f2 y656 2) zz ∧ zz = x663 := ⟨_, ex663, rfl⟩
          have sx664 : q_is x664 ((tw_lsl s0 (Int.toNat v2_1)) (27 + Int.toNat v2_1) 2) := tw_g hvw t658 (by omega) (by omega) ex664
          refine q_gX10_137 cx hB hy656 ky656 ex664 dX10_loseMessages_25 (fun lb665 ub665 => ?_)
          refine q_cVi (As := [.int (q_i x664)]) (rest := []) cx hB (fun _ h => h) hN hv0 kv0 (by decide) rfl (f_isOut0 l g hN hB.2.1 d0 (tw_lsl s0 (Int.toNat v2_1)) v0 hv0 kv0 x664 (by omega) (by omega) n0 hn0 kn0 l0 hl0 kl0 m0 hm0 km0 hq_v0_0 hq_v0_1 hq_v0_2 hvw) q_cX10_160 q_dX10_isOut (by decide) rfl rfl hl.1 rfl (Nat.le_of_ble_eq_true rfl) dX10_loseMessages_28 (fun y667 H locs f666 ry667 h668 hF hB => ?_)
          rcases h668 with h669 | h670
          · obtain ⟨rfl, qy667, t671⟩ := h669
            subst qy667
            refine q_ifeq (tgt := 39) cx ⟨by decide, by decide⟩ dX10_loseMessages_31 (by decide) (fun c672 => ?_) (fun c672 => ?_)
            · exact absurd c672 (by omega)
            · refine q_ald_n cx dX10_loseMessages_34 rfl (lv_at hl 0 rfl) ?_
              refine q_iconst cx dX10_loseMessages_35 ?_
              refine q_pX10_140 cx hB hy656 ky656 ⟨by decide, by decide⟩ (by decide) (by decide) rfl dX10_loseMessages_36 (fun H locs f673 ef673 z674 hB => ?_)
              have z675 : q_is (q_z f673 v0 5) mn := by rw [ef673, q_setz (Or.inr (by decide))]; exact hj_v0_5
              have z676 : q_is (q_z f673 y656 2) x663 := by rw [ef673, q_setz (Or.inr (by decide))]; exact ex663
              have z677 : q_ir (q_r f673 v0 0) n0 := by rw [ef673, q_setr (Or.inr (by decide))]; exact hq_v0_0
              have z678 : q_ir (q_r f673 v0 1) l0 := by rw [ef673, q_setr (Or.inr (by decide))]; exact hq_v0_1
              have z679 : q_ir (q_r f673 v0 2) m0 := by rw [ef673, q_setr (Or.inr (by decide))]; exact hq_v0_2
              have g680 : tw_vw K L 10 5 3 4 f673 v0 n0 l0 m0 d0 (tw_u (tw_lsl s0 (Int.toNat v2_1)) (27 + Int.toNat v2_1) 3 2) := tw_vw_s hvw t658 (by omega) (by omega) ef673 z674 (fun i9 => by rw [ef673, q_setr (Or.inl (fun q => by rw [q, ky656] at kn0; exact absurd kn0 (by decide)))]) (fun i9 => by rw [ef673, q_setr (Or.inl (fun q => by rw [q, ky656] at kl0; exact absurd kl0 (by decide)))]) (fun i9 => by rw [ef673, q_setr (Or.inl (fun q => by rw [q, ky656] at km0; exact absurd km0 (by decide)))])
              refine q_iinc (lv' := [(1, .int (q_i (v2_1 + 1))), (2, .ref y656), (0, .ref v0)]) cx dX10_loseMessages_39 hl (k := 2) rfl (by decide) rfl (fun ls hl => ?_)
              refine lv_goto (tgt := 2) cx.1 cx.2.1 dX10_loseMessages_42 (by decide) ?_
              exact ih2 f673 (v2_1 + 1) (by omega) (by omega) z675 z677 z678 z679 (by omega) (tw_cg g680 (by have t0_ : x652 = (tw_lsl s0 (Int.toNat v2_1)) 0 5 := sx652; have t1_ : x660 = (tw_lsl s0 (Int.toNat v2_1)) (27 + Int.toNat v2_1) 3 := sx660; have t2_ : x664 = (tw_lsl s0 (Int.toNat v2_1)) (27 + Int.toNat v2_1) 2 := sx664; have u0_ : tw_ou (tw_lsl s0 (Int.toNat v2_1)) ((tw_lsl s0 (Int.toNat v2_1)) (27 + Int.toNat v2_1) 2) = 1 := (by have e9 := t671; simp only [t2_] at e9; exact e9); (try simp only [t0_, t1_, t2_]); rw [tw_lsl_s (by omega)]; (repeat' split) <;> first | rfl | (exfalso; omega))) (by omega) H locs hB ls (lv_sub hl [2, 0] rfl)
          · obtain ⟨rfl, qy667, t681⟩ := h670
            subst qy667
            refine q_ifeq (tgt := 39) cx ⟨by decide, by decide⟩ dX10_loseMessages_31 (by decide) (fun c682 => ?_) (fun c682 => ?_)
            · refine q_iinc (lv' := [(1, .int (q_i (v2_1 + 1))), (2, .ref y656), (0, .ref v0)]) cx dX10_loseMessages_39 hl (k := 2) rfl (by decide) rfl (fun ls hl => ?_)
              refine lv_goto (tgt := 2) cx.1 cx.2.1 dX10_loseMessages_42 (by decide) ?_
              exact ih2 f2 (v2_1 + 1) (by omega) (by omega) hj_v0_5 hq_v0_0 hq_v0_1 hq_v0_2 (by omega) (tw_cg hvw (by have t0_ : x652 = (tw_lsl s0 (Int.toNat v2_1)) 0 5 := sx652; have t1_ : x660 = (tw_lsl s0 (Int.toNat v2_1)) (27 + Int.toNat v2_1) 3 := sx660; have t2_ : x664 = (tw_lsl s0 (Int.toNat v2_1)) (27 + Int.toNat v2_1) 2 := sx664; have u0_ : tw_ou (tw_lsl s0 (Int.toNat v2_1)) ((tw_lsl s0 (Int.toNat v2_1)) (27 + Int.toNat v2_1) 2) = 0 := (by have e9 := t681; simp only [t2_] at e9; exact e9); (try simp only [t0_, t1_, t2_]); rw [tw_lsl_s (by omega)]; (repeat' split) <;> first | rfl | (exfalso; omega))) (by omega) H locs hB ls (lv_sub hl [2, 0] rfl)
            · exact absurd c682 (by omega)
  obtain ⟨H, hH⟩ : ∃ H : Heap, H = s.heap := ⟨_, rfl⟩
  obtain ⟨locs, hlocs⟩ : ∃ z : List Loc, z = [] := ⟨_, rfl⟩
  rw [← hH, ← hlocs] at hB
  rw [← hH, ← hlocs]
  refine q_iconst cx dX10_loseMessages_0 ?_
  refine lv_istore_n (lv' := [(1, .int (q_i 0)), (0, .ref v0)]) cx.1 cx.2.1 dX10_loseMessages_1 rfl hl (by decide) rfl (fun ls hl => ?_)
  exact J2 ((Int.toNat (2147483647 - 0)) + 1) f 0 (by decide) (by decide) hf0 hr0 hr1 hr2 (by omega) (tw_cg hw0 rfl) (Nat.lt_succ_self _) H locs hB ls (lv_sub hl [1, 0] rfl)
set_option maxHeartbeats 4000000 in
set_option maxRecDepth 100000 in
theorem f_passTicks0 (l : Launch) (g : q_G) {K : Nat → Nat} {L : List Nat} (hN : L.Nodup) {f : Nat → va_E} (hT : q_Ty g K L f) (d0 : Nat → Nat) (s0 : tw_S) (v0 : Nat) (hv0 : v0 ∈ L) (kv0 : K v0 = 10) (p0 : Int) (lp0 : 0 ≤ p0) (up0 : p0 ≤ 400) (n0 : Nat) (hn0 : n0 ∈ L) (kn0 : K n0 = 110) (l0 : Nat) (hl0 : l0 ∈ L) (kl0 : K l0 = 120) (m0 : Nat) (hm0 : m0 ∈ L) (km0 : K m0 = 130) (tm : Int) (ltm : 0 ≤ tm) (utm : tm ≤ 15000) (nn : Int) (lnn : 0 ≤ nn) (unn : nn ≤ 10) (ln : Int) (lln : 0 ≤ ln) (uln : ln ≤ 16) (mn : Int) (lmn : 0 ≤ mn) (umn : mn ≤ 61) (hf0 : q_is (q_z f v0 11) tm) (hf1 : q_is (q_z f v0 3) nn) (hf2 : q_is (q_z f v0 4) ln) (hf3 : q_is (q_z f v0 5) mn) (hr0 : q_ir (q_r f v0 0) n0) (hr1 : q_ir (q_r f v0 1) l0) (hr2 : q_ir (q_r f v0 2) m0) (hw0 : tw_vw K L 10 5 3 4 f v0 n0 l0 m0 d0 s0) (hz0 : tw_nw K L 5 f) : q_Ct l g K L yX10_passTicks cX10_passTicks 5 (some .int) 4 101 [.ref v0, .int (q_i p0)] f [(3, 2, 4), (4, 2, 3), (4, 5, 6), (5, 3, 4), (5, 6, 9), (10, 11, 15)] (q_Pi (fun (z : Int) (f1 : Nat → va_E) => 0 ≤ z ∧ z ≤ 60000 ∧ q_is (q_z f1 v0 11) (tm + p0) ∧ (z = tw_tcl s0 (Int.toNat p0)) ∧ (tw_vw K L 10 5 3 4 f1 v0 n0 l0 m0 d0 (tw_tsl s0 (Int.toNat p0))) ∧ (tw_nw K L 5 f1))) := by
  refine q_ofb (by decide +kernel) hN hT (Nat.le_of_ble_eq_true rfl) ?_
  intro p e s m below meth c ls cx hr hlk hB hl
  have hl : lv_has ls 5 [(0, .ref v0), (1, .int (q_i p0))] := hl
  have J4 : ∀ (n : Nat) (f4 : Nat → va_E) (v4_1 : Int) (lv4_1 : 0 ≤ v4_1) (uv4_1 : v4_1 ≤ 400) (v4_2 : Int) (lv4_2 : 0 ≤ v4_2) (uv4_2 : v4_2 ≤ 48800) (v4_3 : Int) (lv4_3 : 0 ≤ v4_3) (uv4_3 : v4_3 ≤ 400) (w4_v0_11 : Int) (lw4_v0_11 : 0 ≤ w4_v0_11) (uw4_v0_11 : w4_v0_11 ≤ 15400) (hj_v0_3 : q_is (q_z f4 v0 3) nn) (hj_v0_4 : q_is (q_z f4 v0 4) ln) (hj_v0_5 : q_is (q_z f4 v0 5) mn) (hj_v0_11 : q_is (q_z f4 v0 11) w4_v0_11) (hq_v0_0 : q_ir (q_r f4 v0 0) n0) (hq_v0_1 : q_ir (q_r f4 v0 1) l0) (hq_v0_2 : q_ir (q_r f4 v0 2) m0) (hz04 : tw_nw K L 5 f4) (hrl4_0 : 0 ≤ 1 * p0 + -1 * v4_3 + 0) (hrl4_1 : 0 ≤ 122 * v4_3 + -1 * v4_2 + 0) (hrl4_2 : 0 ≤ 1 * tm + 1 * v4_3 + -1 * w4_v0_11 + 0 ∧ 1 * tm + 1 * v4_3 + -1 * w4_v0_11 + 0 ≤ 0) (hvw : tw_vw K L 10 5 3 4 f4 v0 n0 l0 m0 d0 (tw_tsl s0 (Int.toNat v4_3))) (hac : v4_2 = tw_tcl s0 (Int.toNat v4_3)) (hmu : (Int.toNat (2147483647 - v4_3)) < n) (H : Heap) (locs : List Loc) (hB : q_B g K L (fun q => q ∈ L) [(3, 2, 4), (4, 2, 3), (4, 5, 6), (5, 3, 4), (5, 6, 9), (10, 11, 15)] f f4 s H locs) (ls : Array Slot) (hl : lv_has ls 5 [(0, .ref v0), (1, .int (q_i v4_1)), (2, .int (q_i v4_2)), (3, .int (q_i v4_3))]), W p l e { frames := 4, cells := 0, slots := 0, locals := 101 } s m ([.ref v0, .int (q_i p0)] : List Value).toArray below meth c H locs 0 0 (MQ below (q_Q g K L [(3, 2, 4), (4, 2, 3), (4, 5, 6), (5, 3, 4), (5, 6, 9), (10, 11, 15)] f (q_Pi (fun (z : Int) (f1 : Nat → va_E) => 0 ≤ z ∧ z ≤ 60000 ∧ q_is (q_z f1 v0 11) (tm + p0) ∧ (z = tw_tcl s0 (Int.toNat p0)) ∧ (tw_vw K L 10 5 3 4 f1 v0 n0 l0 m0 d0 (tw_tsl s0 (Int.toNat p0))) ∧ (tw_nw K L 5 f1)))) ([.ref v0, .int (q_i p0)] : List Value).toArray s 0 0 (fun q => q ∈ L)) (F0 m 4 ls []) := by
    intro n
    induction n with
    | zero =>
      intro f4 v4_1 lv4_1 uv4_1 v4_2 lv4_2 uv4_2 v4_3 lv4_3 uv4_3 w4_v0_11 lw4_v0_11 uw4_v0_11 hj_v0_3 hj_v0_4 hj_v0_5 hj_v0_11 hq_v0_0 hq_v0_1 hq_v0_2 hz04 hrl4_0 hrl4_1 hrl4_2 hvw hac hmu
      exact absurd hmu (Nat.not_lt_zero _)
    | succ n ih4 =>
      intro f4 v4_1 lv4_1 uv4_1 v4_2 lv4_2 uv4_2 v4_3 lv4_3 uv4_3 w4_v0_11 lw4_v0_11 uw4_v0_11 hj_v0_3 hj_v0_4 hj_v0_5 hj_v0_11 hq_v0_0 hq_v0_1 hq_v0_2 hz04 hrl4_0 hrl4_1 hrl4_2 hvw hac hmu H locs hB ls hl
      have J26 : ∀ (n : Nat) (f26 : Nat → va_E) (v26_1 : Int) (lv26_1 : 1 ≤ v26_1) (uv26_1 : v26_1 ≤ 400) (v26_2 : Int) (lv26_2 : 0 ≤ v26_2) (uv26_2 : v26_2 ≤ 48800) (v26_3 : Int) (lv26_3 : 0 ≤ v26_3) (uv26_3 : v26_3 ≤ 399) (v26_4 : Int) (lv26_4 : 0 ≤ v26_4) (uv26_4 : v26_4 ≤ 16) (w26_v0_11 : Int) (lw26_v0_11 : 1 ≤ w26_v0_11) (uw26_v0_11 : w26_v0_11 ≤ 15400) (blv4_1 : 1 ≤ v4_1) (buv4_3 : v4_3 ≤ 399) (buw4_v0_11 : w4_v0_11 ≤ 15399) (hj_v0_3 : q_is (q_z f26 v0 3) nn) (hj_v0_4 : q_is (q_z f26 v0 4) ln) (hj_v0_5 : q_is (q_z f26 v0 5) mn) (hj_v0_11 : q_is (q_z f26 v0 11) w26_v0_11) (hq_v0_0 : q_ir (q_r f26 v0 0) n0) (hq_v0_1 : q_ir (q_r f26 v0 1) l0) (hq_v0_2 : q_ir (q_r f26 v0 2) m0) (hz026 : tw_nw K L 5 f26) (hrl26_0 : 0 ≤ 1 * ln + -1 * v26_4 + 0) (hvv : tw_vw K L 10 5 3 4 f26 v0 n0 l0 m0 d0 (tw_mml (tw_t1 (tw_tsl s0 (Int.toNat v4_3))) (Int.toNat v26_4))) (hmu : (Int.toNat (2147483647 - v26_4)) < n) (H : Heap) (locs : List Loc) (hB : q_B g K L (fun q => q ∈ L) [(3, 2, 4), (4, 2, 3), (4, 5, 6), (5, 3, 4), (5, 6, 9), (10, 11, 15)] f f26 s H locs) (ls : Array Slot) (hl : lv_has ls 5 [(0, .ref v0), (1, .int (q_i v26_1)), (2, .int (q_i v26_2)), (3, .int (q_i v26_3)), (4, .int (q_i v26_4))]), W p l e { frames := 4, cells := 0, slots := 0, locals := 101 } s m ([.ref v0, .int (q_i p0)] : List Value).toArray below meth c H locs 0 0 (MQ below (q_Q g K L [(3, 2, 4), (4, 2, 3), (4, 5, 6), (5, 3, 4), (5, 6, 9), (10, 11, 15)] f (q_Pi (fun (z : Int) (f1 : Nat → va_E) => 0 ≤ z ∧ z ≤ 60000 ∧ q_is (q_z f1 v0 11) (tm + p0) ∧ (z = tw_tcl s0 (Int.toNat p0)) ∧ (tw_vw K L 10 5 3 4 f1 v0 n0 l0 m0 d0 (tw_tsl s0 (Int.toNat p0))) ∧ (tw_nw K L 5 f1)))) ([.ref v0, .int (q_i p0)] : List Value).toArray s 0 0 (fun q => q ∈ L)) (F0 m 26 ls []) := by
        intro n
        induction n with
        | zero =>
          intro f26 v26_1 lv26_1 uv26_1 v26_2 lv26_2 uv26_2 v26_3 lv26_3 uv26_3 v26_4 lv26_4 uv26_4 w26_v0_11 lw26_v0_11 uw26_v0_11 blv4_1 buv4_3 buw4_v0_11 hj_v0_3 hj_v0_4 hj_v0_5 hj_v0_11 hq_v0_0 hq_v0_1 hq_v0_2 hz026 hrl26_0 hvv hmu
          exact absurd hmu (Nat.not_lt_zero _)
        | succ n ih26 =>
          intro f26 v26_1 lv26_1 uv26_1 v26_2 lv26_2 uv26_2 v26_3 lv26_3 uv26_3 v26_4 lv26_4 uv26_4 w26_v0_11 lw26_v0_11 uw26_v0_11 blv4_1 buv4_3 buw4_v0_11 hj_v0_3 hj_v0_4 hj_v0_5 hj_v0_11 hq_v0_0 hq_v0_1 hq_v0_2 hz026 hrl26_0 hvv hmu H locs hB ls hl
          refine lv_iload cx.1 cx.2.1 dX10_passTicks_26 (lv_at hl 4 rfl) ?_
          refine q_ald_n cx dX10_passTicks_28 rfl (lv_at hl 0 rfl) ?_
          obtain ⟨x1171, ex1171, nx1171⟩ : ∃ zz, q_is (q_z f26 v0 4) zz ∧ zz = ln := ⟨_, hj_v0_4, rfl⟩
          have sx1171 : q_is x1171 ((tw_mml (tw_t1 (tw_tsl s0 (Int.toNat v4_3))) (Int.toNat v26_4)) 0 4) := tw_g hvv (tw_v0 hw0) (by omega) (by omega) ex1171
          refine q_gX10_39 cx hB hv0 kv0 ex1171 dX10_passTicks_29 (fun lb1172 ub1172 => ?_)
          refine q_icge (tgt := 51) cx ⟨by omega, by omega⟩ ⟨by omega, by omega⟩ dX10_passTicks_32 (by decide) (fun c1173 => ?_) (fun c1173 => ?_)
          · have hv51 : tw_vw K L 10 5 3 4 f26 v0 n0 l0 m0 d0 (tw_mml (tw_t1 (tw_tsl s0 (Int.toNat v4_3))) (Int.toNat ((tw_t1 (tw_tsl s0 (Int.toNat v4_3))) 0 4))) := tw_cg hvv (by have t0_ : x1171 = (tw_mml (tw_t1 (tw_tsl s0 (Int.toNat v4_3))) (Int.toNat v26_4)) 0 4 := sx1171; have e8 : (tw_mml (tw_t1 (tw_tsl s0 (Int.toNat v4_3))) (Int.toNat v26_4)) 0 4 = (tw_t1 (tw_tsl s0 (Int.toNat v4_3))) 0 4 := tw_mml_c _ _ (by decide) (by decide); have e9 : v26_4 = (tw_t1 (tw_tsl s0 (Int.toNat v4_3))) 0 4 := by omega; rw [e9])
            refine q_ald_n cx dX10_passTicks_51 rfl (lv_at hl 0 rfl) ?_
            refine q_iconst cx dX10_passTicks_52 ?_
            refine q_pX10_249 cx hB hv0 kv0 ⟨by decide, by decide⟩ (by decide) (by decide) rfl dX10_passTicks_53 (fun H locs f1174 ef1174 z1175 hB => ?_)
            have z1176 : q_is (q_z f1174 v0 3) nn := by rw [ef1174, q_setz (Or.inr (by decide))]; exact hj_v0_3
            have z1177 : q_is (q_z f1174 v0 4) ln := by rw [ef1174, q_setz (Or.inr (by decide))]; exact hj_v0_4
            have z1178 : q_is (q_z f1174 v0 5) mn := by rw [ef1174, q_setz (Or.inr (by decide))]; exact hj_v0_5
            have z1179 : q_is (q_z f1174 v0 11) w26_v0_11 := by rw [ef1174, q_setz (Or.inr (by decide))]; exact hj_v0_11
            have z1180 : q_ir (q_r f1174 v0 0) n0 := by rw [ef1174, q_setr (Or.inr (by decide))]; exact hq_v0_0
            have z1181 : q_ir (q_r f1174 v0 1) l0 := by rw [ef1174, q_setr (Or.inr (by decide))]; exact hq_v0_1
            have z1182 : q_ir (q_r f1174 v0 2) m0 := by rw [ef1174, q_setr (Or.inr (by decide))]; exact hq_v0_2
            have g1183 : tw_nw K L 5 f1174 := tw_nw_tr hz026 (fun a9 h9 k9 => by rw [ef1174, q_setj (Or.inl (fun q => by rw [q, kv0] at k9; exact absurd k9 (by decide)))])
            have g1184 : tw_vw K L 10 5 3 4 f1174 v0 n0 l0 m0 d0 (tw_u (tw_mml (tw_t1 (tw_tsl s0 (Int.toNat v4_3))) (Int.toNat ((tw_t1 (tw_tsl s0 (Int.toNat v4_3))) 0 4))) 0 14 0) := tw_vw_s hv51 (tw_v0 hw0) (by omega) (by omega) ef1174 z1175 (fun i9 => by rw [ef1174, q_setr (Or.inl (fun q => by rw [q, kv0] at kn0; exact absurd kn0 (by decide)))]) (fun i9 => by rw [ef1174, q_setr (Or.inl (fun q => by rw [q, kv0] at kl0; exact absurd kl0 (by decide)))]) (fun i9 => by rw [ef1174, q_setr (Or.inl (fun q => by rw [q, kv0] at km0; exact absurd km0 (by decide)))])
            refine q_ald_n cx dX10_passTicks_56 rfl (lv_at hl 0 rfl) ?_
            refine q_iconst cx dX10_passTicks_57 ?_
            refine q_pX10_252 cx hB hv0 kv0 ⟨by decide, by decide⟩ (by decide) (by decide) rfl dX10_passTicks_58 (fun H locs f1185 ef1185 z1186 hB => ?_)
            have z1187 : q_is (q_z f1185 v0 3) nn := by rw [ef1185, q_setz (Or.inr (by decide))]; exact z1176
            have z1188 : q_is (q_z f1185 v0 4) ln := by rw [ef1185, q_setz (Or.inr (by decide))]; exact z1177
            have z1189 : q_is (q_z f1185 v0 5) mn := by rw [ef1185, q_setz (Or.inr (by decide))]; exact z1178
            have z1190 : q_is (q_z f1185 v0 11) w26_v0_11 := by rw [ef1185, q_setz (Or.inr (by decide))]; exact z1179
            have z1191 : q_is (q_z f1185 v0 14) 0 := by rw [ef1185, q_setz (Or.inr (by decide))]; exact z1175
            have z1192 : q_ir (q_r f1185 v0 0) n0 := by rw [ef1185, q_setr (Or.inr (by decide))]; exact z1180
            have z1193 : q_ir (q_r f1185 v0 1) l0 := by rw [ef1185, q_setr (Or.inr (by decide))]; exact z1181
            have z1194 : q_ir (q_r f1185 v0 2) m0 := by rw [ef1185, q_setr (Or.inr (by decide))]; exact z1182
            have g1195 : tw_nw K L 5 f1185 := tw_nw_tr g1183 (fun a9 h9 k9 => by rw [ef1185, q_setj (Or.inl (fun q => by rw [q, kv0] at k9; exact absurd k9 (by decide)))])
            have g1196 : tw_vw K L 10 5 3 4 f1185 v0 n0 l0 m0 d0 (tw_u (tw_u (tw_mml (tw_t1 (tw_tsl s0 (Int.toNat v4_3))) (Int.toNat ((tw_t1 (tw_tsl s0 (Int.toNat v4_3))) 0 4))) 0 14 0) 0 15 0) := tw_vw_s g1184 (tw_v0 hw0) (by omega) (by omega) ef1185 z1186 (fun i9 => by rw [ef1185, q_setr (Or.inl (fun q => by rw [q, kv0] at kn0; exact absurd kn0 (by decide)))]) (fun i9 => by rw [ef1185, q_setr (Or.inl (fun q => by rw [q, kv0] at kl0; exact absurd kl0 (by decide)))]) (fun i9 => by rw [ef1185, q_setr (Or.inl (fun q => by rw [q, kv0] at km0; exact absurd km0 (by decide)))])
            refine q_ild_n cx dX10_passTicks_61 rfl (lv_at hl 2 rfl) ?_
            refine q_ald_n cx dX10_passTicks_62 rfl (lv_at hl 0 rfl) ?_
            refine q_iconst cx dX10_passTicks_63 ?_
            refine q_cVi (As := [.int (q_i 1)]) (rest := [.int (q_i v26_2)]) cx hB (fun _ h => h) hN hv0 kv0 (by decide) rfl (f_passMessages0 l g hN hB.2.1 d0 (tw_u (tw_u (tw_mml (tw_t1 (tw_tsl s0 (Int.toNat v4_3))) (Int.toNat ((tw_t1 (tw_tsl s0 (Int.toNat v4_3))) 0 4))) 0 14 0) 0 15 0) v0 hv0 kv0 1 (by decide) (by decide) n0 hn0 kn0 l0 hl0 kl0 m0 hm0 km0 nn (by omega) (by omega) mn (by omega) (by omega) z1187 z1189 z1192 z1193 z1194 g1196) q_cX10_255 q_dX10_passMessages (by decide) rfl rfl hl.1 rfl (Nat.le_of_ble_eq_true rfl) dX10_passTicks_64 (fun y1198 H locs f1197 ry1198 h1199 hF hB => ?_)
            obtain ⟨ly1198, uy1198, t1200, g1201⟩ := h1199
            have z1202 : q_is (q_z f1197 v0 3) nn := Eq.trans (hF.z hv0 (by rw [kv0]; rfl)) z1187
            have z1203 : q_is (q_z f1197 v0 4) ln := Eq.trans (hF.z hv0 (by rw [kv0]; rfl)) z1188
            have z1204 : q_is (q_z f1197 v0 5) mn := Eq.trans (hF.z hv0 (by rw [kv0]; rfl)) z1189
            have z1205 : q_is (q_z f1197 v0 11) w26_v0_11 := Eq.trans (hF.z hv0 (by rw [kv0]; rfl)) z1190
            have z1206 : q_ir (q_r f1197 v0 0) n0 := Eq.trans (hF.r hv0 (by rw [kv0]; rfl)) z1192
            have z1207 : q_ir (q_r f1197 v0 1) l0 := Eq.trans (hF.r hv0 (by rw [kv0]; rfl)) z1193
            have z1208 : q_ir (q_r f1197 v0 2) m0 := Eq.trans (hF.r hv0 (by rw [kv0]; rfl)) z1194
            have g1209 : tw_nw K L 5 f1197 := tw_nw_tr g1195 (fun a9 h9 k9 => hF.j h9 (by rw [k9]; rfl))
            refine q_ald_n cx dX10_passTicks_67 rfl (lv_at hl 0 rfl) ?_
            refine q_iconst cx dX10_passTicks_68 ?_
            refine q_cVi (As := [.int (q_i 0)]) (rest := [.int (q_i y1198), .int (q_i v26_2)]) cx hB (fun _ h => h) hN hv0 kv0 (by decide) rfl (f_passMessages0 l g hN hB.2.1 d0 (tw_pm (tw_u (tw_u (tw_mml (tw_t1 (tw_tsl s0 (Int.toNat v4_3))) (Int.toNat ((tw_t1 (tw_tsl s0 (Int.toNat v4_3))) 0 4))) 0 14 0) 0 15 0) 1) v0 hv0 kv0 0 (by decide) (by decide) n0 hn0 kn0 l0 hl0 kl0 m0 hm0 km0 nn (by omega) (by omega) mn (by omega) (by omega) z1202 z1204 z1206 z1207 z1208 g1201) q_cX10_255 q_dX10_passMessages (by decide) rfl rfl hl.1 rfl (Nat.le_of_ble_eq_true rfl) dX10_passTicks_69 (fun y1211 H locs f1210 ry1211 h1212 hF hB => ?_)
            obtain ⟨ly1211, uy1211, t1213, g1214⟩ := h1212
            have z1215 : q_is (q_z f1210 v0 3) nn := Eq.trans (hF.z hv0 (by rw [kv0]; rfl)) z1202
            have z1216 : q_is (q_z f1210 v0 4) ln := Eq.trans (hF.z hv0 (by rw [kv0]; rfl)) z1203
            have z1217 : q_is (q_z f1210 v0 5) mn := Eq.trans (hF.z hv0 (by rw [kv0]; rfl)) z1204
            have z1218 : q_is (q_z f1210 v0 11) w26_v0_11 := Eq.trans (hF.z hv0 (by rw [kv0]; rfl)) z1205
            have z1219 : q_ir (q_r f1210 v0 0) n0 := Eq.trans (hF.r hv0 (by rw [kv0]; rfl)) z1206
            have z1220 : q_ir (q_r f1210 v0 1) l0 := Eq.trans (hF.r hv0 (by rw [kv0]; rfl)) z1207
            have z1221 : q_ir (q_r f1210 v0 2) m0 := Eq.trans (hF.r hv0 (by rw [kv0]; rfl)) z1208
            have g1222 : tw_nw K L 5 f1210 := tw_nw_tr g1209 (fun a9 h9 k9 => hF.j h9 (by rw [k9]; rfl))
            refine q_iadd cx dX10_passTicks_72 ?_
            refine q_iadd cx dX10_passTicks_73 ?_
            refine lv_istore_n (lv' := [(2, .int (q_i (v26_2 + (y1198 + y1211)))), (0, .ref v0), (1, .int (q_i v26_1)), (3, .int (q_i v26_3)), (4, .int (q_i v26_4))]) cx.1 cx.2.1 dX10_passTicks_74 rfl hl (by decide) rfl (fun ls hl => ?_)
            refine q_ald_n cx dX10_passTicks_75 rfl (lv_at hl 1 rfl) ?_
            refine q_cVv (As := []) (rest := []) cx hB (fun _ h => h) hN hv0 kv0 (by decide) rfl (f_loseMessages0 l g hN hB.2.1 d0 (tw_pm (tw_pm (tw_u (tw_u (tw_mml (tw_t1 (tw_tsl s0 (Int.toNat v4_3))) (Int.toNat ((tw_t1 (tw_tsl s0 (Int.toNat v4_3))) 0 4))) 0 14 0) 0 15 0) 1) 0) v0 hv0 kv0 n0 hn0 kn0 l0 hl0 kl0 m0 hm0 km0 mn (by omega) (by omega) z1217 z1219 z1220 z1221 g1214) q_cX10_259 q_dX10_loseMessages (by decide) rfl rfl hl.1 rfl (Nat.le_of_ble_eq_true rfl) dX10_passTicks_76 (fun H locs f1223 h1225 hF hB => ?_)
            have g1226 := h1225
            have z1227 : q_is (q_z f1223 v0 3) nn := Eq.trans (hF.z hv0 (by rw [kv0]; rfl)) z1215
            have z1228 : q_is (q_z f1223 v0 4) ln := Eq.trans (hF.z hv0 (by rw [kv0]; rfl)) z1216
            have z1229 : q_is (q_z f1223 v0 5) mn := Eq.trans (hF.z hv0 (by rw [kv0]; rfl)) z1217
            have z1230 : q_is (q_z f1223 v0 11) w26_v0_11 := Eq.trans (hF.z hv0 (by rw [kv0]; rfl)) z1218
            have z1231 : q_ir (q_r f1223 v0 0) n0 := Eq.trans (hF.r hv0 (by rw [kv0]; rfl)) z1219
            have z1232 : q_ir (q_r f1223 v0 1) l0 := Eq.trans (hF.r hv0 (by rw [kv0]; rfl)) z1220
            have z1233 : q_ir (q_r f1223 v0 2) m0 := Eq.trans (hF.r hv0 (by rw [kv0]; rfl)) z1221
            have g1234 : tw_nw K L 5 f1223 := tw_nw_tr g1222 (fun a9 h9 k9 => hF.j h9 (by rw [k9]; rfl))
            refine q_iinc (lv' := [(3, .int (q_i (v26_3 + 1))), (2, .int (q_i (v26_2 + (y1198 + y1211)))), (0, .ref v0), (1, .int (q_i v26_1)), (4, .int (q_i v26_4))]) cx dX10_passTicks_79 hl (k := 3) rfl (by decide) rfl (fun ls hl => ?_)
            refine lv_goto (tgt := 4) cx.1 cx.2.1 dX10_passTicks_82 (by decide) ?_
            exact ih4 f1223 v26_1 (by omega) (by omega) (v26_2 + (y1198 + y1211)) (by omega) (by omega) (v26_3 + 1) (by omega) (by omega) w26_v0_11 (by omega) (by omega) z1227 z1228 z1229 z1230 z1231 z1232 z1233 g1234 (by omega) (by omega) (by omega) (tw_cg g1226 (by have t0_ : x1171 = (tw_mml (tw_t1 (tw_tsl s0 (Int.toNat v4_3))) (Int.toNat v26_4)) 0 4 := sx1171; have t1_ : y1198 = tw_pn (tw_u (tw_u (tw_mml (tw_t1 (tw_tsl s0 (Int.toNat v4_3))) (Int.toNat ((tw_t1 (tw_tsl s0 (Int.toNat v4_3))) 0 4))) 0 14 0) 0 15 0) 1 := t1200; have t2_ : y1211 = tw_pn (tw_pm (tw_u (tw_u (tw_mml (tw_t1 (tw_tsl s0 (Int.toNat v4_3))) (Int.toNat ((tw_t1 (tw_tsl s0 (Int.toNat v4_3))) 0 4))) 0 14 0) 0 15 0) 1) 0 := t1213; (try simp only [t0_, t1_, t2_]); rw [tw_tsl_s (by omega)]; (repeat' split) <;> first | rfl | (exfalso; omega))) (by have t0_ : x1171 = (tw_mml (tw_t1 (tw_tsl s0 (Int.toNat v4_3))) (Int.toNat v26_4)) 0 4 := sx1171; have t1_ : y1198 = tw_pn (tw_u (tw_u (tw_mml (tw_t1 (tw_tsl s0 (Int.toNat v4_3))) (Int.toNat ((tw_t1 (tw_tsl s0 (Int.toNat v4_3))) 0 4))) 0 14 0) 0 15 0) 1 := t1200; have t2_ : y1211 = tw_pn (tw_pm (tw_u (tw_u (tw_mml (tw_t1 (tw_tsl s0 (Int.toNat v4_3))) (Int.toNat ((tw_t1 (tw_tsl s0 (Int.toNat v4_3))) 0 4))) 0 14 0) 0 15 0) 1) 0 := t1213; (try simp only [t0_, t1_, t2_]); rw [tw_tcl_s (by omega)]; (repeat' split) <;> first | rfl | (exfalso; omega)) (by omega) H locs hB ls (lv_sub hl [2, 3, 1, 0] rfl)
          · refine q_ald_n cx dX10_passTicks_35 rfl (lv_at hl 0 rfl) ?_
            refine q_ald_n cx dX10_passTicks_36 rfl (lv_at hl 0 rfl) ?_
            refine lv_iload cx.1 cx.2.1 dX10_passTicks_37 (lv_at hl 4 rfl) ?_
            refine q_cVr (As := [.int (q_i v26_4)]) (rest := [.ref v0]) cx hB (fun _ h => h) hN hv0 kv0 (by decide) rfl (f_linkAt0 l g hN hB.2.1 d0 (tw_mml (tw_t1 (tw_tsl s0 (Int.toNat v4_3))) (Int.toNat v26_4)) v0 hv0 kv0 v26_4 (by omega) (by omega) n0 hn0 kn0 l0 hl0 kl0 m0 hm0 km0 hq_v0_0 hq_v0_1 hq_v0_2 hvv) q_cX10_74 q_dX10_linkAt (by decide) rfl rfl hl.1 rfl (Nat.le_of_ble_eq_true rfl) dX10_passTicks_39 (fun y1236 H locs f1235 h1237 hF hB => ?_)
            obtain ⟨rfl, hy1236, ky1236, t1238⟩ := h1237
            refine q_cVv (As := [.ref y1236]) (rest := []) cx hB (fun _ h => h) hN hv0 kv0 (by decide) rfl (f_meetOrMiss0 l g hN hB.2.1 d0 (tw_mml (tw_t1 (tw_tsl s0 (Int.toNat v4_3))) (Int.toNat v26_4)) v0 hv0 kv0 y1236 hy1236 ky1236 n0 hn0 kn0 l0 hl0 kl0 m0 hm0 km0 v26_4 (by omega) (by omega) hq_v0_0 hq_v0_1 hq_v0_2 t1238 hvv) q_cX10_246 q_dX10_meetOrMiss (by decide) rfl rfl hl.1 rfl (Nat.le_of_ble_eq_true rfl) dX10_passTicks_42 (fun H locs f1239 h1241 hF hB => ?_)
            have g1242 := h1241
            have z1243 : q_is (q_z f1239 v0 3) nn := Eq.trans (hF.z hv0 (by rw [kv0]; rfl)) hj_v0_3
            have z1244 : q_is (q_z f1239 v0 4) ln := Eq.trans (hF.z hv0 (by rw [kv0]; rfl)) hj_v0_4
            have z1245 : q_is (q_z f1239 v0 5) mn := Eq.trans (hF.z hv0 (by rw [kv0]; rfl)) hj_v0_5
            have z1246 : q_is (q_z f1239 v0 11) w26_v0_11 := Eq.trans (hF.z hv0 (by rw [kv0]; rfl)) hj_v0_11
            have z1247 : q_ir (q_r f1239 v0 0) n0 := Eq.trans (hF.r hv0 (by rw [kv0]; rfl)) hq_v0_0
            have z1248 : q_ir (q_r f1239 v0 1) l0 := Eq.trans (hF.r hv0 (by rw [kv0]; rfl)) hq_v0_1
            have z1249 : q_ir (q_r f1239 v0 2) m0 := Eq.trans (hF.r hv0 (by rw [kv0]; rfl)) hq_v0_2
            have g1250 : tw_nw K L 5 f1239 := tw_nw_tr hz026 (fun a9 h9 k9 => hF.j h9 (by rw [k9]; rfl))
            refine q_iinc (lv' := [(4, .int (q_i (v26_4 + 1))), (0, .ref v0), (1, .int (q_i v26_1)), (2, .int (q_i v26_2)), (3, .int (q_i v26_3))]) cx dX10_passTicks_45 hl (k := 4) rfl (by decide) rfl (fun ls hl => ?_)
            refine lv_goto (tgt := 26) cx.1 cx.2.1 dX10_passTicks_48 (by decide) ?_
            exact ih26 f1239 v26_1 (by omega) (by omega) v26_2 (by omega) (by omega) v26_3 (by omega) (by omega) (v26_4 + 1) (by omega) (by omega) w26_v0_11 (by omega) (by omega) (by omega) (by omega) (by omega) z1243 z1244 z1245 z1246 z1247 z1248 z1249 g1250 (by omega) (tw_cg g1242 (by have t0_ : x1171 = (tw_mml (tw_t1 (tw_tsl s0 (Int.toNat v4_3))) (Int.toNat v26_4)) 0 4 := sx1171; (try simp only [t0_]); rw [tw_mml_s (by omega)]; (repeat' split) <;> first | rfl | (exfalso; omega))) (by omega) H locs hB ls (lv_sub hl [1, 2, 3, 4, 0] rfl)
      refine q_ild_n cx dX10_passTicks_4 rfl (lv_at hl 3 rfl) ?_
      refine q_ild_n cx dX10_passTicks_5 rfl (lv_at hl 1 rfl) ?_
      refine q_icge (tgt := 85) cx ⟨by omega, by omega⟩ ⟨by omega, by omega⟩ dX10_passTicks_6 (by decide) (fun c1251 => ?_) (fun c1251 => ?_)
      · refine q_ild_n cx dX10_passTicks_85 rfl (lv_at hl 2 rfl) ?_
        refine q_iret cx hr hlk hB dX10_passTicks_86 ⟨by omega, by omega⟩ ?_
        exact ⟨(by omega), (by omega), (Eq.trans hj_v0_11 (by omega)), (by have e9 : v4_3 = p0 := by omega; rw [hac, e9]), (tw_cg hvw (by have e9 : v4_3 = p0 := by omega; rw [e9])), hz04⟩
      · refine q_ald_n cx dX10_passTicks_9 rfl (lv_at hl 0 rfl) ?_
        refine lv_dup cx.1 cx.2.1 dX10_passTicks_10 rfl ?_
        obtain ⟨x1252, ex1252, nx1252⟩ : ∃ zz, q_is (q_z f4 v0 11) zz ∧ zz = w4_v0_11 := ⟨_, hj_v0_11, rfl⟩
        have sx1252 : q_is x1252 ((tw_tsl s0 (Int.toNat v4_3)) 0 11) := tw_g hvw (tw_v0 hw0) (by omega) (by omega) ex1252
        refine q_gX10_60 cx hB hv0 kv0 ex1252 dX10_passTicks_11 (fun lb1253 ub1253 => ?_)
        refine q_iconst cx dX10_passTicks_14 ?_
        refine q_iadd cx dX10_passTicks_15 ?_
        refine q_pX10_60 cx hB hv0 kv0 ⟨by omega, by omega⟩ (by omega) (by omega) rfl dX10_passTicks_16 (fun H locs f1254 ef1254 z1255 hB => ?_)
        have z1256 : q_is (q_z f1254 v0 3) nn := by rw [ef1254, q_setz (Or.inr (by decide))]; exact hj_v0_3
        have z1257 : q_is (q_z f1254 v0 4) ln := by rw [ef1254, q_setz (Or.inr (by decide))]; exact hj_v0_4
        have z1258 : q_is (q_z f1254 v0 5) mn := by rw [ef1254, q_setz (Or.inr (by decide))]; exact hj_v0_5
        have z1259 : q_ir (q_r f1254 v0 0) n0 := by rw [ef1254, q_setr (Or.inr (by decide))]; exact hq_v0_0
        have z1260 : q_ir (q_r f1254 v0 1) l0 := by rw [ef1254, q_setr (Or.inr (by decide))]; exact hq_v0_1
        have z1261 : q_ir (q_r f1254 v0 2) m0 := by rw [ef1254, q_setr (Or.inr (by decide))]; exact hq_v0_2
        have g1262 : tw_nw K L 5 f1254 := tw_nw_tr hz04 (fun a9 h9 k9 => by rw [ef1254, q_setj (Or.inl (fun q => by rw [q, kv0] at k9; exact absurd k9 (by decide)))])
        have g1263 : tw_vw K L 10 5 3 4 f1254 v0 n0 l0 m0 d0 (tw_u (tw_tsl s0 (Int.toNat v4_3)) 0 11 (x1252 + 1)) := tw_vw_s hvw (tw_v0 hw0) (by omega) (by omega) ef1254 z1255 (fun i9 => by rw [ef1254, q_setr (Or.inl (fun q => by rw [q, kv0] at kn0; exact absurd kn0 (by decide)))]) (fun i9 => by rw [ef1254, q_setr (Or.inl (fun q => by rw [q, kv0] at kl0; exact absurd kl0 (by decide)))]) (fun i9 => by rw [ef1254, q_setr (Or.inl (fun q => by rw [q, kv0] at km0; exact absurd km0 (by decide)))])
        refine q_ald_n cx dX10_passTicks_19 rfl (lv_at hl 0 rfl) ?_
        refine q_cVv (As := []) (rest := []) cx hB (fun _ h => h) hN hv0 kv0 (by decide) rfl (f_wakeNodes0 l g hN hB.2.1 d0 (tw_u (tw_tsl s0 (Int.toNat v4_3)) 0 11 (x1252 + 1)) v0 hv0 kv0 n0 hn0 kn0 l0 hl0 kl0 m0 hm0 km0 (x1252 + 1) (by omega) (by omega) nn (by omega) (by omega) z1255 z1256 z1259 z1260 z1261 g1263 g1262) q_cX10_243 q_dX10_wakeNodes (by decide) rfl rfl hl.1 rfl (Nat.le_of_ble_eq_true rfl) dX10_passTicks_20 (fun H locs f1264 h1266 hF hB => ?_)
        have g1267 := h1266
        have z1268 : q_is (q_z f1264 v0 3) nn := Eq.trans (hF.z hv0 (by rw [kv0]; rfl)) z1256
        have z1269 : q_is (q_z f1264 v0 4) ln := Eq.trans (hF.z hv0 (by rw [kv0]; rfl)) z1257
        have z1270 : q_is (q_z f1264 v0 5) mn := Eq.trans (hF.z hv0 (by rw [kv0]; rfl)) z1258
        have z1271 : q_is (q_z f1264 v0 11) (x1252 + 1) := Eq.trans (hF.z hv0 (by rw [kv0]; rfl)) z1255
        have z1272 : q_ir (q_r f1264 v0 0) n0 := Eq.trans (hF.r hv0 (by rw [kv0]; rfl)) z1259
        have z1273 : q_ir (q_r f1264 v0 1) l0 := Eq.trans (hF.r hv0 (by rw [kv0]; rfl)) z1260
        have z1274 : q_ir (q_r f1264 v0 2) m0 := Eq.trans (hF.r hv0 (by rw [kv0]; rfl)) z1261
        have g1275 : tw_nw K L 5 f1264 := tw_nw_tr g1262 (fun a9 h9 k9 => hF.j h9 (by rw [k9]; rfl))
        refine q_iconst cx dX10_passTicks_23 ?_
        refine lv_istore (lv' := [(4, .int (q_i 0)), (0, .ref v0), (1, .int (q_i v4_1)), (2, .int (q_i v4_2)), (3, .int (q_i v4_3))]) cx.1 cx.2.1 dX10_passTicks_24 hl (by decide) rfl (fun ls hl => ?_)
        exact J26 ((Int.toNat (2147483647 - 0)) + 1) f1264 v4_1 (by omega) (by omega) v4_2 (by omega) (by omega) v4_3 (by omega) (by omega) 0 (by decide) (by decide) (x1252 + 1) (by omega) (by omega) (by omega) (by omega) (by omega) z1268 z1269 z1270 z1271 z1272 z1273 z1274 g1275 (by omega) (tw_cg g1267 (by have t0_ : v4_2 = tw_tcl s0 (Int.toNat v4_3) := hac; have t1_ : x1252 = (tw_tsl s0 (Int.toNat v4_3)) 0 11 := sx1252; (try simp only [t0_, t1_]); rfl)) (Nat.lt_succ_self _) H locs hB ls (lv_sub hl [1, 2, 3, 4, 0] rfl)
  obtain ⟨H, hH⟩ : ∃ H : Heap, H = s.heap := ⟨_, rfl⟩
  obtain ⟨locs, hlocs⟩ : ∃ z : List Loc, z = [] := ⟨_, rfl⟩
  rw [← hH, ← hlocs] at hB
  rw [← hH, ← hlocs]
  refine q_iconst cx dX10_passTicks_0 ?_
  refine lv_istore_n (lv' := [(2, .int (q_i 0)), (0, .ref v0), (1, .int (q_i p0))]) cx.1 cx.2.1 dX10_passTicks_1 rfl hl (by decide) rfl (fun ls hl => ?_)
  refine q_iconst cx dX10_passTicks_2 ?_
  refine lv_istore_n (lv' := [(3, .int (q_i 0)), (2, .int (q_i 0)), (0, .ref v0), (1, .int (q_i p0))]) cx.1 cx.2.1 dX10_passTicks_3 rfl hl (by decide) rfl (fun ls hl => ?_)
  exact J4 ((Int.toNat (2147483647 - 0)) + 1) f p0 (by omega) (by omega) 0 (by decide) (by decide) 0 (by decide) (by decide) tm (by omega) (by omega) hf1 hf2 hf3 hf0 hr0 hr1 hr2 hz0 (by omega) (by omega) (by omega) (tw_cg hw0 rfl) rfl (Nat.lt_succ_self _) H locs hB ls (lv_sub hl [2, 3, 1, 0] rfl)
