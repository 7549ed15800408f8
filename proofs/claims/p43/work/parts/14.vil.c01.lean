set_option maxHeartbeats 4000000 in
set_option maxRecDepth 100000 in
theorem f_wakeNodes3 (l : Launch) (g : q_G) {K : Nat → Nat} {L : List Nat} (hN : L.Nodup) {f : Nat → va_E} (hT : q_Ty g K L f) (d3 : Nat → Nat) (s3 : tw_S) (v3 : Nat) (hv3 : v3 ∈ L) (kv3 : K v3 = 15) (n3 : Nat) (hn3 : n3 ∈ L) (kn3 : K n3 = 113) (l3 : Nat) (hl3 : l3 ∈ L) (kl3 : K l3 = 123) (m3 : Nat) (hm3 : m3 ∈ L) (km3 : K m3 = 133) (tm : Int) (ltm : 0 ≤ tm) (utm : tm ≤ 20000) (nn : Int) (lnn : 0 ≤ nn) (unn : nn ≤ 10) (hf0 : q_is (q_z f v3 11) tm) (hf1 : q_is (q_z f v3 3) nn) (hr0 : q_ir (q_r f v3 0) n3) (hr1 : q_ir (q_r f v3 1) l3) (hr2 : q_ir (q_r f v3 2) m3) (hw3 : tw_vw K L 15 19 23 27 f v3 n3 l3 m3 d3 s3) (hz3 : tw_nw K L 19 f) : q_Ct l g K L yX10_wakeNodes cX10_wakeNodes 3 none 3 67 [.ref v3] f [(15, 13, 13), (19, 4, 4), (19, 6, 6), (19, 9, 9)] (q_Pv (fun (f1 : Nat → va_E) => (tw_vw K L 15 19 23 27 f1 v3 n3 l3 m3 d3 (tw_wk s3)))) := by
  refine q_ofb (by decide +kernel) hN hT (Nat.le_of_ble_eq_true rfl) ?_
  intro p e s m below meth c ls cx hr hlk hB hl
  have hl : lv_has ls 3 [(0, .ref v3)] := hl
  have J7 : ∀ (n : Nat) (f7 : Nat → va_E) (v7_1 : Int) (lv7_1 : 0 ≤ v7_1) (uv7_1 : v7_1 ≤ 10) (hj_v3_11 : q_is (q_z f7 v3 11) tm) (hj_v3_3 : q_is (q_z f7 v3 3) nn) (hq_v3_0 : q_ir (q_r f7 v3 0) n3) (hq_v3_1 : q_ir (q_r f7 v3 1) l3) (hq_v3_2 : q_ir (q_r f7 v3 2) m3) (hz37 : tw_nw K L 19 f7) (hrl7_0 : 0 ≤ 1 * nn + -1 * v7_1 + 0) (hvw : tw_vw K L 15 19 23 27 f7 v3 n3 l3 m3 d3 (tw_wkl s3 (Int.toNat v7_1))) (hmu : (Int.toNat (2147483647 - v7_1)) < n) (H : Heap) (locs : List Loc) (hB : q_B g K L (fun q => q ∈ L) [(15, 13, 13), (19, 4, 4), (19, 6, 6), (19, 9, 9)] f f7 s H locs) (ls : Array Slot) (hl : lv_has ls 3 [(0, .ref v3), (1, .int (q_i v7_1))]), W p l e { frames := 3, cells := 0, slots := 0, locals := 67 } s m ([.ref v3] : List Value).toArray below meth c H locs 0 0 (MQ below (q_Q g K L [(15, 13, 13), (19, 4, 4), (19, 6, 6), (19, 9, 9)] f (q_Pv (fun (f1 : Nat → va_E) => (tw_vw K L 15 19 23 27 f1 v3 n3 l3 m3 d3 (tw_wk s3))))) ([.ref v3] : List Value).toArray s 0 0 (fun q => q ∈ L)) (F0 m 7 ls []) := by
    intro n
    induction n with
    | zero =>
      intro f7 v7_1 lv7_1 uv7_1 hj_v3_11 hj_v3_3 hq_v3_0 hq_v3_1 hq_v3_2 hz37 hrl7_0 hvw hmu
      exact absurd hmu (Nat.not_lt_zero _)
    | succ n ih7 =>
      intro f7 v7_1 lv7_1 uv7_1 hj_v3_11 hj_v3_3 hq_v3_0 hq_v3_1 hq_v3_2 hz37 hrl7_0 hvw hmu H locs hB ls hl
      refine q_ild_n cx dX10_wakeNodes_7 rfl (lv_at hl 1 rfl) ?_
      refine q_ald_n cx dX10_wakeNodes_8 rfl (lv_at hl 0 rfl) ?_
      obtain ⟨x860, ex860, nx860⟩ : ∃ zz, q_is (q_z f7 v3 3) zz ∧ zz = nn := ⟨_, hj_v3_3, rfl⟩
      have sx860 : q_is x860 ((tw_wkl s3 (Int.toNat v7_1)) 0 3) := tw_g hvw (tw_v0 hw3) (by omega) (by omega) ex860
      refine q_gX10_35_15 cx hB hv3 kv3 ex860 dX10_wakeNodes_9 (fun lb861 ub861 => ?_)
      refine q_icge (tgt := 90) cx ⟨by omega, by omega⟩ ⟨by omega, by omega⟩ dX10_wakeNodes_12 (by decide) (fun c862 => ?_) (fun c862 => ?_)
      · refine q_vret cx hr hlk hB dX10_wakeNodes_90 ?_
        exact (tw_cg hvw (by have t0_ : x860 = (tw_wkl s3 (Int.toNat v7_1)) 0 3 := sx860; have e8 : tw_wkl s3 (Int.toNat v7_1) 0 3 = s3 0 3 := tw_wkl_c _ _ (by decide) (by decide); have e9 : v7_1 = s3 0 3 := by omega; rw [e9]; rfl))
      · refine q_ald_n cx dX10_wakeNodes_15 rfl (lv_at hl 0 rfl) ?_
        refine q_ild_n cx dX10_wakeNodes_16 rfl (lv_at hl 1 rfl) ?_
        refine q_cVr (As := [.int (q_i v7_1)]) (rest := []) cx hB (fun _ h => h) hN hv3 kv3 (by decide) rfl (f_nodeAt3 l g hN hB.2.1 d3 (tw_wkl s3 (Int.toNat v7_1)) v3 hv3 kv3 v7_1 (by omega) (by omega) n3 hn3 kn3 l3 hl3 kl3 m3 hm3 km3 hq_v3_0 hq_v3_1 hq_v3_2 hvw) q_cX10_66 q_dX10_nodeAt (by decide) rfl rfl hl.1 rfl (Nat.le_of_ble_eq_true rfl) dX10_wakeNodes_17 (fun y864 H locs f863 h865 hF hB => ?_)
        obtain ⟨rfl, hy864, ky864, t866⟩ := h865
        refine lv_astore_n (lv' := [(2, .ref y864), (0, .ref v3), (1, .int (q_i v7_1))]) cx.1 cx.2.1 dX10_wakeNodes_20 rfl hl (by decide) rfl (fun ls hl => ?_)
        refine q_ald_n cx dX10_wakeNodes_21 rfl (lv_at hl 0 rfl) ?_
        refine q_ald_n cx dX10_wakeNodes_22 rfl (lv_at hl 1 rfl) ?_
        refine q_ild_n cx dX10_wakeNodes_23 rfl (lv_at hl 2 rfl) ?_
        refine q_cVi (As := [.int (q_i v7_1)]) (rest := [.ref y864]) cx hB (fun _ h => h) hN hv3 kv3 (by decide) rfl (f_dayOf3 l g hN hB.2.1 d3 (tw_wkl s3 (Int.toNat v7_1)) v3 hv3 kv3 v7_1 (by omega) (by omega) n3 hn3 kn3 l3 hl3 kl3 m3 hm3 km3 tm (by omega) (by omega) hj_v3_11 hq_v3_0 hq_v3_1 hq_v3_2 hvw) q_cX10_178 q_dX10_dayOf (by decide) rfl rfl hl.1 rfl (Nat.le_of_ble_eq_true rfl) dX10_wakeNodes_24 (fun y868 H locs f867 ry868 h869 hF hB => ?_)
        obtain ⟨rfl, ly868, uy868, t870⟩ := h869
        refine q_pX10_265_19 cx hB hy864 ky864 ⟨by omega, by omega⟩ (by omega) (by omega) rfl dX10_wakeNodes_27 (fun H locs f871 ef871 z872 hB => ?_)
        have z873 : q_is (q_z f871 v3 11) tm := by rw [ef871, q_setz (Or.inr (by decide))]; exact hj_v3_11
        have z874 : q_is (q_z f871 v3 3) nn := by rw [ef871, q_setz (Or.inr (by decide))]; exact hj_v3_3
        have z875 : q_ir (q_r f871 v3 0) n3 := by rw [ef871, q_setr (Or.inr (by decide))]; exact hq_v3_0
        have z876 : q_ir (q_r f871 v3 1) l3 := by rw [ef871, q_setr (Or.inr (by decide))]; exact hq_v3_1
        have z877 : q_ir (q_r f871 v3 2) m3 := by rw [ef871, q_setr (Or.inr (by decide))]; exact hq_v3_2
        have g878 : tw_nw K L 19 f871 := tw_nw_tr hz37 (fun a9 h9 k9 => by rw [ef871, q_setj (Or.inr (by decide))])
        have g879 : tw_vw K L 15 19 23 27 f871 v3 n3 l3 m3 d3 (tw_u (tw_wkl s3 (Int.toNat v7_1)) (1 + Int.toNat v7_1) 9 y868) := tw_vw_s hvw t866 (by omega) (by omega) ef871 z872 (fun i9 => by rw [ef871, q_setr (Or.inl (fun q => by rw [q, ky864] at kn3; exact absurd kn3 (by decide)))]) (fun i9 => by rw [ef871, q_setr (Or.inl (fun q => by rw [q, ky864] at kl3; exact absurd kl3 (by decide)))]) (fun i9 => by rw [ef871, q_setr (Or.inl (fun q => by rw [q, ky864] at km3; exact absurd km3 (by decide)))])
        refine q_ald_n cx dX10_wakeNodes_30 rfl (lv_at hl 1 rfl) ?_
        refine q_ild_n cx dX10_wakeNodes_31 rfl (lv_at hl 2 rfl) ?_
        refine q_cVi (As := [.int (q_i v7_1)]) (rest := []) cx hB (fun _ h => h) hN hv3 kv3 (by decide) rfl (f_isAwake3 l g hN hB.2.1 d3 (tw_u (tw_wkl s3 (Int.toNat v7_1)) (1 + Int.toNat v7_1) 9 y868) v3 hv3 kv3 v7_1 (by omega) (by omega) n3 hn3 kn3 l3 hl3 kl3 m3 hm3 km3 tm (by omega) (by omega) nn (by omega) (by omega) z873 z874 z875 z876 z877 g879 g878) q_cX10_203 q_dX10_isAwake (by decide) rfl rfl hl.1 rfl (Nat.le_of_ble_eq_true rfl) dX10_wakeNodes_32 (fun y881 H locs f880 ry881 h882 hF hB => ?_)
        rcases h882 with h883 | h884
        · obtain ⟨rfl, qy881, t885⟩ := h883
          subst qy881
          refine q_ifeq (tgt := 84) cx ⟨by decide, by decide⟩ dX10_wakeNodes_35 (by decide) (fun c886 => ?_) (fun c886 => ?_)
          · exact absurd c886 (by omega)
          · refine q_ald_n cx dX10_wakeNodes_38 rfl (lv_at hl 0 rfl) ?_
            refine q_iconst cx dX10_wakeNodes_39 ?_
            refine q_ald_n cx dX10_wakeNodes_40 rfl (lv_at hl 0 rfl) ?_
            obtain ⟨x887, ex887⟩ : ∃ zz, q_is (q_z f871 y864 4) zz := ⟨_, q_isr _⟩
            obtain ⟨lx887, ux887⟩ := q_isb ex887 (q_fib hB.2.1 hy864 ky864 (by decide) rfl)
            obtain ⟨x888, ex888, nx888⟩ : ∃ zz, q_is (q_z f871 y864 4) zz ∧ zz = x887 := ⟨_, ex887, rfl⟩
            have sx888 : q_is x888 ((tw_u (tw_wkl s3 (Int.toNat v7_1)) (1 + Int.toNat v7_1) 9 y868) (1 + Int.toNat v7_1) 4) := tw_g g879 t866 (by omega) (by omega) ex888
            refine q_gX10_101_19 cx hB hy864 ky864 ex888 dX10_wakeNodes_41 (fun lb889 ub889 => ?_)
            refine q_ald_n cx dX10_wakeNodes_44 rfl (lv_at hl 1 rfl) ?_
            obtain ⟨x890, ex890⟩ : ∃ zz, q_is (q_z f871 v3 7) zz := ⟨_, q_isr _⟩
            obtain ⟨lx890, ux890⟩ := q_isb ex890 (q_fib hB.2.1 hv3 kv3 (by decide) rfl)
            obtain ⟨x891, ex891, nx891⟩ : ∃ zz, q_is (q_z f871 v3 7) zz ∧ zz = x890 := ⟨_, ex890, rfl⟩
            have sx891 : q_is x891 ((tw_u (tw_wkl s3 (Int.toNat v7_1)) (1 + Int.toNat v7_1) 9 y868) 0 7) := tw_g g879 (tw_v0 hw3) (by omega) (by omega) ex891
            refine q_gX10_48_15 cx hB hv3 kv3 ex891 dX10_wakeNodes_45 (fun lb892 ub892 => ?_)
            refine q_isub cx dX10_wakeNodes_48 ?_
            refine q_any (fun y893 ry893 ey893 => ?_)
            refine q_mmax (rest := [.ref y864]) cx hl.1 q_h1412 q_h976 q_h56 q_h977 (by decide) (Nat.le_of_ble_eq_true rfl) (by decide) (by decide) ⟨by decide, by decide⟩ ⟨by omega, by omega⟩ dX10_wakeNodes_49 (fun y894 ay894 by894 ey894 => ?_)
            refine q_pX10_101_19 cx hB hy864 ky864 ⟨by omega, by omega⟩ (by omega) (by omega) rfl dX10_wakeNodes_52 (fun H locs f895 ef895 z896 hB => ?_)
            have z897 : q_is (q_z f895 v3 11) tm := by rw [ef895, q_setz (Or.inr (by decide))]; exact z873
            have z898 : q_is (q_z f895 v3 3) nn := by rw [ef895, q_setz (Or.inr (by decide))]; exact z874
            have z899 : q_is (q_z f895 y864 9) y868 := by rw [ef895, q_setz (Or.inr (by decide))]; exact z872
            have z900 : q_is (q_z f895 v3 7) x890 := by rw [ef895, q_setz (Or.inr (by decide))]; exact ex890
            have z901 : q_ir (q_r f895 v3 0) n3 := by rw [ef895, q_setr (Or.inr (by decide))]; exact z875
            have z902 : q_ir (q_r f895 v3 1) l3 := by rw [ef895, q_setr (Or.inr (by decide))]; exact z876
            have z903 : q_ir (q_r f895 v3 2) m3 := by rw [ef895, q_setr (Or.inr (by decide))]; exact z877
            have g904 : tw_nw K L 19 f895 := tw_nw_tr g878 (fun a9 h9 k9 => by rw [ef895, q_setj (Or.inr (by decide))])
            have g905 : tw_vw K L 15 19 23 27 f895 v3 n3 l3 m3 d3 (tw_u (tw_u (tw_wkl s3 (Int.toNat v7_1)) (1 + Int.toNat v7_1) 9 y868) (1 + Int.toNat v7_1) 4 y894) := tw_vw_s g879 t866 (by omega) (by omega) ef895 z896 (fun i9 => by rw [ef895, q_setr (Or.inl (fun q => by rw [q, ky864] at kn3; exact absurd kn3 (by decide)))]) (fun i9 => by rw [ef895, q_setr (Or.inl (fun q => by rw [q, ky864] at kl3; exact absurd kl3 (by decide)))]) (fun i9 => by rw [ef895, q_setr (Or.inl (fun q => by rw [q, ky864] at km3; exact absurd km3 (by decide)))])
            refine q_ald_n cx dX10_wakeNodes_55 rfl (lv_at hl 0 rfl) ?_
            obtain ⟨x906, ex906, nx906⟩ : ∃ zz, q_is (q_z f895 y864 4) zz ∧ zz = y894 := ⟨_, z896, rfl⟩
            have sx906 : q_is x906 ((tw_u (tw_u (tw_wkl s3 (Int.toNat v7_1)) (1 + Int.toNat v7_1) 9 y868) (1 + Int.toNat v7_1) 4 y894) (1 + Int.toNat v7_1) 4) := tw_g g905 t866 (by omega) (by omega) ex906
            refine q_gX10_101_19 cx hB hy864 ky864 ex906 dX10_wakeNodes_56 (fun lb907 ub907 => ?_)
            refine q_ifle (tgt := 84) cx ⟨by omega, by omega⟩ dX10_wakeNodes_59 (by decide) (fun c908 => ?_) (fun c908 => ?_)
            · refine q_iinc (lv' := [(1, .int (q_i (v7_1 + 1))), (2, .ref y864), (0, .ref v3)]) cx dX10_wakeNodes_84 hl (k := 2) rfl (by decide) rfl (fun ls hl => ?_)
              refine lv_goto (tgt := 7) cx.1 cx.2.1 dX10_wakeNodes_87 (by decide) ?_
              exact ih7 f895 (v7_1 + 1) (by omega) (by omega) z897 z898 z901 z902 z903 g904 (by omega) (tw_cg g905 (by have t0_ : x860 = (tw_wkl s3 (Int.toNat v7_1)) 0 3 := sx860; have t1_ : y868 = tw_do (tw_wkl s3 (Int.toNat v7_1)) v7_1 := t870; have t2_ : x888 = (tw_u (tw_wkl s3 (Int.toNat v7_1)) (1 + Int.toNat v7_1) 9 (tw_do (tw_wkl s3 (Int.toNat v7_1)) v7_1)) (1 + Int.toNat v7_1) 4 := Eq.trans sx888 (by simp only [t1_]); have t3_ : x891 = (tw_u (tw_wkl s3 (Int.toNat v7_1)) (1 + Int.toNat v7_1) 9 (tw_do (tw_wkl s3 (Int.toNat v7_1)) v7_1)) 0 7 := Eq.trans sx891 (by simp only [t1_]); have t4_ : y893 = tw_w (((tw_u (tw_wkl s3 (Int.toNat v7_1)) (1 + Int.toNat v7_1) 9 (tw_do (tw_wkl s3 (Int.toNat v7_1)) v7_1)) (1 + Int.toNat v7_1) 4) - ((tw_u (tw_wkl s3 (Int.toNat v7_1)) (1 + Int.toNat v7_1) 9 (tw_do (tw_wkl s3 (Int.toNat v7_1)) v7_1)) 0 7)) := Eq.trans (tw_w_of ry893 ey893) (by simp only [t2_, t3_]); have t5_ : y894 = max 0 (tw_w (((tw_u (tw_wkl s3 (Int.toNat v7_1)) (1 + Int.toNat v7_1) 9 (tw_do (tw_wkl s3 (Int.toNat v7_1)) v7_1)) (1 + Int.toNat v7_1) 4) - ((tw_u (tw_wkl s3 (Int.toNat v7_1)) (1 + Int.toNat v7_1) 9 (tw_do (tw_wkl s3 (Int.toNat v7_1)) v7_1)) 0 7))) := Eq.trans (tw_mx ay894 by894 ey894) (by simp only [t4_]); have t6_ : x906 = (tw_u (tw_u (tw_wkl s3 (Int.toNat v7_1)) (1 + Int.toNat v7_1) 9 (tw_do (tw_wkl s3 (Int.toNat v7_1)) v7_1)) (1 + Int.toNat v7_1) 4 (max 0 (tw_w (((tw_u (tw_wkl s3 (Int.toNat v7_1)) (1 + Int.toNat v7_1) 9 (tw_do (tw_wkl s3 (Int.toNat v7_1)) v7_1)) (1 + Int.toNat v7_1) 4) - ((tw_u (tw_wkl s3 (Int.toNat v7_1)) (1 + Int.toNat v7_1) 9 (tw_do (tw_wkl s3 (Int.toNat v7_1)) v7_1)) 0 7))))) (1 + Int.toNat v7_1) 4 := Eq.trans sx906 (by simp only [t1_, t5_]); have u0_ : tw_aw (tw_u (tw_wkl s3 (Int.toNat v7_1)) (1 + Int.toNat v7_1) 9 (tw_do (tw_wkl s3 (Int.toNat v7_1)) v7_1)) v7_1 = 1 := (by have e9 := t885; simp only [t1_] at e9; exact e9); (try simp only [t0_, t1_, t2_, t3_, t4_, t5_, t6_]); rw [tw_wkl_s (by omega)]; unfold tw_wk1 tw_wk2; (repeat' split) <;> first | rfl | (exfalso; omega))) (by omega) H locs hB ls (lv_sub hl [2, 0] rfl)
            · refine q_ald_n cx dX10_wakeNodes_62 rfl (lv_at hl 1 rfl) ?_
              refine lv_dup cx.1 cx.2.1 dX10_wakeNodes_63 rfl ?_
              obtain ⟨x909, ex909⟩ : ∃ zz, q_is (q_z f895 v3 13) zz := ⟨_, q_isr _⟩
              obtain ⟨lx909, ux909⟩ := q_isb ex909 (q_fib hB.2.1 hv3 kv3 (by decide) rfl)
              obtain ⟨x910, ex910, nx910⟩ : ∃ zz, q_is (q_z f895 v3 13) zz ∧ zz = x909 := ⟨_, ex909, rfl⟩
              have sx910 : q_is x910 ((tw_u (tw_u (tw_wkl s3 (Int.toNat v7_1)) (1 + Int.toNat v7_1) 9 y868) (1 + Int.toNat v7_1) 4 y894) 0 13) := tw_g g905 (tw_v0 hw3) (by omega) (by omega) ex910
              refine q_gX10_262_15 cx hB hv3 kv3 ex910 dX10_wakeNodes_64 (fun lb911 ub911 => ?_)
              refine q_iconst cx dX10_wakeNodes_67 ?_
              refine q_ild_n cx dX10_wakeNodes_68 rfl (lv_at hl 2 rfl) ?_
              refine q_ishl cx dX10_wakeNodes_69 (fun y912 ry912 ey912 => ?_)
              refine q_ior cx dX10_wakeNodes_70 (fun y913 ry913 ey913 => ?_)
              refine q_pX10_262_15 cx hB hv3 kv3 ⟨by omega, by omega⟩ (by omega) (by omega) rfl dX10_wakeNodes_71 (fun H locs f914 ef914 z915 hB => ?_)
              have z916 : q_is (q_z f914 v3 11) tm := by rw [ef914, q_setz (Or.inr (by decide))]; exact z897
              have z917 : q_is (q_z f914 v3 3) nn := by rw [ef914, q_setz (Or.inr (by decide))]; exact z898
              have z918 : q_is (q_z f914 y864 9) y868 := by rw [ef914, q_setz (Or.inr (by decide))]; exact z899
              have z919 : q_is (q_z f914 v3 7) x890 := by rw [ef914, q_setz (Or.inr (by decide))]; exact z900
              have z920 : q_is (q_z f914 y864 4) y894 := by rw [ef914, q_setz (Or.inr (by decide))]; exact z896
              have z921 : q_ir (q_r f914 v3 0) n3 := by rw [ef914, q_setr (Or.inr (by decide))]; exact z901
              have z922 : q_ir (q_r f914 v3 1) l3 := by rw [ef914, q_setr (Or.inr (by decide))]; exact z902
              have z923 : q_ir (q_r f914 v3 2) m3 := by rw [ef914, q_setr (Or.inr (by decide))]; exact z903
              have g924 : tw_nw K L 19 f914 := tw_nw_tr g904 (fun a9 h9 k9 => by rw [ef914, q_setj (Or.inl (fun q => by rw [q, kv3] at k9; exact absurd k9 (by decide)))])
              have g925 : tw_vw K L 15 19 23 27 f914 v3 n3 l3 m3 d3 (tw_u (tw_u (tw_u (tw_wkl s3 (Int.toNat v7_1)) (1 + Int.toNat v7_1) 9 y868) (1 + Int.toNat v7_1) 4 y894) 0 13 y913) := tw_vw_s g905 (tw_v0 hw3) (by omega) (by omega) ef914 z915 (fun i9 => by rw [ef914, q_setr (Or.inl (fun q => by rw [q, kv3] at kn3; exact absurd kn3 (by decide)))]) (fun i9 => by rw [ef914, q_setr (Or.inl (fun q => by rw [q, kv3] at kl3; exact absurd kl3 (by decide)))]) (fun i9 => by rw [ef914, q_setr (Or.inl (fun q => by rw [q, kv3] at km3; exact absurd km3 (by decide)))])
              refine q_ald_n cx dX10_wakeNodes_74 rfl (lv_at hl 0 rfl) ?_
              refine lv_dup cx.1 cx.2.1 dX10_wakeNodes_75 rfl ?_
              obtain ⟨x926, ex926⟩ : ∃ zz, q_is (q_z f914 y864 6) zz := ⟨_, q_isr _⟩
              obtain ⟨lx926, ux926⟩ := q_isb ex926 (q_fib hB.2.1 hy864 ky864 (by decide) rfl)
              obtain ⟨x927, ex927, nx927⟩ : ∃ zz, q_is (q_z f914 y864 6) zz ∧ zz = x926 := ⟨_, ex926, rfl⟩
              have sx927 : q_is x927 ((tw_u (tw_u (tw_u (tw_wkl s3 (Int.toNat v7_1)) (1 + Int.toNat v7_1) 9 y868) (1 + Int.toNat v7_1) 4 y894) 0 13 y913) (1 + Int.toNat v7_1) 6) := tw_g g925 t866 (by omega) (by omega) ex927
              refine q_gX10_107_19 cx hB hy864 ky864 ex927 dX10_wakeNodes_76 (fun lb928 ub928 => ?_)
              refine q_iconst cx dX10_wakeNodes_79 ?_
              refine q_iadd cx dX10_wakeNodes_80 ?_
              refine q_any (fun y929 ry929 ey929 => ?_)
              refine q_pX10_107_19 cx hB hy864 ky864 ⟨by omega, by omega⟩ (by omega) (by omega) rfl dX10_wakeNodes_81 (fun H locs f930 ef930 z931 hB => ?_)
              have z932 : q_is (q_z f930 v3 11) tm := by rw [ef930, q_setz (Or.inr (by decide))]; exact z916
              have z933 : q_is (q_z f930 v3 3) nn := by rw [ef930, q_setz (Or.inr (by decide))]; exact z917
              have z934 : q_is (q_z f930 y864 9) y868 := by rw [ef930, q_setz (Or.inr (by decide))]; exact z918
              have z935 : q_is (q_z f930 v3 7) x890 := by rw [ef930, q_setz (Or.inr (by decide))]; exact z919
              have z936 : q_is (q_z f930 y864 4) y894 := by rw [ef930, q_setz (Or.inr (by decide))]; exact z920
              have z937 : q_is (q_z f930 v3 13) y913 := by rw [ef930, q_setz (Or.inr (by decide))]; exact z915
              have z938 : q_ir (q_r f930 v3 0) n3 := by rw [ef930, q_setr (Or.inr (by decide))]; exact z921
              have z939 : q_ir (q_r f930 v3 1) l3 := by rw [ef930, q_setr (Or.inr (by decide))]; exact z922
              have z940 : q_ir (q_r f930 v3 2) m3 := by rw [ef930, q_setr (Or.inr (by decide))]; exact z923
              have g941 : tw_nw K L 19 f930 := tw_nw_tr g924 (fun a9 h9 k9 => by rw [ef930, q_setj (Or.inr (by decide))])
              have g942 : tw_vw K L 15 19 23 27 f930 v3 n3 l3 m3 d3 (tw_u (tw_u (tw_u (tw_u (tw_wkl s3 (Int.toNat v7_1)) (1 + Int.toNat v7_1) 9 y868) (1 + Int.toNat v7_1) 4 y894) 0 13 y913) (1 + Int.toNat v7_1) 6 y929) := tw_vw_s g925 t866 (by omega) (by omega) ef930 z931 (fun i9 => by rw [ef930, q_setr (Or.inl (fun q => by rw [q, ky864] at kn3; exact absurd kn3 (by decide)))]) (fun i9 => by rw [ef930, q_setr (Or.inl (fun q => by rw [q, ky864] at kl3; exact absurd kl3 (by decide)))]) (fun i9 => by rw [ef930, q_setr (Or.inl (fun q => by rw [q, ky864] at km3; exact absurd km3 (by decide)))])
              refine q_iinc (lv' := [(1, .int (q_i (v7_1 + 1))), (2, .ref y864), (0, .ref v3)]) cx dX10_wakeNodes_84 hl (k := 2) rfl (by decide) rfl (fun ls hl => ?_)
              refine lv_goto (tgt := 7) cx.1 cx.2.1 dX10_wakeNodes_87 (by decide) ?_
              exact ih7 f930 (v7_1 + 1) (by omega) (by omega) z932 z933 z938 z939 z940 g941 (by omega) (tw_cg g942 (by have t0_ : x860 = (tw_wkl s3 (Int.toNat v7_1)) 0 3 := sx860; have t1_ : y868 = tw_do (tw_wkl s3 (Int.toNat v7_1)) v7_1 := t870; have t2_ : x888 = (tw_u (tw_wkl s3 (Int.toNat v7_1)) (1 + Int.toNat v7_1) 9 (tw_do (tw_wkl s3 (Int.toNat v7_1)) v7_1)) (1 + Int.toNat v7_1) 4 := Eq.trans sx888 (by simp only [t1_]); have t3_ : x891 = (tw_u (tw_wkl s3 (Int.toNat v7_1)) (1 + Int.toNat v7_1) 9 (tw_do (tw_wkl s3 (Int.toNat v7_1)) v7_1)) 0 7 := Eq.trans sx891 (by simp only [t1_]); have t4_ : y893 = tw_w (((tw_u (tw_wkl s3 (Int.toNat v7_1)) (1 + Int.toNat v7_1) 9 (tw_do (tw_wkl s3 (Int.toNat v7_1)) v7_1)) (1 + Int.toNat v7_1) 4) - ((tw_u (tw_wkl s3 (Int.toNat v7_1)) (1 + Int.toNat v7_1) 9 (tw_do (tw_wkl s3 (Int.toNat v7_1)) v7_1)) 0 7)) := Eq.trans (tw_w_of ry893 ey893) (by simp only [t2_, t3_]); have t5_ : y894 = max 0 (tw_w (((tw_u (tw_wkl s3 (Int.toNat v7_1)) (1 + Int.toNat v7_1) 9 (tw_do (tw_wkl s3 (Int.toNat v7_1)) v7_1)) (1 + Int.toNat v7_1) 4) - ((tw_u (tw_wkl s3 (Int.toNat v7_1)) (1 + Int.toNat v7_1) 9 (tw_do (tw_wkl s3 (Int.toNat v7_1)) v7_1)) 0 7))) := Eq.trans (tw_mx ay894 by894 ey894) (by simp only [t4_]); have t6_ : x906 = (tw_u (tw_u (tw_wkl s3 (Int.toNat v7_1)) (1 + Int.toNat v7_1) 9 (tw_do (tw_wkl s3 (Int.toNat v7_1)) v7_1)) (1 + Int.toNat v7_1) 4 (max 0 (tw_w (((tw_u (tw_wkl s3 (Int.toNat v7_1)) (1 + Int.toNat v7_1) 9 (tw_do (tw_wkl s3 (Int.toNat v7_1)) v7_1)) (1 + Int.toNat v7_1) 4) - ((tw_u (tw_wkl s3 (Int.toNat v7_1)) (1 + Int.toNat v7_1) 9 (tw_do (tw_wkl s3 (Int.toNat v7_1)) v7_1)) 0 7))))) (1 + Int.toNat v7_1) 4 := Eq.trans sx906 (by simp only [t1_, t5_]); have t7_ : x910 = (tw_u (tw_u (tw_wkl s3 (Int.toNat v7_1)) (1 + Int.toNat v7_1) 9 (tw_do (tw_wkl s3 (Int.toNat v7_1)) v7_1)) (1 + Int.toNat v7_1) 4 (max 0 (tw_w (((tw_u (tw_wkl s3 (Int.toNat v7_1)) (1 + Int.toNat v7_1) 9 (tw_do (tw_wkl s3 (Int.toNat v7_1)) v7_1)) (1 + Int.toNat v7_1) 4) - ((tw_u (tw_wkl s3 (Int.toNat v7_1)) (1 + Int.toNat v7_1) 9 (tw_do (tw_wkl s3 (Int.toNat v7_1)) v7_1)) 0 7))))) 0 13 := Eq.trans sx910 (by simp only [t1_, t5_]); have t8_ : y912 = tw_sl 1 v7_1 := (tw_sl_of ry912 ey912); have t9_ : y913 = tw_or ((tw_u (tw_u (tw_wkl s3 (Int.toNat v7_1)) (1 + Int.toNat v7_1) 9 (tw_do (tw_wkl s3 (Int.toNat v7_1)) v7_1)) (1 + Int.toNat v7_1) 4 (max 0 (tw_w (((tw_u (tw_wkl s3 (Int.toNat v7_1)) (1 + Int.toNat v7_1) 9 (tw_do (tw_wkl s3 (Int.toNat v7_1)) v7_1)) (1 + Int.toNat v7_1) 4) - ((tw_u (tw_wkl s3 (Int.toNat v7_1)) (1 + Int.toNat v7_1) 9 (tw_do (tw_wkl s3 (Int.toNat v7_1)) v7_1)) 0 7))))) 0 13) (tw_sl 1 v7_1) := Eq.trans (tw_or_of ry913 ey913) (by simp only [t7_, t8_]); have t10_ : x927 = (tw_u (tw_u (tw_u (tw_wkl s3 (Int.toNat v7_1)) (1 + Int.toNat v7_1) 9 (tw_do (tw_wkl s3 (Int.toNat v7_1)) v7_1)) (1 + Int.toNat v7_1) 4 (max 0 (tw_w (((tw_u (tw_wkl s3 (Int.toNat v7_1)) (1 + Int.toNat v7_1) 9 (tw_do (tw_wkl s3 (Int.toNat v7_1)) v7_1)) (1 + Int.toNat v7_1) 4) - ((tw_u (tw_wkl s3 (Int.toNat v7_1)) (1 + Int.toNat v7_1) 9 (tw_do (tw_wkl s3 (Int.toNat v7_1)) v7_1)) 0 7))))) 0 13 (tw_or ((tw_u (tw_u (tw_wkl s3 (Int.toNat v7_1)) (1 + Int.toNat v7_1) 9 (tw_do (tw_wkl s3 (Int.toNat v7_1)) v7_1)) (1 + Int.toNat v7_1) 4 (max 0 (tw_w (((tw_u (tw_wkl s3 (Int.toNat v7_1)) (1 + Int.toNat v7_1) 9 (tw_do (tw_wkl s3 (Int.toNat v7_1)) v7_1)) (1 + Int.toNat v7_1) 4) - ((tw_u (tw_wkl s3 (Int.toNat v7_1)) (1 + Int.toNat v7_1) 9 (tw_do (tw_wkl s3 (Int.toNat v7_1)) v7_1)) 0 7))))) 0 13) (tw_sl 1 v7_1))) (1 + Int.toNat v7_1) 6 := Eq.trans sx927 (by simp only [t1_, t5_, t9_]); have t11_ : y929 = tw_w (((tw_u (tw_u (tw_u (tw_wkl s3 (Int.toNat v7_1)) (1 + Int.toNat v7_1) 9 (tw_do (tw_wkl s3 (Int.toNat v7_1)) v7_1)) (1 + Int.toNat v7_1) 4 (max 0 (tw_w (((tw_u (tw_wkl s3 (Int.toNat v7_1)) (1 + Int.toNat v7_1) 9 (tw_do (tw_wkl s3 (Int.toNat v7_1)) v7_1)) (1 + Int.toNat v7_1) 4) - ((tw_u (tw_wkl s3 (Int.toNat v7_1)) (1 + Int.toNat v7_1) 9 (tw_do (tw_wkl s3 (Int.toNat v7_1)) v7_1)) 0 7))))) 0 13 (tw_or ((tw_u (tw_u (tw_wkl s3 (Int.toNat v7_1)) (1 + Int.toNat v7_1) 9 (tw_do (tw_wkl s3 (Int.toNat v7_1)) v7_1)) (1 + Int.toNat v7_1) 4 (max 0 (tw_w (((tw_u (tw_wkl s3 (Int.toNat v7_1)) (1 + Int.toNat v7_1) 9 (tw_do (tw_wkl s3 (Int.toNat v7_1)) v7_1)) (1 + Int.toNat v7_1) 4) - ((tw_u (tw_wkl s3 (Int.toNat v7_1)) (1 + Int.toNat v7_1) 9 (tw_do (tw_wkl s3 (Int.toNat v7_1)) v7_1)) 0 7))))) 0 13) (tw_sl 1 v7_1))) (1 + Int.toNat v7_1) 6) + 1) := Eq.trans (tw_w_of ry929 ey929) (by simp only [t10_]); have u0_ : tw_aw (tw_u (tw_wkl s3 (Int.toNat v7_1)) (1 + Int.toNat v7_1) 9 (tw_do (tw_wkl s3 (Int.toNat v7_1)) v7_1)) v7_1 = 1 := (by have e9 := t885; simp only [t1_] at e9; exact e9); (try simp only [t0_, t1_, t2_, t3_, t4_, t5_, t6_, t7_, t8_, t9_, t10_, t11_]); rw [tw_wkl_s (by omega)]; unfold tw_wk1 tw_wk2; (repeat' split) <;> first | rfl | (exfalso; omega))) (by omega) H locs hB ls (lv_sub hl [2, 0] rfl)
        · obtain ⟨rfl, qy881, t943⟩ := h884
          subst qy881
          refine q_ifeq (tgt := 84) cx ⟨by decide, by decide⟩ dX10_wakeNodes_35 (by decide) (fun c944 => ?_) (fun c944 => ?_)
          · refine q_iinc (lv' := [(1, .int (q_i (v7_1 + 1))), (2, .ref y864), (0, .ref v3)]) cx dX10_wakeNodes_84 hl (k := 2) rfl (by decide) rfl (fun ls hl => ?_)
            refine lv_goto (tgt := 7) cx.1 cx.2.1 dX10_wakeNodes_87 (by decide) ?_
            exact ih7 f871 (v7_1 + 1) (by omega) (by omega) z873 z874 z875 z876 z877 g878 (by omega) (tw_cg g879 (by have t0_ : x860 = (tw_wkl s3 (Int.toNat v7_1)) 0 3 := sx860; have t1_ : y868 = tw_do (tw_wkl s3 (Int.toNat v7_1)) v7_1 := t870; have u0_ : tw_aw (tw_u (tw_wkl s3 (Int.toNat v7_1)) (1 + Int.toNat v7_1) 9 (tw_do (tw_wkl s3 (Int.toNat v7_1)) v7_1)) v7_1 = 0 := (by have e9 := t943; simp only [t1_] at e9; exact e9); (try simp only [t0_, t1_]); rw [tw_wkl_s (by omega)]; unfold tw_wk1 tw_wk2; (repeat' split) <;> first | rfl | (exfalso; omega))) (by omega) H locs hB ls (lv_sub hl [2, 0] rfl)
          · exact absurd c944 (by omega)
  obtain ⟨H, hH⟩ : ∃ H : Heap, H = s.heap := ⟨_, rfl⟩
  obtain ⟨locs, hlocs⟩ : ∃ z : List Loc, z = [] := ⟨_, rfl⟩
  rw [← hH, ← hlocs] at hB
  rw [← hH, ← hlocs]
  refine q_ald_n cx dX10_wakeNodes_0 rfl (lv_at hl 0 rfl) ?_
  refine q_iconst cx dX10_wakeNodes_1 ?_
  refine q_pX10_262_15 cx hB hv3 kv3 ⟨by decide, by decide⟩ (by decide) (by decide) rfl dX10_wakeNodes_2 (fun H locs f945 ef945 z946 hB => ?_)
  have z947 : q_is (q_z f945 v3 11) tm := by rw [ef945, q_setz (Or.inr (by decide))]; exact hf0
  have z948 : q_is (q_z f945 v3 3) nn := by rw [ef945, q_setz (Or.inr (by decide))]; exact hf1
  have z949 : q_ir (q_r f945 v3 0) n3 := by rw [ef945, q_setr (Or.inr (by decide))]; exact hr0
  have z950 : q_ir (q_r f945 v3 1) l3 := by rw [ef945, q_setr (Or.inr (by decide))]; exact hr1
  have z951 : q_ir (q_r f945 v3 2) m3 := by rw [ef945, q_setr (Or.inr (by decide))]; exact hr2
  have g952 : tw_vw K L 15 19 23 27 f945 v3 n3 l3 m3 d3 (tw_u s3 0 13 0) := tw_vw_s hw3 (tw_v0 hw3) (by omega) (by omega) ef945 z946 (fun i9 => by rw [ef945, q_setr (Or.inl (fun q => by rw [q, kv3] at kn3; exact absurd kn3 (by decide)))]) (fun i9 => by rw [ef945, q_setr (Or.inl (fun q => by rw [q, kv3] at kl3; exact absurd kl3 (by decide)))]) (fun i9 => by rw [ef945, q_setr (Or.inl (fun q => by rw [q, kv3] at km3; exact absurd km3 (by decide)))])
  have g953 : tw_nw K L 19 f945 := tw_nw_tr hz3 (fun a9 h9 k9 => by rw [ef945, q_setj (Or.inl (fun q => by rw [q, kv3] at k9; exact absurd k9 (by decide)))])
  refine q_iconst cx dX10_wakeNodes_5 ?_
  refine lv_istore_n (lv' := [(1, .int (q_i 0)), (0, .ref v3)]) cx.1 cx.2.1 dX10_wakeNodes_6 rfl hl (by decide) rfl (fun ls hl => ?_)
  exact J7 ((Int.toNat (2147483647 - 0)) + 1) f945 0 (by decide) (by decide) z947 z948 z949 z950 z951 g953 (by omega) (tw_cg g952 rfl) (Nat.lt_succ_self _) H locs hB ls (lv_sub hl [1, 0] rfl)
set_option maxHeartbeats 4000000 in
set_option maxRecDepth 100000 in
theorem f_miss3 (l : Launch) (g : q_G) {K : Nat → Nat} {L : List Nat} (hN : L.Nodup) {f : Nat → va_E} (hT : q_Ty g K L f) (d3 : Nat → Nat) (s3 : tw_S) (v3 : Nat) (hv3 : v3 ∈ L) (kv3 : K v3 = 15) (p0 : Nat) (hp0 : p0 ∈ L) (kp0 : K p0 = 23) (n3 : Nat) (hn3 : n3 ∈ L) (kn3 : K n3 = 113) (l3 : Nat) (hl3 : l3 ∈ L) (kl3 : K l3 = 123) (m3 : Nat) (hm3 : m3 ∈ L) (km3 : K m3 = 133) (li : Int) (lli : 0 ≤ li) (uli : li ≤ 15) (hr0 : q_ir (q_r f v3 0) n3) (hr1 : q_ir (q_r f v3 1) l3) (hr2 : q_ir (q_r f v3 2) m3) (hp0 : p0 = d3 (11 + Int.toNat li)) (hw3 : tw_vw K L 15 19 23 27 f v3 n3 l3 m3 d3 s3) : q_Ct l g K L yX10_miss cX10_miss 4 none 1 21 [.ref v3, .ref p0] f [(15, 12, 12), (19, 3, 3), (23, 2, 2), (23, 4, 4)] (q_Pv (fun (f1 : Nat → va_E) => (tw_vw K L 15 19 23 27 f1 v3 n3 l3 m3 d3 (tw_mi s3 li)))) := by
  refine q_ofb (by decide +kernel) hN hT (Nat.le_of_ble_eq_true rfl) ?_
  intro p e s m below meth c ls cx hr hlk hB hl
  have hl : lv_has ls 4 [(0, .ref v3), (1, .ref p0)] := hl
  obtain ⟨H, hH⟩ : ∃ H : Heap, H = s.heap := ⟨_, rfl⟩
  obtain ⟨locs, hlocs⟩ : ∃ z : List Loc, z = [] := ⟨_, rfl⟩
  rw [← hH, ← hlocs] at hB
  rw [← hH, ← hlocs]
  refine q_ald_n cx dX10_miss_0 rfl (lv_at hl 1 rfl) ?_
  refine lv_dup cx.1 cx.2.1 dX10_miss_1 rfl ?_
  obtain ⟨x89, ex89⟩ : ∃ zz, q_is (q_z f p0 4) zz := ⟨_, q_isr _⟩
  obtain ⟨lx89, ux89⟩ := q_isb ex89 (q_fib hB.2.1 hp0 kp0 (by decide) rfl)
  obtain ⟨x90, ex90, nx90⟩ : ∃ zz, q_is (q_z f p0 4) zz ∧ zz = x89 := ⟨_, ex89, rfl⟩
  have sx90 : q_is x90 (s3 (11 + Int.toNat li) 4) := tw_g hw3 hp0 (by omega) (by omega) ex90
  refine q_gX10_128_23 cx hB hp0 kp0 ex90 dX10_miss_2 (fun lb91 ub91 => ?_)
  refine q_iconst cx dX10_miss_5 ?_
  refine q_iadd cx dX10_miss_6 ?_
  refine q_any (fun y92 ry92 ey92 => ?_)
  refine q_pX10_128_23 cx hB hp0 kp0 ⟨by omega, by omega⟩ (by omega) (by omega) rfl dX10_miss_7 (fun H locs f93 ef93 z94 hB => ?_)
  have z95 : q_ir (q_r f93 v3 0) n3 := by rw [ef93, q_setr (Or.inr (by decide))]; exact hr0
  have z96 : q_ir (q_r f93 v3 1) l3 := by rw [ef93, q_setr (Or.inr (by decide))]; exact hr1
  have z97 : q_ir (q_r f93 v3 2) m3 := by rw [ef93, q_setr (Or.inr (by decide))]; exact hr2
  have g98 : tw_vw K L 15 19 23 27 f93 v3 n3 l3 m3 d3 (tw_u s3 (11 + Int.toNat li) 4 y92) := tw_vw_s hw3 hp0 (by omega) (by omega) ef93 z94 (fun i9 => by rw [ef93, q_setr (Or.inl (fun q => by rw [q, kp0] at kn3; exact absurd kn3 (by decide)))]) (fun i9 => by rw [ef93, q_setr (Or.inl (fun q => by rw [q, kp0] at kl3; exact absurd kl3 (by decide)))]) (fun i9 => by rw [ef93, q_setr (Or.inl (fun q => by rw [q, kp0] at km3; exact absurd km3 (by decide)))])
  refine q_ald_n cx dX10_miss_10 rfl (lv_at hl 1 rfl) ?_
  refine lv_dup cx.1 cx.2.1 dX10_miss_11 rfl ?_
  obtain ⟨x99, ex99⟩ : ∃ zz, q_is (q_z f93 p0 2) zz := ⟨_, q_isr _⟩
  obtain ⟨lx99, ux99⟩ := q_isb ex99 (q_fib hB.2.1 hp0 kp0 (by decide) rfl)
  obtain ⟨x100, ex100, nx100⟩ : ∃ zz, q_is (q_z f93 p0 2) zz ∧ zz = x99 := ⟨_, ex99, rfl⟩
  have sx100 : q_is x100 ((tw_u s3 (11 + Int.toNat li) 4 y92) (11 + Int.toNat li) 2) := tw_g g98 hp0 (by omega) (by omega) ex100
  refine q_gX10_122_23 cx hB hp0 kp0 ex100 dX10_miss_12 (fun lb101 ub101 => ?_)
  refine q_iconst cx dX10_miss_15 ?_
  refine q_iadd cx dX10_miss_16 ?_
  refine q_any (fun y102 ry102 ey102 => ?_)
  refine q_pX10_122_23 cx hB hp0 kp0 ⟨by omega, by omega⟩ (by omega) (by omega) rfl dX10_miss_17 (fun H locs f103 ef103 z104 hB => ?_)
  have z105 : q_is (q_z f103 p0 4) y92 := by rw [ef103, q_setz (Or.inr (by decide))]; exact z94
  have z106 : q_ir (q_r f103 v3 0) n3 := by rw [ef103, q_setr (Or.inr (by decide))]; exact z95
  have z107 : q_ir (q_r f103 v3 1) l3 := by rw [ef103, q_setr (Or.inr (by decide))]; exact z96
  have z108 : q_ir (q_r f103 v3 2) m3 := by rw [ef103, q_setr (Or.inl (fun q => by rw [q, kp0] at kv3; exact absurd kv3 (by decide)))]; exact z97
  have g109 : tw_vw K L 15 19 23 27 f103 v3 n3 l3 m3 d3 (tw_u (tw_u s3 (11 + Int.toNat li) 4 y92) (11 + Int.toNat li) 2 y102) := tw_vw_s g98 hp0 (by omega) (by omega) ef103 z104 (fun i9 => by rw [ef103, q_setr (Or.inl (fun q => by rw [q, kp0] at kn3; exact absurd kn3 (by decide)))]) (fun i9 => by rw [ef103, q_setr (Or.inl (fun q => by rw [q, kp0] at kl3; exact absurd kl3 (by decide)))]) (fun i9 => by rw [ef103, q_setr (Or.inl (fun q => by rw [q, kp0] at km3; exact absurd km3 (by decide)))])
  refine q_ald_n cx dX10_miss_20 rfl (lv_at hl 1 rfl) ?_
  obtain ⟨x110, ex110, nx110⟩ : ∃ zz, q_is (q_z f103 p0 2) zz ∧ zz = y102 := ⟨_, z104, rfl⟩
  have sx110 : q_is x110 ((tw_u (tw_u s3 (11 + Int.toNat li) 4 y92) (11 + Int.toNat li) 2 y102) (11 + Int.toNat li) 2) := tw_g g109 hp0 (by omega) (by omega) ex110
  refine q_gX10_122_23 cx hB hp0 kp0 ex110 dX10_miss_21 (fun lb111 ub111 => ?_)
  refine q_ald_n cx dX10_miss_24 rfl (lv_at hl 0 rfl) ?_
  obtain ⟨x112, ex112⟩ : ∃ zz, q_is (q_z f103 v3 10) zz := ⟨_, q_isr _⟩
  obtain ⟨lx112, ux112⟩ := q_isb ex112 (q_fib hB.2.1 hv3 kv3 (by decide) rfl)
  obtain ⟨x113, ex113, nx113⟩ : ∃ zz, q_is (q_z f103 v3 10) zz ∧ zz = x112 := ⟨_, ex112, rfl⟩
  have sx113 : q_is x113 ((tw_u (tw_u s3 (11 + Int.toNat li) 4 y92) (11 + Int.toNat li) 2 y102) 0 10) := tw_g g109 (tw_v0 hw3) (by omega) (by omega) ex113
  refine q_gX10_57_15 cx hB hv3 kv3 ex113 dX10_miss_25 (fun lb114 ub114 => ?_)
  refine q_iclt (tgt := 86) cx ⟨by omega, by omega⟩ ⟨by omega, by omega⟩ dX10_miss_28 (by decide) (fun c115 => ?_) (fun c115 => ?_)
  · refine q_vret cx hr hlk hB dX10_miss_86 ?_
    exact (tw_cg g109 (by have t0_ : x90 = s3 (11 + Int.toNat li) 4 := sx90; have t1_ : y92 = tw_w ((s3 (11 + Int.toNat li) 4) + 1) := Eq.trans (tw_w_of ry92 ey92) (by simp only [t0_]); have t2_ : x100 = (tw_u s3 (11 + Int.toNat li) 4 (tw_w ((s3 (11 + Int.toNat li) 4) + 1))) (11 + Int.toNat li) 2 := Eq.trans sx100 (by simp only [t1_]); have t3_ : y102 = tw_w (((tw_u s3 (11 + Int.toNat li) 4 (tw_w ((s3 (11 + Int.toNat li) 4) + 1))) (11 + Int.toNat li) 2) + 1) := Eq.trans (tw_w_of ry102 ey102) (by simp only [t2_]); have t4_ : x110 = (tw_u (tw_u s3 (11 + Int.toNat li) 4 (tw_w ((s3 (11 + Int.toNat li) 4) + 1))) (11 + Int.toNat li) 2 (tw_w (((tw_u s3 (11 + Int.toNat li) 4 (tw_w ((s3 (11 + Int.toNat li) 4) + 1))) (11 + Int.toNat li) 2) + 1))) (11 + Int.toNat li) 2 := Eq.trans sx110 (by simp only [t1_, t3_]); have t5_ : x113 = (tw_u (tw_u s3 (11 + Int.toNat li) 4 (tw_w ((s3 (11 + Int.toNat li) 4) + 1))) (11 + Int.toNat li) 2 (tw_w (((tw_u s3 (11 + Int.toNat li) 4 (tw_w ((s3 (11 + Int.toNat li) 4) + 1))) (11 + Int.toNat li) 2) + 1))) 0 10 := Eq.trans sx113 (by simp only [t1_, t3_]); (try simp only [t0_, t1_, t2_, t3_, t4_, t5_]); unfold tw_mi tw_mi2; (repeat' split) <;> first | rfl | (exfalso; omega)))
  · refine q_ald_n cx dX10_miss_31 rfl (lv_at hl 1 rfl) ?_
    obtain ⟨x116, ex116⟩ : ∃ zz, q_is (q_z f103 p0 0) zz := ⟨_, q_isr _⟩
    obtain ⟨lx116, ux116⟩ := q_isb ex116 (q_fib hB.2.1 hp0 kp0 (by decide) rfl)
    obtain ⟨x117, ex117, nx117⟩ : ∃ zz, q_is (q_z f103 p0 0) zz ∧ zz = x116 := ⟨_, ex116, rfl⟩
    have sx117 : q_is x117 ((tw_u (tw_u s3 (11 + Int.toNat li) 4 y92) (11 + Int.toNat li) 2 y102) (11 + Int.toNat li) 0) := tw_g g109 hp0 (by omega) (by omega) ex117
    refine q_gX10_116_23 cx hB hp0 kp0 ex117 dX10_miss_32 (fun lb118 ub118 => ?_)
    refine q_ald_n cx dX10_miss_35 rfl (lv_at hl 1 rfl) ?_
    obtain ⟨x119, ex119⟩ : ∃ zz, q_is (q_z f103 p0 1) zz := ⟨_, q_isr _⟩
    obtain ⟨lx119, ux119⟩ := q_isb ex119 (q_fib hB.2.1 hp0 kp0 (by decide) rfl)
    obtain ⟨x120, ex120, nx120⟩ : ∃ zz, q_is (q_z f103 p0 1) zz ∧ zz = x119 := ⟨_, ex119, rfl⟩
    have sx120 : q_is x120 ((tw_u (tw_u s3 (11 + Int.toNat li) 4 y92) (11 + Int.toNat li) 2 y102) (11 + Int.toNat li) 1) := tw_g g109 hp0 (by omega) (by omega) ex120
    refine q_gX10_119_23 cx hB hp0 kp0 ex120 dX10_miss_36 (fun lb121 ub121 => ?_)
    refine q_mmin (rest := []) cx hl.1 q_h1421 q_h994 q_h56 q_h995 (by decide) (Nat.le_of_ble_eq_true rfl) (by decide) (by decide) ⟨by omega, by omega⟩ ⟨by omega, by omega⟩ dX10_miss_39 (fun y122 ay122 by122 ey122 => ?_)
    refine lv_istore_n (lv' := [(2, .int (q_i y122)), (0, .ref v3), (1, .ref p0)]) cx.1 cx.2.1 dX10_miss_42 rfl hl (by decide) rfl (fun ls hl => ?_)
    refine q_ald_n cx dX10_miss_43 rfl (lv_at hl 2 rfl) ?_
    obtain ⟨x123, ex123, nx123⟩ : ∃ zz, q_is (q_z f103 p0 0) zz ∧ zz = x116 := ⟨_, ex116, rfl⟩
    have sx123 : q_is x123 ((tw_u (tw_u s3 (11 + Int.toNat li) 4 y92) (11 + Int.toNat li) 2 y102) (11 + Int.toNat li) 0) := tw_g g109 hp0 (by omega) (by omega) ex123
    refine q_gX10_116_23 cx hB hp0 kp0 ex123 dX10_miss_44 (fun lb124 ub124 => ?_)
    refine q_ald_n cx dX10_miss_47 rfl (lv_at hl 2 rfl) ?_
    obtain ⟨x125, ex125, nx125⟩ : ∃ zz, q_is (q_z f103 p0 1) zz ∧ zz = x119 := ⟨_, ex119, rfl⟩
    have sx125 : q_is x125 ((tw_u (tw_u s3 (11 + Int.toNat li) 4 y92) (11 + Int.toNat li) 2 y102) (11 + Int.toNat li) 1) := tw_g g109 hp0 (by omega) (by omega) ex125
    refine q_gX10_119_23 cx hB hp0 kp0 ex125 dX10_miss_48 (fun lb126 ub126 => ?_)
    refine q_mmax (rest := []) cx hl.1 q_h1412 q_h976 q_h56 q_h977 (by decide) (Nat.le_of_ble_eq_true rfl) (by decide) (by decide) ⟨by omega, by omega⟩ ⟨by omega, by omega⟩ dX10_miss_51 (fun y127 ay127 by127 ey127 => ?_)
    refine lv_istore_n (lv' := [(3, .int (q_i y127)), (2, .int (q_i y122)), (0, .ref v3), (1, .ref p0)]) cx.1 cx.2.1 dX10_miss_54 rfl hl (by decide) rfl (fun ls hl => ?_)
    refine q_ald_n cx dX10_miss_55 rfl (lv_at hl 2 rfl) ?_
    refine q_ild_n cx dX10_miss_56 rfl (lv_at hl 0 rfl) ?_
    refine q_cVr (As := [.int (q_i y127)]) (rest := []) cx hB (fun _ h => h) hN hv3 kv3 (by decide) rfl (f_nodeAt3 l g hN hB.2.1 d3 (tw_u (tw_u s3 (11 + Int.toNat li) 4 y92) (11 + Int.toNat li) 2 y102) v3 hv3 kv3 y127 (by omega) (by omega) n3 hn3 kn3 l3 hl3 kl3 m3 hm3 km3 z106 z107 z108 g109) q_cX10_66 q_dX10_nodeAt (by decide) rfl rfl hl.1 rfl (Nat.le_of_ble_eq_true rfl) dX10_miss_57 (fun y129 H locs f128 h130 hF hB => ?_)
    obtain ⟨rfl, hy129, ky129, t131⟩ := h130
    refine q_ald_n cx dX10_miss_60 rfl (lv_at hl 2 rfl) ?_
    refine q_ild_n cx dX10_miss_61 rfl (lv_at hl 1 rfl) ?_
    refine q_cVr (As := [.int (q_i y122)]) (rest := [.ref y129]) cx hB (fun _ h => h) hN hv3 kv3 (by decide) rfl (f_nodeAt3 l g hN hB.2.1 d3 (tw_u (tw_u s3 (11 + Int.toNat li) 4 y92) (11 + Int.toNat li) 2 y102) v3 hv3 kv3 y122 (by omega) (by omega) n3 hn3 kn3 l3 hl3 kl3 m3 hm3 km3 z106 z107 z108 g109) q_cX10_66 q_dX10_nodeAt (by decide) rfl rfl hl.1 rfl (Nat.le_of_ble_eq_true rfl) dX10_miss_62 (fun y133 H locs f132 h134 hF hB => ?_)
    obtain ⟨rfl, hy133, ky133, t135⟩ := h134
    obtain ⟨x136, ex136⟩ : ∃ zz, q_is (q_z f103 y133 3) zz := ⟨_, q_isr _⟩
    obtain ⟨lx136, ux136⟩ := q_isb ex136 (q_fib hB.2.1 hy133 ky133 (by decide) rfl)
    obtain ⟨x137, ex137, nx137⟩ : ∃ zz, q_is (q_z f103 y133 3) zz ∧ zz = x136 := ⟨_, ex136, rfl⟩
    have sx137 : q_is x137 ((tw_u (tw_u s3 (11 + Int.toNat li) 4 y92) (11 + Int.toNat li) 2 y102) (1 + Int.toNat y122) 3) := tw_g g109 t135 (by omega) (by omega) ex137
    refine q_gX10_98_19 cx hB hy133 ky133 ex137 dX10_miss_65 (fun lb138 ub138 => ?_)
    refine q_pX10_98_19 cx hB hy129 ky129 ⟨by omega, by omega⟩ (by omega) (by omega) rfl dX10_miss_68 (fun H locs f139 ef139 z140 hB => ?_)
    have z141 : q_is (q_z f139 p0 4) y92 := by rw [ef139, q_setz (Or.inr (by decide))]; exact z105
    have z142 : q_is (q_z f139 p0 2) y102 := by rw [ef139, q_setz (Or.inr (by decide))]; exact z104
    have z143 : q_is (q_z f139 v3 10) x112 := by rw [ef139, q_setz (Or.inr (by decide))]; exact ex112
    have z144 : q_is (q_z f139 p0 0) x116 := by rw [ef139, q_setz (Or.inr (by decide))]; exact ex116
    have z145 : q_is (q_z f139 p0 1) x119 := by rw [ef139, q_setz (Or.inr (by decide))]; exact ex119
    have z146 : q_ir (q_r f139 v3 0) n3 := by rw [ef139, q_setr (Or.inr (by decide))]; exact z106
    have z147 : q_ir (q_r f139 v3 1) l3 := by rw [ef139, q_setr (Or.inr (by decide))]; exact z107
    have z148 : q_ir (q_r f139 v3 2) m3 := by rw [ef139, q_setr (Or.inr (by decide))]; exact z108
    have g149 : tw_vw K L 15 19 23 27 f139 v3 n3 l3 m3 d3 (tw_u (tw_u (tw_u s3 (11 + Int.toNat li) 4 y92) (11 + Int.toNat li) 2 y102) (1 + Int.toNat y127) 3 x137) := tw_vw_s g109 t131 (by omega) (by omega) ef139 z140 (fun i9 => by rw [ef139, q_setr (Or.inl (fun q => by rw [q, ky129] at kn3; exact absurd kn3 (by decide)))]) (fun i9 => by rw [ef139, q_setr (Or.inl (fun q => by rw [q, ky129] at kl3; exact absurd kl3 (by decide)))]) (fun i9 => by rw [ef139, q_setr (Or.inl (fun q => by rw [q, ky129] at km3; exact absurd km3 (by decide)))])
    refine q_ald_n cx dX10_miss_71 rfl (lv_at hl 3 rfl) ?_
    refine q_iconst cx dX10_miss_72 ?_
    refine q_pX10_122_23 cx hB hp0 kp0 ⟨by decide, by decide⟩ (by decide) (by decide) rfl dX10_miss_73 (fun H locs f150 ef150 z151 hB => ?_)
    have z152 : q_is (q_z f150 p0 4) y92 := by rw [ef150, q_setz (Or.inr (by decide))]; exact z141
    have z153 : q_is (q_z f150 v3 10) x112 := by rw [ef150, q_setz (Or.inr (by decide))]; exact z143
    have z154 : q_is (q_z f150 p0 0) x116 := by rw [ef150, q_setz (Or.inr (by decide))]; exact z144
    have z155 : q_is (q_z f150 p0 1) x119 := by rw [ef150, q_setz (Or.inr (by decide))]; exact z145
    have z156 : q_is (q_z f150 y129 3) x137 := by rw [ef150, q_setz (Or.inr (by decide))]; exact z140
    have z157 : q_ir (q_r f150 v3 0) n3 := by rw [ef150, q_setr (Or.inr (by decide))]; exact z146
    have z158 : q_ir (q_r f150 v3 1) l3 := by rw [ef150, q_setr (Or.inr (by decide))]; exact z147
    have z159 : q_ir (q_r f150 v3 2) m3 := by rw [ef150, q_setr (Or.inl (fun q => by rw [q, kp0] at kv3; exact absurd kv3 (by decide)))]; exact z148
    have g160 : tw_vw K L 15 19 23 27 f150 v3 n3 l3 m3 d3 (tw_u (tw_u (tw_u (tw_u s3 (11 + Int.toNat li) 4 y92) (11 + Int.toNat li) 2 y102) (1 + Int.toNat y127) 3 x137) (11 + Int.toNat li) 2 0) := tw_vw_s g149 hp0 (by omega) (by omega) ef150 z151 (fun i9 => by rw [ef150, q_setr (Or.inl (fun q => by rw [q, kp0] at kn3; exact absurd kn3 (by decide)))]) (fun i9 => by rw [ef150, q_setr (Or.inl (fun q => by rw [q, kp0] at kl3; exact absurd kl3 (by decide)))]) (fun i9 => by rw [ef150, q_setr (Or.inl (fun q => by rw [q, kp0] at km3; exact absurd km3 (by decide)))])
    refine q_ald_n cx dX10_miss_76 rfl (lv_at hl 2 rfl) ?_
    refine lv_dup cx.1 cx.2.1 dX10_miss_77 rfl ?_
    obtain ⟨x161, ex161⟩ : ∃ zz, q_is (q_z f150 v3 12) zz := ⟨_, q_isr _⟩
    obtain ⟨lx161, ux161⟩ := q_isb ex161 (q_fib hB.2.1 hv3 kv3 (by decide) rfl)
    obtain ⟨x162, ex162, nx162⟩ : ∃ zz, q_is (q_z f150 v3 12) zz ∧ zz = x161 := ⟨_, ex161, rfl⟩
    have sx162 : q_is x162 ((tw_u (tw_u (tw_u (tw_u s3 (11 + Int.toNat li) 4 y92) (11 + Int.toNat li) 2 y102) (1 + Int.toNat y127) 3 x137) (11 + Int.toNat li) 2 0) 0 12) := tw_g g160 (tw_v0 hw3) (by omega) (by omega) ex162
    refine q_gX10_63_15 cx hB hv3 kv3 ex162 dX10_miss_78 (fun lb163 ub163 => ?_)
    refine q_iconst cx dX10_miss_81 ?_
    refine q_iadd cx dX10_miss_82 ?_
    refine q_any (fun y164 ry164 ey164 => ?_)
    refine q_pX10_63_15 cx hB hv3 kv3 ⟨by omega, by omega⟩ (by omega) (by omega) rfl dX10_miss_83 (fun H locs f165 ef165 z166 hB => ?_)
    have z167 : q_is (q_z f165 p0 4) y92 := by rw [ef165, q_setz (Or.inr (by decide))]; exact z152
    have z168 : q_is (q_z f165 v3 10) x112 := by rw [ef165, q_setz (Or.inr (by decide))]; exact z153
    have z169 : q_is (q_z f165 p0 0) x116 := by rw [ef165, q_setz (Or.inr (by decide))]; exact z154
    have z170 : q_is (q_z f165 p0 1) x119 := by rw [ef165, q_setz (Or.inr (by decide))]; exact z155
    have z171 : q_is (q_z f165 y129 3) x137 := by rw [ef165, q_setz (Or.inr (by decide))]; exact z156
    have z172 : q_is (q_z f165 p0 2) 0 := by rw [ef165, q_setz (Or.inr (by decide))]; exact z151
    have z173 : q_ir (q_r f165 v3 0) n3 := by rw [ef165, q_setr (Or.inr (by decide))]; exact z157
    have z174 : q_ir (q_r f165 v3 1) l3 := by rw [ef165, q_setr (Or.inr (by decide))]; exact z158
    have z175 : q_ir (q_r f165 v3 2) m3 := by rw [ef165, q_setr (Or.inr (by decide))]; exact z159
    have g176 : tw_vw K L 15 19 23 27 f165 v3 n3 l3 m3 d3 (tw_u (tw_u (tw_u (tw_u (tw_u s3 (11 + Int.toNat li) 4 y92) (11 + Int.toNat li) 2 y102) (1 + Int.toNat y127) 3 x137) (11 + Int.toNat li) 2 0) 0 12 y164) := tw_vw_s g160 (tw_v0 hw3) (by omega) (by omega) ef165 z166 (fun i9 => by rw [ef165, q_setr (Or.inl (fun q => by rw [q, kv3] at kn3; exact absurd kn3 (by decide)))]) (fun i9 => by rw [ef165, q_setr (Or.inl (fun q => by rw [q, kv3] at kl3; exact absurd kl3 (by decide)))]) (fun i9 => by rw [ef165, q_setr (Or.inl (fun q => by rw [q, kv3] at km3; exact absurd km3 (by decide)))])
    refine q_vret cx hr hlk hB dX10_miss_86 ?_
    exact (tw_cg g176 (by have t0_ : x90 = s3 (11 + Int.toNat li) 4 := sx90; have t1_ : y92 = tw_w ((s3 (11 + Int.toNat li) 4) + 1) := Eq.trans (tw_w_of ry92 ey92) (by simp only [t0_]); have t2_ : x100 = (tw_u s3 (11 + Int.toNat li) 4 (tw_w ((s3 (11 + Int.toNat li) 4) + 1))) (11 + Int.toNat li) 2 := Eq.trans sx100 (by simp only [t1_]); have t3_ : y102 = tw_w (((tw_u s3 (11 + Int.toNat li) 4 (tw_w ((s3 (11 + Int.toNat li) 4) + 1))) (11 + Int.toNat li) 2) + 1) := Eq.trans (tw_w_of ry102 ey102) (by simp only [t2_]); have t4_ : x110 = (tw_u (tw_u s3 (11 + Int.toNat li) 4 (tw_w ((s3 (11 + Int.toNat li) 4) + 1))) (11 + Int.toNat li) 2 (tw_w (((tw_u s3 (11 + Int.toNat li) 4 (tw_w ((s3 (11 + Int.toNat li) 4) + 1))) (11 + Int.toNat li) 2) + 1))) (11 + Int.toNat li) 2 := Eq.trans sx110 (by simp only [t1_, t3_]); have t5_ : x113 = (tw_u (tw_u s3 (11 + Int.toNat li) 4 (tw_w ((s3 (11 + Int.toNat li) 4) + 1))) (11 + Int.toNat li) 2 (tw_w (((tw_u s3 (11 + Int.toNat li) 4 (tw_w ((s3 (11 + Int.toNat li) 4) + 1))) (11 + Int.toNat li) 2) + 1))) 0 10 := Eq.trans sx113 (by simp only [t1_, t3_]); have t6_ : x117 = (tw_u (tw_u s3 (11 + Int.toNat li) 4 (tw_w ((s3 (11 + Int.toNat li) 4) + 1))) (11 + Int.toNat li) 2 (tw_w (((tw_u s3 (11 + Int.toNat li) 4 (tw_w ((s3 (11 + Int.toNat li) 4) + 1))) (11 + Int.toNat li) 2) + 1))) (11 + Int.toNat li) 0 := Eq.trans sx117 (by simp only [t1_, t3_]); have t7_ : x120 = (tw_u (tw_u s3 (11 + Int.toNat li) 4 (tw_w ((s3 (11 + Int.toNat li) 4) + 1))) (11 + Int.toNat li) 2 (tw_w (((tw_u s3 (11 + Int.toNat li) 4 (tw_w ((s3 (11 + Int.toNat li) 4) + 1))) (11 + Int.toNat li) 2) + 1))) (11 + Int.toNat li) 1 := Eq.trans sx120 (by simp only [t1_, t3_]); have t8_ : y122 = min ((tw_u (tw_u s3 (11 + Int.toNat li) 4 (tw_w ((s3 (11 + Int.toNat li) 4) + 1))) (11 + Int.toNat li) 2 (tw_w (((tw_u s3 (11 + Int.toNat li) 4 (tw_w ((s3 (11 + Int.toNat li) 4) + 1))) (11 + Int.toNat li) 2) + 1))) (11 + Int.toNat li) 0) ((tw_u (tw_u s3 (11 + Int.toNat li) 4 (tw_w ((s3 (11 + Int.toNat li) 4) + 1))) (11 + Int.toNat li) 2 (tw_w (((tw_u s3 (11 + Int.toNat li) 4 (tw_w ((s3 (11 + Int.toNat li) 4) + 1))) (11 + Int.toNat li) 2) + 1))) (11 + Int.toNat li) 1) := Eq.trans (tw_mn ay122 by122 ey122) (by simp only [t6_, t7_]); have t9_ : x123 = (tw_u (tw_u s3 (11 + Int.toNat li) 4 (tw_w ((s3 (11 + Int.toNat li) 4) + 1))) (11 + Int.toNat li) 2 (tw_w (((tw_u s3 (11 + Int.toNat li) 4 (tw_w ((s3 (11 + Int.toNat li) 4) + 1))) (11 + Int.toNat li) 2) + 1))) (11 + Int.toNat li) 0 := Eq.trans sx123 (by simp only [t1_, t3_]); have t10_ : x125 = (tw_u (tw_u s3 (11 + Int.toNat li) 4 (tw_w ((s3 (11 + Int.toNat li) 4) + 1))) (11 + Int.toNat li) 2 (tw_w (((tw_u s3 (11 + Int.toNat li) 4 (tw_w ((s3 (11 + Int.toNat li) 4) + 1))) (11 + Int.toNat li) 2) + 1))) (11 + Int.toNat li) 1 := Eq.trans sx125 (by simp only [t1_, t3_]); have t11_ : y127 = max ((tw_u (tw_u s3 (11 + Int.toNat li) 4 (tw_w ((s3 (11 + Int.toNat li) 4) + 1))) (11 + Int.toNat li) 2 (tw_w (((tw_u s3 (11 + Int.toNat li) 4 (tw_w ((s3 (11 + Int.toNat li) 4) + 1))) (11 + Int.toNat li) 2) + 1))) (11 + Int.toNat li) 0) ((tw_u (tw_u s3 (11 + Int.toNat li) 4 (tw_w ((s3 (11 + Int.toNat li) 4) + 1))) (11 + Int.toNat li) 2 (tw_w (((tw_u s3 (11 + Int.toNat li) 4 (tw_w ((s3 (11 + Int.toNat li) 4) + 1))) (11 + Int.toNat li) 2) + 1))) (11 + Int.toNat li) 1) := Eq.trans (tw_mx ay127 by127 ey127) (by simp only [t9_, t10_]); have t12_ : x137 = (tw_u (tw_u s3 (11 + Int.toNat li) 4 (tw_w ((s3 (11 + Int.toNat li) 4) + 1))) (11 + Int.toNat li) 2 (tw_w (((tw_u s3 (11 + Int.toNat li) 4 (tw_w ((s3 (11 + Int.toNat li) 4) + 1))) (11 + Int.toNat li) 2) + 1))) (1 + Int.toNat (min ((tw_u (tw_u s3 (11 + Int.toNat li) 4 (tw_w ((s3 (11 + Int.toNat li) 4) + 1))) (11 + Int.toNat li) 2 (tw_w (((tw_u s3 (11 + Int.toNat li) 4 (tw_w ((s3 (11 + Int.toNat li) 4) + 1))) (11 + Int.toNat li) 2) + 1))) (11 + Int.toNat li) 0) ((tw_u (tw_u s3 (11 + Int.toNat li) 4 (tw_w ((s3 (11 + Int.toNat li) 4) + 1))) (11 + Int.toNat li) 2 (tw_w (((tw_u s3 (11 + Int.toNat li) 4 (tw_w ((s3 (11 + Int.toNat li) 4) + 1))) (11 + Int.toNat li) 2) + 1))) (11 + Int.toNat li) 1))) 3 := Eq.trans sx137 (by simp only [t1_, t3_, t8_]); have t13_ : x162 = (tw_u (tw_u (tw_u (tw_u s3 (11 + Int.toNat li) 4 (tw_w ((s3 (11 + Int.toNat li) 4) + 1))) (11 + Int.toNat li) 2 (tw_w (((tw_u s3 (11 + Int.toNat li) 4 (tw_w ((s3 (11 + Int.toNat li) 4) + 1))) (11 + Int.toNat li) 2) + 1))) (1 + Int.toNat (max ((tw_u (tw_u s3 (11 + Int.toNat li) 4 (tw_w ((s3 (11 + Int.toNat li) 4) + 1))) (11 + Int.toNat li) 2 (tw_w (((tw_u s3 (11 + Int.toNat li) 4 (tw_w ((s3 (11 + Int.toNat li) 4) + 1))) (11 + Int.toNat li) 2) + 1))) (11 + Int.toNat li) 0) ((tw_u (tw_u s3 (11 + Int.toNat li) 4 (tw_w ((s3 (11 + Int.toNat li) 4) + 1))) (11 + Int.toNat li) 2 (tw_w (((tw_u s3 (11 + Int.toNat li) 4 (tw_w ((s3 (11 + Int.toNat li) 4) + 1))) (11 + Int.toNat li) 2) + 1))) (11 + Int.toNat li) 1))) 3 ((tw_u (tw_u s3 (11 + Int.toNat li) 4 (tw_w ((s3 (11 + Int.toNat li) 4) + 1))) (11 + Int.toNat li) 2 (tw_w (((tw_u s3 (11 + Int.toNat li) 4 (tw_w ((s3 (11 + Int.toNat li) 4) + 1))) (11 + Int.toNat li) 2) + 1))) (1 + Int.toNat (min ((tw_u (tw_u s3 (11 + Int.toNat li) 4 (tw_w ((s3 (11 + Int.toNat li) 4) + 1))) (11 + Int.toNat li) 2 (tw_w (((tw_u s3 (11 + Int.toNat li) 4 (tw_w ((s3 (11 + Int.toNat li) 4) + 1))) (11 + Int.toNat li) 2) + 1))) (11 + Int.toNat li) 0) ((tw_u (tw_u s3 (11 + Int.toNat li) 4 (tw_w ((s3 (11 + Int.toNat li) 4) + 1))) (11 + Int.toNat li) 2 (tw_w (((tw_u s3 (11 + Int.toNat li) 4 (tw_w ((s3 (11 + Int.toNat li) 4) + 1))) (11 + Int.toNat li) 2) + 1))) (11 + Int.toNat li) 1))) 3)) (11 + Int.toNat li) 2 0) 0 12 := Eq.trans sx162 (by simp only [t1_, t3_, t11_, t12_]); have t14_ : y164 = tw_w (((tw_u (tw_u (tw_u (tw_u s3 (11 + Int.toNat li) 4 (tw_w ((s3 (11 + Int.toNat li) 4) + 1))) (11 + Int.toNat li) 2 (tw_w (((tw_u s3 (11 + Int.toNat li) 4 (tw_w ((s3 (11 + Int.toNat li) 4) + 1))) (11 + Int.toNat li) 2) + 1))) (1 + Int.toNat (max ((tw_u (tw_u s3 (11 + Int.toNat li) 4 (tw_w ((s3 (11 + Int.toNat li) 4) + 1))) (11 + Int.toNat li) 2 (tw_w (((tw_u s3 (11 + Int.toNat li) 4 (tw_w ((s3 (11 + Int.toNat li) 4) + 1))) (11 + Int.toNat li) 2) + 1))) (11 + Int.toNat li) 0) ((tw_u (tw_u s3 (11 + Int.toNat li) 4 (tw_w ((s3 (11 + Int.toNat li) 4) + 1))) (11 + Int.toNat li) 2 (tw_w (((tw_u s3 (11 + Int.toNat li) 4 (tw_w ((s3 (11 + Int.toNat li) 4) + 1))) (11 + Int.toNat li) 2) + 1))) (11 + Int.toNat li) 1))) 3 ((tw_u (tw_u s3 (11 + Int.toNat li) 4 (tw_w ((s3 (11 + Int.toNat li) 4) + 1))) (11 + Int.toNat li) 2 (tw_w (((tw_u s3 (11 + Int.toNat li) 4 (tw_w ((s3 (11 + Int.toNat li) 4) + 1))) (11 + Int.toNat li) 2) + 1))) (1 + Int.toNat (min ((tw_u (tw_u s3 (11 + Int.toNat li) 4 (tw_w ((s3 (11 + Int.toNat li) 4) + 1))) (11 + Int.toNat li) 2 (tw_w (((tw_u s3 (11 + Int.toNat li) 4 (tw_w ((s3 (11 + Int.toNat li) 4) + 1))) (11 + Int.toNat li) 2) + 1))) (11 + Int.toNat li) 0) ((tw_u (tw_u s3 (11 + Int.toNat li) 4 (tw_w ((s3 (11 + Int.toNat li) 4) + 1))) (11 + Int.toNat li) 2 (tw_w (((tw_u s3 (11 + Int.toNat li) 4 (tw_w ((s3 (11 + Int.toNat li) 4) + 1))) (11 + Int.toNat li) 2) + 1))) (11 + Int.toNat li) 1))) 3)) (11 + Int.toNat li) 2 0) 0 12) + 1) := Eq.trans (tw_w_of ry164 ey164) (by simp only [t13_]); (try simp only [t0_, t1_, t2_, t3_, t4_, t5_, t6_, t7_, t8_, t9_, t10_, t11_, t12_, t13_, t14_]); unfold tw_mi tw_mi2; (repeat' split) <;> first | rfl | (exfalso; omega)))
set_option maxHeartbeats 4000000 in
set_option maxRecDepth 100000 in
theorem f_meetOrMiss3 (l : Launch) (g : q_G) {K : Nat → Nat} {L : List Nat} (hN : L.Nodup) {f : Nat → va_E} (hT : q_Ty g K L f) (d3 : Nat → Nat) (s3 : tw_S) (v3 : Nat) (hv3 : v3 ∈ L) (kv3 : K v3 = 15) (p0 : Nat) (hp0 : p0 ∈ L) (kp0 : K p0 = 23) (n3 : Nat) (hn3 : n3 ∈ L) (kn3 : K n3 = 113) (l3 : Nat) (hl3 : l3 ∈ L) (kl3 : K l3 = 123) (m3 : Nat) (hm3 : m3 ∈ L) (km3 : K m3 = 133) (li : Int) (lli : 0 ≤ li) (uli : li ≤ 15) (hr0 : q_ir (q_r f v3 0) n3) (hr1 : q_ir (q_r f v3 1) l3) (hr2 : q_ir (q_r f v3 2) m3) (hp0 : p0 = d3 (11 + Int.toNat li)) (hw3 : tw_vw K L 15 19 23 27 f v3 n3 l3 m3 d3 s3) : q_Ct l g K L yX10_meetOrMiss cX10_meetOrMiss 7 none 2 44 [.ref v3, .ref p0] f [(15, 12, 12), (19, 3, 3), (23, 2, 4)] (q_Pv (fun (f1 : Nat → va_E) => (tw_vw K L 15 19 23 27 f1 v3 n3 l3 m3 d3 (tw_mm s3 li)))) := by
  refine q_ofb (by decide +kernel) hN hT (Nat.le_of_ble_eq_true rfl) ?_
  intro p e s m below meth c ls cx hr hlk hB hl
  have hl : lv_has ls 7 [(0, .ref v3), (1, .ref p0)] := hl
  obtain ⟨H, hH⟩ : ∃ H : Heap, H = s.heap := ⟨_, rfl⟩
  obtain ⟨locs, hlocs⟩ : ∃ z : List Loc, z = [] := ⟨_, rfl⟩
  rw [← hH, ← hlocs] at hB
  rw [← hH, ← hlocs]
  refine q_ald_n cx dX10_meetOrMiss_0 rfl (lv_at hl 0 rfl) ?_
  refine q_ald_n cx dX10_meetOrMiss_1 rfl (lv_at hl 1 rfl) ?_
  obtain ⟨x177, ex177⟩ : ∃ zz, q_is (q_z f p0 0) zz := ⟨_, q_isr _⟩
  obtain ⟨lx177, ux177⟩ := q_isb ex177 (q_fib hB.2.1 hp0 kp0 (by decide) rfl)
  obtain ⟨x178, ex178, nx178⟩ : ∃ zz, q_is (q_z f p0 0) zz ∧ zz = x177 := ⟨_, ex177, rfl⟩
  have sx178 : q_is x178 (s3 (11 + Int.toNat li) 0) := tw_g hw3 hp0 (by omega) (by omega) ex178
  refine q_gX10_116_23 cx hB hp0 kp0 ex178 dX10_meetOrMiss_2 (fun lb179 ub179 => ?_)
  refine q_cVr (As := [.int (q_i x178)]) (rest := []) cx hB (fun _ h => h) hN hv3 kv3 (by decide) rfl (f_nodeAt3 l g hN hB.2.1 d3 s3 v3 hv3 kv3 x178 (by omega) (by omega) n3 hn3 kn3 l3 hl3 kl3 m3 hm3 km3 hr0 hr1 hr2 hw3) q_cX10_66 q_dX10_nodeAt (by decide) rfl rfl hl.1 rfl (Nat.le_of_ble_eq_true rfl) dX10_meetOrMiss_5 (fun y181 H locs f180 h182 hF hB => ?_)
  obtain ⟨rfl, hy181, ky181, t183⟩ := h182
  refine lv_astore_n (lv' := [(2, .ref y181), (0, .ref v3), (1, .ref p0)]) cx.1 cx.2.1 dX10_meetOrMiss_8 rfl hl (by decide) rfl (fun ls hl => ?_)
  refine q_ald_n cx dX10_meetOrMiss_9 rfl (lv_at hl 1 rfl) ?_
  refine q_ald_n cx dX10_meetOrMiss_10 rfl (lv_at hl 2 rfl) ?_
  obtain ⟨x184, ex184⟩ : ∃ zz, q_is (q_z f p0 1) zz := ⟨_, q_isr _⟩
  obtain ⟨lx184, ux184⟩ := q_isb ex184 (q_fib hB.2.1 hp0 kp0 (by decide) rfl)
  obtain ⟨x185, ex185, nx185⟩ : ∃ zz, q_is (q_z f p0 1) zz ∧ zz = x184 := ⟨_, ex184, rfl⟩
  have sx185 : q_is x185 (s3 (11 + Int.toNat li) 1) := tw_g hw3 hp0 (by omega) (by omega) ex185
  refine q_gX10_119_23 cx hB hp0 kp0 ex185 dX10_meetOrMiss_11 (fun lb186 ub186 => ?_)
  refine q_cVr (As := [.int (q_i x185)]) (rest := []) cx hB (fun _ h => h) hN hv3 kv3 (by decide) rfl (f_nodeAt3 l g hN hB.2.1 d3 s3 v3 hv3 kv3 x185 (by omega) (by omega) n3 hn3 kn3 l3 hl3 kl3 m3 hm3 km3 hr0 hr1 hr2 hw3) q_cX10_66 q_dX10_nodeAt (by decide) rfl rfl hl.1 rfl (Nat.le_of_ble_eq_true rfl) dX10_meetOrMiss_14 (fun y188 H locs f187 h189 hF hB => ?_)
  obtain ⟨rfl, hy188, ky188, t190⟩ := h189
  refine lv_astore_n (lv' := [(3, .ref y188), (2, .ref y181), (0, .ref v3), (1, .ref p0)]) cx.1 cx.2.1 dX10_meetOrMiss_17 rfl hl (by decide) rfl (fun ls hl => ?_)
  refine q_ald_n cx dX10_meetOrMiss_18 rfl (lv_at hl 1 rfl) ?_
  obtain ⟨x191, ex191⟩ : ∃ zz, q_is (q_z f y181 4) zz := ⟨_, q_isr _⟩
  obtain ⟨lx191, ux191⟩ := q_isb ex191 (q_fib hB.2.1 hy181 ky181 (by decide) rfl)
  obtain ⟨x192, ex192, nx192⟩ : ∃ zz, q_is (q_z f y181 4) zz ∧ zz = x191 := ⟨_, ex191, rfl⟩
  have sx192 : q_is x192 (s3 (1 + Int.toNat x178) 4) := tw_g hw3 t183 (by omega) (by omega) ex192
  refine q_gX10_101_19 cx hB hy181 ky181 ex192 dX10_meetOrMiss_19 (fun lb193 ub193 => ?_)
  refine q_ifeq (tgt := 32) cx ⟨by omega, by omega⟩ dX10_meetOrMiss_22 (by decide) (fun c194 => ?_) (fun c194 => ?_)
  · refine q_vret cx hr hlk hB dX10_meetOrMiss_32 ?_
    exact (tw_cg hw3 (by have t0_ : x178 = s3 (11 + Int.toNat li) 0 := sx178; have t1_ : x185 = s3 (11 + Int.toNat li) 1 := sx185; have t2_ : x192 = s3 (1 + Int.toNat (s3 (11 + Int.toNat li) 0)) 4 := Eq.trans sx192 (by simp only [t0_]); (try simp only [t0_, t1_, t2_]); unfold tw_mm tw_mm2 tw_mm3; (repeat' split) <;> first | rfl | (exfalso; omega)))
  · refine q_ald_n cx dX10_meetOrMiss_25 rfl (lv_at hl 0 rfl) ?_
    obtain ⟨x195, ex195⟩ : ∃ zz, q_is (q_z f y188 4) zz := ⟨_, q_isr _⟩
    obtain ⟨lx195, ux195⟩ := q_isb ex195 (q_fib hB.2.1 hy188 ky188 (by decide) rfl)
    obtain ⟨x196, ex196, nx196⟩ : ∃ zz, q_is (q_z f y188 4) zz ∧ zz = x195 := ⟨_, ex195, rfl⟩
    have sx196 : q_is x196 (s3 (1 + Int.toNat x185) 4) := tw_g hw3 t190 (by omega) (by omega) ex196
    refine q_gX10_101_19 cx hB hy188 ky188 ex196 dX10_meetOrMiss_26 (fun lb197 ub197 => ?_)
    refine q_ifne (tgt := 33) cx ⟨by omega, by omega⟩ dX10_meetOrMiss_29 (by decide) (fun c198 => ?_) (fun c198 => ?_)
    · refine q_ald_n cx dX10_meetOrMiss_33 rfl (lv_at hl 2 rfl) ?_
      obtain ⟨x199, ex199⟩ : ∃ zz, q_is (q_z f v3 13) zz := ⟨_, q_isr _⟩
      obtain ⟨lx199, ux199⟩ := q_isb ex199 (q_fib hB.2.1 hv3 kv3 (by decide) rfl)
      obtain ⟨x200, ex200, nx200⟩ : ∃ zz, q_is (q_z f v3 13) zz ∧ zz = x199 := ⟨_, ex199, rfl⟩
      have sx200 : q_is x200 (s3 0 13) := tw_g hw3 (tw_v0 hw3) (by omega) (by omega) ex200
      refine q_gX10_262_15 cx hB hv3 kv3 ex200 dX10_meetOrMiss_34 (fun lb201 ub201 => ?_)
      refine q_ald_n cx dX10_meetOrMiss_37 rfl (lv_at hl 3 rfl) ?_
      obtain ⟨x202, ex202, nx202⟩ : ∃ zz, q_is (q_z f p0 0) zz ∧ zz = x177 := ⟨_, ex177, rfl⟩
      have sx202 : q_is x202 (s3 (11 + Int.toNat li) 0) := tw_g hw3 hp0 (by omega) (by omega) ex202
      refine q_gX10_116_23 cx hB hp0 kp0 ex202 dX10_meetOrMiss_38 (fun lb203 ub203 => ?_)
      refine q_cSi (As := [.int (q_i x200), .int (q_i x202)]) (rest := []) cx hB (fun _ h => h) hN (f_has l g hN hB.2.1 x200 (by omega) (by omega) x202 (by omega) (by omega)) q_cX10_181 q_dX10_has (by decide) rfl rfl hl.1 rfl (Nat.le_of_ble_eq_true rfl) dX10_meetOrMiss_41 (fun y205 H locs f204 ry205 h206 hF hB => ?_)
      rcases h206 with h207 | h208
      · obtain ⟨rfl, qy205, t209⟩ := h207
        subst qy205
        refine lv_istore (lv' := [(4, .int (q_i 1)), (3, .ref y188), (2, .ref y181), (0, .ref v3), (1, .ref p0)]) cx.1 cx.2.1 dX10_meetOrMiss_44 hl (by decide) rfl (fun ls hl => ?_)
        refine q_ald_n cx dX10_meetOrMiss_46 rfl (lv_at hl 3 rfl) ?_
        obtain ⟨x210, ex210, nx210⟩ : ∃ zz, q_is (q_z f v3 13) zz ∧ zz = x199 := ⟨_, ex199, rfl⟩
        have sx210 : q_is x210 (s3 0 13) := tw_g hw3 (tw_v0 hw3) (by omega) (by omega) ex210
        refine q_gX10_262_15 cx hB hv3 kv3 ex210 dX10_meetOrMiss_47 (fun lb211 ub211 => ?_)
        refine q_ald_n cx dX10_meetOrMiss_50 rfl (lv_at hl 4 rfl) ?_
        obtain ⟨x212, ex212, nx212⟩ : ∃ zz, q_is (q_z f p0 1) zz ∧ zz = x184 := ⟨_, ex184, rfl⟩
        have sx212 : q_is x212 (s3 (11 + Int.toNat li) 1) := tw_g hw3 hp0 (by omega) (by omega) ex212
        refine q_gX10_119_23 cx hB hp0 kp0 ex212 dX10_meetOrMiss_51 (fun lb213 ub213 => ?_)
        refine q_cSi (As := [.int (q_i x210), .int (q_i x212)]) (rest := []) cx hB (fun _ h => h) hN (f_has l g hN hB.2.1 x210 (by omega) (by omega) x212 (by omega) (by omega)) q_cX10_181 q_dX10_has (by decide) rfl rfl hl.1 rfl (Nat.le_of_ble_eq_true rfl) dX10_meetOrMiss_54 (fun y215 H locs f214 ry215 h216 hF hB => ?_)
        rcases h216 with h217 | h218
        · obtain ⟨rfl, qy215, t219⟩ := h217
          subst qy215
          refine lv_istore (lv' := [(5, .int (q_i 1)), (4, .int (q_i 1)), (3, .ref y188), (2, .ref y181), (0, .ref v3), (1, .ref p0)]) cx.1 cx.2.1 dX10_meetOrMiss_57 hl (by decide) rfl (fun ls hl => ?_)
          refine lv_iload cx.1 cx.2.1 dX10_meetOrMiss_59 (lv_at hl 1 rfl) ?_
          refine q_ifeq (tgt := 87) cx ⟨by decide, by decide⟩ dX10_meetOrMiss_61 (by decide) (fun c220 => ?_) (fun c220 => ?_)
          · exact absurd c220 (by omega)
          · refine lv_iload cx.1 cx.2.1 dX10_meetOrMiss_64 (lv_at hl 0 rfl) ?_
            refine q_ifeq (tgt := 87) cx ⟨by decide, by decide⟩ dX10_meetOrMiss_66 (by decide) (fun c221 => ?_) (fun c221 => ?_)
            · exact absurd c221 (by omega)
            · refine q_ald_n cx dX10_meetOrMiss_69 rfl (lv_at hl 5 rfl) ?_
              refine lv_dup cx.1 cx.2.1 dX10_meetOrMiss_70 rfl ?_
              obtain ⟨x222, ex222⟩ : ∃ zz, q_is (q_z f p0 3) zz := ⟨_, q_isr _⟩
              obtain ⟨lx222, ux222⟩ := q_isb ex222 (q_fib hB.2.1 hp0 kp0 (by decide) rfl)
              obtain ⟨x223, ex223, nx223⟩ : ∃ zz, q_is (q_z f p0 3) zz ∧ zz = x222 := ⟨_, ex222, rfl⟩
              have sx223 : q_is x223 (s3 (11 + Int.toNat li) 3) := tw_g hw3 hp0 (by omega) (by omega) ex223
              refine q_gX10_125_23 cx hB hp0 kp0 ex223 dX10_meetOrMiss_71 (fun lb224 ub224 => ?_)
              refine q_iconst cx dX10_meetOrMiss_74 ?_
              refine q_iadd cx dX10_meetOrMiss_75 ?_
              refine q_any (fun y225 ry225 ey225 => ?_)
              refine q_pX10_125_23 cx hB hp0 kp0 ⟨by omega, by omega⟩ (by omega) (by omega) rfl dX10_meetOrMiss_76 (fun H locs f226 ef226 z227 hB => ?_)
              have z228 : q_is (q_z f226 p0 0) x177 := by rw [ef226, q_setz (Or.inr (by decide))]; exact ex177
              have z229 : q_is (q_z f226 p0 1) x184 := by rw [ef226, q_setz (Or.inr (by decide))]; exact ex184
              have z230 : q_is (q_z f226 y181 4) x191 := by rw [ef226, q_setz (Or.inr (by decide))]; exact ex191
              have z231 : q_is (q_z f226 y188 4) x195 := by rw [ef226, q_setz (Or.inr (by decide))]; exact ex195
              have z232 : q_is (q_z f226 v3 13) x199 := by rw [ef226, q_setz (Or.inr (by decide))]; exact ex199
              have z233 : q_ir (q_r f226 v3 0) n3 := by rw [ef226, q_setr (Or.inr (by decide))]; exact hr0
              have z234 : q_ir (q_r f226 v3 1) l3 := by rw [ef226, q_setr (Or.inr (by decide))]; exact hr1
              have z235 : q_ir (q_r f226 v3 2) m3 := by rw [ef226, q_setr (Or.inr (by decide))]; exact hr2
              have g236 : tw_vw K L 15 19 23 27 f226 v3 n3 l3 m3 d3 (tw_u s3 (11 + Int.toNat li) 3 y225) := tw_vw_s hw3 hp0 (by omega) (by omega) ef226 z227 (fun i9 => by rw [ef226, q_setr (Or.inl (fun q => by rw [q, kp0] at kn3; exact absurd kn3 (by decide)))]) (fun i9 => by rw [ef226, q_setr (Or.inl (fun q => by rw [q, kp0] at kl3; exact absurd kl3 (by decide)))]) (fun i9 => by rw [ef226, q_setr (Or.inl (fun q => by rw [q, kp0] at km3; exact absurd km3 (by decide)))])
              refine q_ald_n cx dX10_meetOrMiss_79 rfl (lv_at hl 5 rfl) ?_
              refine q_iconst cx dX10_meetOrMiss_80 ?_
              refine q_pX10_122_23 cx hB hp0 kp0 ⟨by decide, by decide⟩ (by decide) (by decide) rfl dX10_meetOrMiss_81 (fun H locs f237 ef237 z238 hB => ?_)
              have z239 : q_is (q_z f237 p0 0) x177 := by rw [ef237, q_setz (Or.inr (by decide))]; exact z228
              have z240 : q_is (q_z f237 p0 1) x184 := by rw [ef237, q_setz (Or.inr (by decide))]; exact z229
              have z241 : q_is (q_z f237 y181 4) x191 := by rw [ef237, q_setz (Or.inr (by decide))]; exact z230
              have z242 : q_is (q_z f237 y188 4) x195 := by rw [ef237, q_setz (Or.inr (by decide))]; exact z231
              have z243 : q_is (q_z f237 v3 13) x199 := by rw [ef237, q_setz (Or.inr (by decide))]; exact z232
              have z244 : q_is (q_z f237 p0 3) y225 := by rw [ef237, q_setz (Or.inr (by decide))]; exact z227
              have z245 : q_ir (q_r f237 v3 0) n3 := by rw [ef237, q_setr (Or.inr (by decide))]; exact z233
              have z246 : q_ir (q_r f237 v3 1) l3 := by rw [ef237, q_setr (Or.inr (by decide))]; exact z234
              have z247 : q_ir (q_r f237 v3 2) m3 := by rw [ef237, q_setr (Or.inl (fun q => by rw [q, kp0] at kv3; exact absurd kv3 (by decide)))]; exact z235
              have g248 : tw_vw K L 15 19 23 27 f237 v3 n3 l3 m3 d3 (tw_u (tw_u s3 (11 + Int.toNat li) 3 y225) (11 + Int.toNat li) 2 0) := tw_vw_s g236 hp0 (by omega) (by omega) ef237 z238 (fun i9 => by rw [ef237, q_setr (Or.inl (fun q => by rw [q, kp0] at kn3; exact absurd kn3 (by decide)))]) (fun i9 => by rw [ef237, q_setr (Or.inl (fun q => by rw [q, kp0] at kl3; exact absurd kl3 (by decide)))]) (fun i9 => by rw [ef237, q_setr (Or.inl (fun q => by rw [q, kp0] at km3; exact absurd km3 (by decide)))])
              refine lv_goto (tgt := 138) cx.1 cx.2.1 dX10_meetOrMiss_84 (by decide) ?_
              refine q_vret cx hr hlk hB dX10_meetOrMiss_138 ?_
              exact (tw_cg g248 (by have t0_ : x178 = s3 (11 + Int.toNat li) 0 := sx178; have t1_ : x185 = s3 (11 + Int.toNat li) 1 := sx185; have t2_ : x192 = s3 (1 + Int.toNat (s3 (11 + Int.toNat li) 0)) 4 := Eq.trans sx192 (by simp only [t0_]); have t3_ : x196 = s3 (1 + Int.toNat (s3 (11 + Int.toNat li) 1)) 4 := Eq.trans sx196 (by simp only [t1_]); have t4_ : x200 = s3 0 13 := sx200; have t5_ : x202 = s3 (11 + Int.toNat li) 0 := sx202; have t6_ : x210 = s3 0 13 := sx210; have t7_ : x212 = s3 (11 + Int.toNat li) 1 := sx212; have t8_ : x223 = s3 (11 + Int.toNat li) 3 := sx223; have t9_ : y225 = tw_w ((s3 (11 + Int.toNat li) 3) + 1) := Eq.trans (tw_w_of ry225 ey225) (by simp only [t8_]); have u0_ : tw_hz (s3 0 13) (s3 (11 + Int.toNat li) 0) = 1 := (by have e9 := t209; simp only [t4_, t5_] at e9; exact e9); have u1_ : tw_hz (s3 0 13) (s3 (11 + Int.toNat li) 1) = 1 := (by have e9 := t219; simp only [t6_, t7_] at e9; exact e9); (try simp only [t0_, t1_, t2_, t3_, t4_, t5_, t6_, t7_, t8_, t9_]); unfold tw_mm tw_mm2 tw_mm3; (repeat' split) <;> first | rfl | (exfalso; omega)))
        · obtain ⟨rfl, qy215, t249⟩ := h218
          subst qy215
          refine lv_istore (lv' := [(5, .int (q_i 0)), (4, .int (q_i 1)), (3, .ref y188), (2, .ref y181), (0, .ref v3), (1, .ref p0)]) cx.1 cx.2.1 dX10_meetOrMiss_57 hl (by decide) rfl (fun ls hl => ?_)
          refine lv_iload cx.1 cx.2.1 dX10_meetOrMiss_59 (lv_at hl 1 rfl) ?_
          refine q_ifeq (tgt := 87) cx ⟨by decide, by decide⟩ dX10_meetOrMiss_61 (by decide) (fun c250 => ?_) (fun c250 => ?_)
          · exact absurd c250 (by omega)
          · refine lv_iload cx.1 cx.2.1 dX10_meetOrMiss_64 (lv_at hl 0 rfl) ?_
            refine q_ifeq (tgt := 87) cx ⟨by decide, by decide⟩ dX10_meetOrMiss_66 (by decide) (fun c251 => ?_) (fun c251 => ?_)
            · refine lv_iload cx.1 cx.2.1 dX10_meetOrMiss_87 (lv_at hl 1 rfl) ?_
              refine q_ifne (tgt := 97) cx ⟨by decide, by decide⟩ dX10_meetOrMiss_89 (by decide) (fun c252 => ?_) (fun c252 => ?_)
              · refine lv_iload cx.1 cx.2.1 dX10_meetOrMiss_97 (lv_at hl 1 rfl) ?_
                refine q_ifeq (tgt := 109) cx ⟨by decide, by decide⟩ dX10_meetOrMiss_99 (by decide) (fun c253 => ?_) (fun c253 => ?_)
                · exact absurd c253 (by omega)
                · refine q_ald_n cx dX10_meetOrMiss_102 rfl (lv_at hl 3 rfl) ?_
                  obtain ⟨x254, ex254⟩ : ∃ zz, q_is (q_z f y181 9) zz := ⟨_, q_isr _⟩
                  obtain ⟨lx254, ux254⟩ := q_isb ex254 (q_fib hB.2.1 hy181 ky181 (by decide) rfl)
                  obtain ⟨x255, ex255, nx255⟩ : ∃ zz, q_is (q_z f y181 9) zz ∧ zz = x254 := ⟨_, ex254, rfl⟩
                  have sx255 : q_is x255 (s3 (1 + Int.toNat x178) 9) := tw_g hw3 t183 (by omega) (by omega) ex255
                  refine q_gX10_265_19 cx hB hy181 ky181 ex255 dX10_meetOrMiss_103 (fun lb256 ub256 => ?_)
                  refine lv_goto (tgt := 113) cx.1 cx.2.1 dX10_meetOrMiss_106 (by decide) ?_
                  refine lv_istore (lv' := [(6, .int (q_i x255)), (5, .int (q_i 0)), (4, .int (q_i 1)), (3, .ref y188), (2, .ref y181), (0, .ref v3), (1, .ref p0)]) cx.1 cx.2.1 dX10_meetOrMiss_113 hl (by decide) rfl (fun ls hl => ?_)
                  refine lv_iload cx.1 cx.2.1 dX10_meetOrMiss_115 (lv_at hl 0 rfl) ?_
                  refine q_ald_n cx dX10_meetOrMiss_117 rfl (lv_at hl 4 rfl) ?_
                  obtain ⟨x257, ex257⟩ : ∃ zz, q_is (q_z f y181 2) zz := ⟨_, q_isr _⟩
                  obtain ⟨lx257, ux257⟩ := q_isb ex257 (q_fib hB.2.1 hy181 ky181 (by decide) rfl)
                  obtain ⟨x258, ex258, nx258⟩ : ∃ zz, q_is (q_z f y181 2) zz ∧ zz = x257 := ⟨_, ex257, rfl⟩
                  have sx258 : q_is x258 (s3 (1 + Int.toNat x178) 2) := tw_g hw3 t183 (by omega) (by omega) ex258
                  refine q_gX10_95_19 cx hB hy181 ky181 ex258 dX10_meetOrMiss_118 (fun lb259 ub259 => ?_)
                  refine q_iceq (tgt := 133) cx ⟨by omega, by omega⟩ ⟨by omega, by omega⟩ dX10_meetOrMiss_121 (by decide) (fun c260 => ?_) (fun c260 => ?_)
                  · refine q_ald_n cx dX10_meetOrMiss_133 rfl (lv_at hl 5 rfl) ?_
                    refine q_ald_n cx dX10_meetOrMiss_134 rfl (lv_at hl 6 rfl) ?_
                    refine q_cVv (As := [.ref p0]) (rest := []) cx hB (fun _ h => h) hN hv3 kv3 (by decide) rfl (f_miss3 l g hN hB.2.1 d3 s3 v3 hv3 kv3 p0 hp0 kp0 n3 hn3 kn3 l3 hl3 kl3 m3 hm3 km3 li (by omega) (by omega) hr0 hr1 hr2 hp0 hw3) q_cX10_268 q_dX10_miss (by decide) rfl rfl hl.1 rfl (Nat.le_of_ble_eq_true rfl) dX10_meetOrMiss_135 (fun H locs f261 h263 hF hB => ?_)
                    have g264 := h263
                    have z265 : q_is (q_z f261 p0 0) x177 := Eq.trans (hF.z hp0 (by rw [kp0]; rfl)) ex177
                    have z266 : q_is (q_z f261 p0 1) x184 := Eq.trans (hF.z hp0 (by rw [kp0]; rfl)) ex184
                    have z267 : q_is (q_z f261 y181 4) x191 := Eq.trans (hF.z hy181 (by rw [ky181]; rfl)) ex191
                    have z268 : q_is (q_z f261 y188 4) x195 := Eq.trans (hF.z hy188 (by rw [ky188]; rfl)) ex195
                    have z269 : q_is (q_z f261 v3 13) x199 := Eq.trans (hF.z hv3 (by rw [kv3]; rfl)) ex199
                    have z270 : q_is (q_z f261 y181 9) x254 := Eq.trans (hF.z hy181 (by rw [ky181]; rfl)) ex254
                    have z271 : q_is (q_z f261 y181 2) x257 := Eq.trans (hF.z hy181 (by rw [ky181]; rfl)) ex257
                    have z272 : q_ir (q_r f261 v3 0) n3 := Eq.trans (hF.r hv3 (by rw [kv3]; rfl)) hr0
                    have z273 : q_ir (q_r f261 v3 1) l3 := Eq.trans (hF.r hv3 (by rw [kv3]; rfl)) hr1
                    have z274 : q_ir (q_r f261 v3 2) m3 := Eq.trans (hF.r hv3 (by rw [kv3]; rfl)) hr2
                    refine q_vret cx hr hlk hB dX10_meetOrMiss_138 ?_
                    exact (tw_cg g264 (by have t0_ : x178 = s3 (11 + Int.toNat li) 0 := sx178; have t1_ : x185 = s3 (11 + Int.toNat li) 1 := sx185; have t2_ : x192 = s3 (1 + Int.toNat (s3 (11 + Int.toNat li) 0)) 4 := Eq.trans sx192 (by simp only [t0_]); have t3_ : x196 = s3 (1 + Int.toNat (s3 (11 + Int.toNat li) 1)) 4 := Eq.trans sx196 (by simp only [t1_]); have t4_ : x200 = s3 0 13 := sx200; have t5_ : x202 = s3 (11 + Int.toNat li) 0 := sx202; have t6_ : x210 = s3 0 13 := sx210; have t7_ : x212 = s3 (11 + Int.toNat li) 1 := sx212; have t8_ : x255 = s3 (1 + Int.toNat (s3 (11 + Int.toNat li) 0)) 9 := Eq.trans sx255 (by simp only [t0_]); have t9_ : x258 = s3 (1 + Int.toNat (s3 (11 + Int.toNat li) 0)) 2 := Eq.trans sx258 (by simp only [t0_]); have u0_ : tw_hz (s3 0 13) (s3 (11 + Int.toNat li) 0) = 1 := (by have e9 := t209; simp only [t4_, t5_] at e9; exact e9); have u1_ : tw_hz (s3 0 13) (s3 (11 + Int.toNat li) 1) = 0 := (by have e9 := t249; simp only [t6_, t7_] at e9; exact e9); (try simp only [t0_, t1_, t2_, t3_, t4_, t5_, t6_, t7_, t8_, t9_]); unfold tw_mm tw_mm2 tw_mm3; (repeat' split) <;> first | rfl | (exfalso; omega)))
                  · refine lv_iload cx.1 cx.2.1 dX10_meetOrMiss_124 (lv_at hl 0 rfl) ?_
                    refine q_ald_n cx dX10_meetOrMiss_126 rfl (lv_at hl 3 rfl) ?_
                    obtain ⟨x275, ex275⟩ : ∃ zz, q_is (q_z f y188 2) zz := ⟨_, q_isr _⟩
                    obtain ⟨lx275, ux275⟩ := q_isb ex275 (q_fib hB.2.1 hy188 ky188 (by decide) rfl)
                    obtain ⟨x276, ex276, nx276⟩ : ∃ zz, q_is (q_z f y188 2) zz ∧ zz = x275 := ⟨_, ex275, rfl⟩
                    have sx276 : q_is x276 (s3 (1 + Int.toNat x185) 2) := tw_g hw3 t190 (by omega) (by omega) ex276
                    refine q_gX10_95_19 cx hB hy188 ky188 ex276 dX10_meetOrMiss_127 (fun lb277 ub277 => ?_)
                    refine q_icne (tgt := 138) cx ⟨by omega, by omega⟩ ⟨by omega, by omega⟩ dX10_meetOrMiss_130 (by decide) (fun c278 => ?_) (fun c278 => ?_)
                    · refine q_vret cx hr hlk hB dX10_meetOrMiss_138 ?_
                      exact (tw_cg hw3 (by have t0_ : x178 = s3 (11 + Int.toNat li) 0 := sx178; have t1_ : x185 = s3 (11 + Int.toNat li) 1 := sx185; have t2_ : x192 = s3 (1 + Int.toNat (s3 (11 + Int.toNat li) 0)) 4 := Eq.trans sx192 (by simp only [t0_]); have t3_ : x196 = s3 (1 + Int.toNat (s3 (11 + Int.toNat li) 1)) 4 := Eq.trans sx196 (by simp only [t1_]); have t4_ : x200 = s3 0 13 := sx200; have t5_ : x202 = s3 (11 + Int.toNat li) 0 := sx202; have t6_ : x210 = s3 0 13 := sx210; have t7_ : x212 = s3 (11 + Int.toNat li) 1 := sx212; have t8_ : x255 = s3 (1 + Int.toNat (s3 (11 + Int.toNat li) 0)) 9 := Eq.trans sx255 (by simp only [t0_]); have t9_ : x258 = s3 (1 + Int.toNat (s3 (11 + Int.toNat li) 0)) 2 := Eq.trans sx258 (by simp only [t0_]); have t10_ : x276 = s3 (1 + Int.toNat (s3 (11 + Int.toNat li) 1)) 2 := Eq.trans sx276 (by simp only [t1_]); have u0_ : tw_hz (s3 0 13) (s3 (11 + Int.toNat li) 0) = 1 := (by have e9 := t209; simp only [t4_, t5_] at e9; exact e9); have u1_ : tw_hz (s3 0 13) (s3 (11 + Int.toNat li) 1) = 0 := (by have e9 := t249; simp only [t6_, t7_] at e9; exact e9); (try simp only [t0_, t1_, t2_, t3_, t4_, t5_, t6_, t7_, t8_, t9_, t10_]); unfold tw_mm tw_mm2 tw_mm3; (repeat' split) <;> first | rfl | (exfalso; omega)))
                    · refine q_ald_n cx dX10_meetOrMiss_133 rfl (lv_at hl 5 rfl) ?_
                      refine q_ald_n cx dX10_meetOrMiss_134 rfl (lv_at hl 6 rfl) ?_
                      refine q_cVv (As := [.ref p0]) (rest := []) cx hB (fun _ h => h) hN hv3 kv3 (by decide) rfl (f_miss3 l g hN hB.2.1 d3 s3 v3 hv3 kv3 p0 hp0 kp0 n3 hn3 kn3 l3 hl3 kl3 m3 hm3 km3 li (by omega) (by omega) hr0 hr1 hr2 hp0 hw3) q_cX10_268 q_dX10_miss (by decide) rfl rfl hl.1 rfl (Nat.le_of_ble_eq_true rfl) dX10_meetOrMiss_135 (fun H locs f279 h281 hF hB => ?_)
                      have g282 := h281
                      have z283 : q_is (q_z f279 p0 0) x177 := Eq.trans (hF.z hp0 (by rw [kp0]; rfl)) ex177
                      have z284 : q_is (q_z f279 p0 1) x184 := Eq.trans (hF.z hp0 (by rw [kp0]; rfl)) ex184
                      have z285 : q_is (q_z f279 y181 4) x191 := Eq.trans (hF.z hy181 (by rw [ky181]; rfl)) ex191
                      have z286 : q_is (q_z f279 y188 4) x195 := Eq.trans (hF.z hy188 (by rw [ky188]; rfl)) ex195
                      have z287 : q_is (q_z f279 v3 13) x199 := Eq.trans (hF.z hv3 (by rw [kv3]; rfl)) ex199
                      have z288 : q_is (q_z f279 y181 9) x254 := Eq.trans (hF.z hy181 (by rw [ky181]; rfl)) ex254
                      have z289 : q_is (q_z f279 y181 2) x257 := Eq.trans (hF.z hy181 (by rw [ky181]; rfl)) ex257
                      have z290 : q_is (q_z f279 y188 2) x275 := Eq.trans (hF.z hy188 (by rw [ky188]; rfl)) ex275
                      have z291 : q_ir (q_r f279 v3 0) n3 := Eq.trans (hF.r hv3 (by rw [kv3]; rfl)) hr0
                      have z292 : q_ir (q_r f279 v3 1) l3 := Eq.trans (hF.r hv3 (by rw [kv3]; rfl)) hr1
                      have z293 : q_ir (q_r f279 v3 2) m3 := Eq.trans (hF.r hv3 (by rw [kv3]; rfl)) hr2
                      refine q_vret cx hr hlk hB dX10_meetOrMiss_138 ?_
                      exact (tw_cg g282 (by have t0_ : x178 = s3 (11 + Int.toNat li) 0 := sx178; have t1_ : x185 = s3 (11 + Int.toNat li) 1 := sx185; have t2_ : x192 = s3 (1 + Int.toNat (s3 (11 + Int.toNat li) 0)) 4 := Eq.trans sx192 (by simp only [t0_]); have t3_ : x196 = s3 (1 + Int.toNat (s3 (11 + Int.toNat li) 1)) 4 := Eq.trans sx196 (by simp only [t1_]); have t4_ : x200 = s3 0 13 := sx200; have t5_ : x202 = s3 (11 + Int.toNat li) 0 := sx202; have t6_ : x210 = s3 0 13 := sx210; have t7_ : x212 = s3 (11 + Int.toNat li) 1 := sx212; have t8_ : x255 = s3 (1 + Int.toNat (s3 (11 + Int.toNat li) 0)) 9 := Eq.trans sx255 (by simp only [t0_]); have t9_ : x258 = s3 (1 + Int.toNat (s3 (11 + Int.toNat li) 0)) 2 := Eq.trans sx258 (by simp only [t0_]); have t10_ : x276 = s3 (1 + Int.toNat (s3 (11 + Int.toNat li) 1)) 2 := Eq.trans sx276 (by simp only [t1_]); have u0_ : tw_hz (s3 0 13) (s3 (11 + Int.toNat li) 0) = 1 := (by have e9 := t209; simp only [t4_, t5_] at e9; exact e9); have u1_ : tw_hz (s3 0 13) (s3 (11 + Int.toNat li) 1) = 0 := (by have e9 := t249; simp only [t6_, t7_] at e9; exact e9); (try simp only [t0_, t1_, t2_, t3_, t4_, t5_, t6_, t7_, t8_, t9_, t10_]); unfold tw_mm tw_mm2 tw_mm3; (repeat' split) <;> first | rfl | (exfalso; omega)))
              · exact absurd c252 (by omega)
            · exact absurd c251 (by omega)
      · obtain ⟨rfl, qy205, t294⟩ := h208
        subst qy205
        refine lv_istore (lv' := [(4, .int (q_i 0)), (3, .ref y188), (2, .ref y181), (0, .ref v3), (1, .ref p0)]) cx.1 cx.2.1 dX10_meetOrMiss_44 hl (by decide) rfl (fun ls hl => ?_)
        refine q_ald_n cx dX10_meetOrMiss_46 rfl (lv_at hl 3 rfl) ?_
        obtain ⟨x295, ex295, nx295⟩ : ∃ zz, q_is (q_z f v3 13) zz ∧ zz = x199 := ⟨_, ex199, rfl⟩
        have sx295 : q_is x295 (s3 0 13) := tw_g hw3 (tw_v0 hw3) (by omega) (by omega) ex295
        refine q_gX10_262_15 cx hB hv3 kv3 ex295 dX10_meetOrMiss_47 (fun lb296 ub296 => ?_)
        refine q_ald_n cx dX10_meetOrMiss_50 rfl (lv_at hl 4 rfl) ?_
        obtain ⟨x297, ex297, nx297⟩ : ∃ zz, q_is (q_z f p0 1) zz ∧ zz = x184 := ⟨_, ex184, rfl⟩
        have sx297 : q_is x297 (s3 (11 + Int.toNat li) 1) := tw_g hw3 hp0 (by omega) (by omega) ex297
        refine q_gX10_119_23 cx hB hp0 kp0 ex297 dX10_meetOrMiss_51 (fun lb298 ub298 => ?_)
        refine q_cSi (As := [.int (q_i x295), .int (q_i x297)]) (rest := []) cx hB (fun _ h => h) hN (f_has l g hN hB.2.1 x295 (by omega) (by omega) x297 (by omega) (by omega)) q_cX10_181 q_dX10_has (by decide) rfl rfl hl.1 rfl (Nat.le_of_ble_eq_true rfl) dX10_meetOrMiss_54 (fun y300 H locs f299 ry300 h301 hF hB => ?_)
        rcases h301 with h302 | h303
        · obtain ⟨rfl, qy300, t304⟩ := h302
          subst qy300
          refine lv_istore (lv' := [(5, .int (q_i 1)), (4, .int (q_i 0)), (3, .ref y188), (2, .ref y181), (0, .ref v3), (1, .ref p0)]) cx.1 cx.2.1 dX10_meetOrMiss_57 hl (by decide) rfl (fun ls hl => ?_)
          refine lv_iload cx.1 cx.2.1 dX10_meetOrMiss_59 (lv_at hl 1 rfl) ?_
          refine q_ifeq (tgt := 87) cx ⟨by decide, by decide⟩ dX10_meetOrMiss_61 (by decide) (fun c305 => ?_) (fun c305 => ?_)
          · refine lv_iload cx.1 cx.2.1 dX10_meetOrMiss_87 (lv_at hl 1 rfl) ?_
            refine q_ifne (tgt := 97) cx ⟨by decide, by decide⟩ dX10_meetOrMiss_89 (by decide) (fun c306 => ?_) (fun c306 => ?_)
            · exact absurd c306 (by omega)
            · refine lv_iload cx.1 cx.2.1 dX10_meetOrMiss_92 (lv_at hl 0 rfl) ?_
              refine q_ifeq (tgt := 138) cx ⟨by decide, by decide⟩ dX10_meetOrMiss_94 (by decide) (fun c307 => ?_) (fun c307 => ?_)
              · exact absurd c307 (by omega)
              · refine lv_iload cx.1 cx.2.1 dX10_meetOrMiss_97 (lv_at hl 1 rfl) ?_
                refine q_ifeq (tgt := 109) cx ⟨by decide, by decide⟩ dX10_meetOrMiss_99 (by decide) (fun c308 => ?_) (fun c308 => ?_)
                · refine q_ald_n cx dX10_meetOrMiss_109 rfl (lv_at hl 2 rfl) ?_
                  obtain ⟨x309, ex309⟩ : ∃ zz, q_is (q_z f y188 9) zz := ⟨_, q_isr _⟩
                  obtain ⟨lx309, ux309⟩ := q_isb ex309 (q_fib hB.2.1 hy188 ky188 (by decide) rfl)
                  obtain ⟨x310, ex310, nx310⟩ : ∃ zz, q_is (q_z f y188 9) zz ∧ zz = x309 := ⟨_, ex309, rfl⟩
                  have sx310 : q_is x310 (s3 (1 + Int.toNat x185) 9) := tw_g hw3 t190 (by omega) (by omega) ex310
                  refine q_gX10_265_19 cx hB hy188 ky188 ex310 dX10_meetOrMiss_110 (fun lb311 ub311 => ?_)
                  refine lv_istore (lv' := [(6, .int (q_i x310)), (5, .int (q_i 1)), (4, .int (q_i 0)), (3, .ref y188), (2, .ref y181), (0, .ref v3), (1, .ref p0)]) cx.1 cx.2.1 dX10_meetOrMiss_113 hl (by decide) rfl (fun ls hl => ?_)
                  refine lv_iload cx.1 cx.2.1 dX10_meetOrMiss_115 (lv_at hl 0 rfl) ?_
                  refine q_ald_n cx dX10_meetOrMiss_117 rfl (lv_at hl 4 rfl) ?_
                  obtain ⟨x312, ex312⟩ : ∃ zz, q_is (q_z f y181 2) zz := ⟨_, q_isr _⟩
                  obtain ⟨lx312, ux312⟩ := q_isb ex312 (q_fib hB.2.1 hy181 ky181 (by decide) rfl)
                  obtain ⟨x313, ex313, nx313⟩ : ∃ zz, q_is (q_z f y181 2) zz ∧ zz = x312 := ⟨_, ex312, rfl⟩
                  have sx313 : q_is x313 (s3 (1 + Int.toNat x178) 2) := tw_g hw3 t183 (by omega) (by omega) ex313
                  refine q_gX10_95_19 cx hB hy181 ky181 ex313 dX10_meetOrMiss_118 (fun lb314 ub314 => ?_)
                  refine q_iceq (tgt := 133) cx ⟨by omega, by omega⟩ ⟨by omega, by omega⟩ dX10_meetOrMiss_121 (by decide) (fun c315 => ?_) (fun c315 => ?_)
                  · refine q_ald_n cx dX10_meetOrMiss_133 rfl (lv_at hl 5 rfl) ?_
                    refine q_ald_n cx dX10_meetOrMiss_134 rfl (lv_at hl 6 rfl) ?_
                    refine q_cVv (As := [.ref p0]) (rest := []) cx hB (fun _ h => h) hN hv3 kv3 (by decide) rfl (f_miss3 l g hN hB.2.1 d3 s3 v3 hv3 kv3 p0 hp0 kp0 n3 hn3 kn3 l3 hl3 kl3 m3 hm3 km3 li (by omega) (by omega) hr0 hr1 hr2 hp0 hw3) q_cX10_268 q_dX10_miss (by decide) rfl rfl hl.1 rfl (Nat.le_of_ble_eq_true rfl) dX10_meetOrMiss_135 (fun H locs f316 h318 hF hB => ?_)
                    have g319 := h318
                    have z320 : q_is (q_z f316 p0 0) x177 := Eq.trans (hF.z hp0 (by rw [kp0]; rfl)) ex177
                    have z321 : q_is (q_z f316 p0 1) x184 := Eq.trans (hF.z hp0 (by rw [kp0]; rfl)) ex184
                    have z322 : q_is (q_z f316 y181 4) x191 := Eq.trans (hF.z hy181 (by rw [ky181]; rfl)) ex191
                    have z323 : q_is (q_z f316 y188 4) x195 := Eq.trans (hF.z hy188 (by rw [ky188]; rfl)) ex195
                    have z324 : q_is (q_z f316 v3 13) x199 := Eq.trans (hF.z hv3 (by rw [kv3]; rfl)) ex199
                    have z325 : q_is (q_z f316 y188 9) x309 := Eq.trans (hF.z hy188 (by rw [ky188]; rfl)) ex309
                    have z326 : q_is (q_z f316 y181 2) x312 := Eq.trans (hF.z hy181 (by rw [ky181]; rfl)) ex312
                    have z327 : q_ir (q_r f316 v3 0) n3 := Eq.trans (hF.r hv3 (by rw [kv3]; rfl)) hr0
                    have z328 : q_ir (q_r f316 v3 1) l3 := Eq.trans (hF.r hv3 (by rw [kv3]; rfl)) hr1
                    have z329 : q_ir (q_r f316 v3 2) m3 := Eq.trans (hF.r hv3 (by rw [kv3]; rfl)) hr2
                    refine q_vret cx hr hlk hB dX10_meetOrMiss_138 ?_
                    exact (tw_cg g319 (by have t0_ : x178 = s3 (11 + Int.toNat li) 0 := sx178; have t1_ : x185 = s3 (11 + Int.toNat li) 1 := sx185; have t2_ : x192 = s3 (1 + Int.toNat (s3 (11 + Int.toNat li) 0)) 4 := Eq.trans sx192 (by simp only [t0_]); have t3_ : x196 = s3 (1 + Int.toNat (s3 (11 + Int.toNat li) 1)) 4 := Eq.trans sx196 (by simp only [t1_]); have t4_ : x200 = s3 0 13 := sx200; have t5_ : x202 = s3 (11 + Int.toNat li) 0 := sx202; have t6_ : x295 = s3 0 13 := sx295; have t7_ : x297 = s3 (11 + Int.toNat li) 1 := sx297; have t8_ : x310 = s3 (1 + Int.toNat (s3 (11 + Int.toNat li) 1)) 9 := Eq.trans sx310 (by simp only [t1_]); have t9_ : x313 = s3 (1 + Int.toNat (s3 (11 + Int.toNat li) 0)) 2 := Eq.trans sx313 (by simp only [t0_]); have u0_ : tw_hz (s3 0 13) (s3 (11 + Int.toNat li) 0) = 0 := (by have e9 := t294; simp only [t4_, t5_] at e9; exact e9); have u1_ : tw_hz (s3 0 13) (s3 (11 + Int.toNat li) 1) = 1 := (by have e9 := t304; simp only [t6_, t7_] at e9; exact e9); (try simp only [t0_, t1_, t2_, t3_, t4_, t5_, t6_, t7_, t8_, t9_]); unfold tw_mm tw_mm2 tw_mm3; (repeat' split) <;> first | rfl | (exfalso; omega)))
                  · refine lv_iload cx.1 cx.2.1 dX10_meetOrMiss_124 (lv_at hl 0 rfl) ?_
                    refine q_ald_n cx dX10_meetOrMiss_126 rfl (lv_at hl 3 rfl) ?_
                    obtain ⟨x330, ex330⟩ : ∃ zz, q_is (q_z f y188 2) zz := ⟨_, q_isr _⟩
                    obtain ⟨lx330, ux330⟩ := q_isb ex330 (q_fib hB.2.1 hy188 ky188 (by decide) rfl)
                    obtain ⟨x331, ex331, nx331⟩ : ∃ zz, q_is (q_z f y188 2) zz ∧ zz = x330 := ⟨_, ex330, rfl⟩
                    have sx331 : q_is x331 (s3 (1 + Int.toNat x185) 2) := tw_g hw3 t190 (by omega) (by omega) ex331
                    refine q_gX10_95_19 cx hB hy188 ky188 ex331 dX10_meetOrMiss_127 (fun lb332 ub332 => ?_)
                    refine q_icne (tgt := 138) cx ⟨by omega, by omega⟩ ⟨by omega, by omega⟩ dX10_meetOrMiss_130 (by decide) (fun c333 => ?_) (fun c333 => ?_)
                    · refine q_vret cx hr hlk hB dX10_meetOrMiss_138 ?_
                      exact (tw_cg hw3 (by have t0_ : x178 = s3 (11 + Int.toNat li) 0 := sx178; have t1_ : x185 = s3 (11 + Int.toNat li) 1 := sx185; have t2_ : x192 = s3 (1 + Int.toNat (s3 (11 + Int.toNat li) 0)) 4 := Eq.trans sx192 (by simp only [t0_]); have t3_ : x196 = s3 (1 + Int.toNat (s3 (11 + Int.toNat li) 1)) 4 := Eq.trans sx196 (by simp only [t1_]); have t4_ : x200 = s3 0 13 := sx200; have t5_ : x202 = s3 (11 + Int.toNat li) 0 := sx202; have t6_ : x295 = s3 0 13 := sx295; have t7_ : x297 = s3 (11 + Int.toNat li) 1 := sx297; have t8_ : x310 = s3 (1 + Int.toNat (s3 (11 + Int.toNat li) 1)) 9 := Eq.trans sx310 (by simp only [t1_]); have t9_ : x313 = s3 (1 + Int.toNat (s3 (11 + Int.toNat li) 0)) 2 := Eq.trans sx313 (by simp only [t0_]); have t10_ : x331 = s3 (1 + Int.toNat (s3 (11 + Int.toNat li) 1)) 2 := Eq.trans sx331 (by simp only [t1_]); have u0_ : tw_hz (s3 0 13) (s3 (11 + Int.toNat li) 0) = 0 := (by have e9 := t294; simp only [t4_, t5_] at e9; exact e9); have u1_ : tw_hz (s3 0 13) (s3 (11 + Int.toNat li) 1) = 1 := (by have e9 := t304; simp only [t6_, t7_] at e9; exact e9); (try simp only [t0_, t1_, t2_, t3_, t4_, t5_, t6_, t7_, t8_, t9_, t10_]); unfold tw_mm tw_mm2 tw_mm3; (repeat' split) <;> first | rfl | (exfalso; omega)))
                    · refine q_ald_n cx dX10_meetOrMiss_133 rfl (lv_at hl 5 rfl) ?_
                      refine q_ald_n cx dX10_meetOrMiss_134 rfl (lv_at hl 6 rfl) ?_
                      refine q_cVv (As := [.ref p0]) (rest := []) cx hB (fun _ h => h) hN hv3 kv3 (by decide) rfl (f_miss3 l g hN hB.2.1 d3 s3 v3 hv3 kv3 p0 hp0 kp0 n3 hn3 kn3 l3 hl3 kl3 m3 hm3 km3 li (by omega) (by omega) hr0 hr1 hr2 hp0 hw3) q_cX10_268 q_dX10_miss (by decide) rfl rfl hl.1 rfl (Nat.le_of_ble_eq_true rfl) dX10_meetOrMiss_135 (fun H locs f334 h336 hF hB => ?_)
                      have g337 := h336
                      have z338 : q_is (q_z f334 p0 0) x177 := Eq.trans (hF.z hp0 (by rw [kp0]; rfl)) ex177
                      have z339 : q_is (q_z f334 p0 1) x184 := Eq.trans (hF.z hp0 (by rw [kp0]; rfl)) ex184
                      have z340 : q_is (q_z f334 y181 4) x191 := Eq.trans (hF.z hy181 (by rw [ky181]; rfl)) ex191
                      have z341 : q_is (q_z f334 y188 4) x195 := Eq.trans (hF.z hy188 (by rw [ky188]; rfl)) ex195
                      have z342 : q_is (q_z f334 v3 13) x199 := Eq.trans (hF.z hv3 (by rw [kv3]; rfl)) ex199
                      have z343 : q_is (q_z f334 y188 9) x309 := Eq.trans (hF.z hy188 (by rw [ky188]; rfl)) ex309
                      have z344 : q_is (q_z f334 y181 2) x312 := Eq.trans (hF.z hy181 (by rw [ky181]; rfl)) ex312
                      have z345 : q_is (q_z f334 y188 2) x330 := Eq.trans (hF.z hy188 (by rw [ky188]; rfl)) ex330
                      have z346 : q_ir (q_r f334 v3 0) n3 := Eq.trans (hF.r hv3 (by rw [kv3]; rfl)) hr0
                      have z347 : q_ir (q_r f334 v3 1) l3 := Eq.trans (hF.r hv3 (by rw [kv3]; rfl)) hr1
                      have z348 : q_ir (q_r f334 v3 2) m3 := Eq.trans (hF.r hv3 (by rw [kv3]; rfl)) hr2
                      refine q_vret cx hr hlk hB dX10_meetOrMiss_138 ?_
                      exact (tw_cg g337 (by have t0_ : x178 = s3 (11 + Int.toNat li) 0 := sx178; have t1_ : x185 = s3 (11 + Int.toNat li) 1 := sx185; have t2_ : x192 = s3 (1 + Int.toNat (s3 (11 + Int.toNat li) 0)) 4 := Eq.trans sx192 (by simp only [t0_]); have t3_ : x196 = s3 (1 + Int.toNat (s3 (11 + Int.toNat li) 1)) 4 := Eq.trans sx196 (by simp only [t1_]); have t4_ : x200 = s3 0 13 := sx200; have t5_ : x202 = s3 (11 + Int.toNat li) 0 := sx202; have t6_ : x295 = s3 0 13 := sx295; have t7_ : x297 = s3 (11 + Int.toNat li) 1 := sx297; have t8_ : x310 = s3 (1 + Int.toNat (s3 (11 + Int.toNat li) 1)) 9 := Eq.trans sx310 (by simp only [t1_]); have t9_ : x313 = s3 (1 + Int.toNat (s3 (11 + Int.toNat li) 0)) 2 := Eq.trans sx313 (by simp only [t0_]); have t10_ : x331 = s3 (1 + Int.toNat (s3 (11 + Int.toNat li) 1)) 2 := Eq.trans sx331 (by simp only [t1_]); have u0_ : tw_hz (s3 0 13) (s3 (11 + Int.toNat li) 0) = 0 := (by have e9 := t294; simp only [t4_, t5_] at e9; exact e9); have u1_ : tw_hz (s3 0 13) (s3 (11 + Int.toNat li) 1) = 1 := (by have e9 := t304; simp only [t6_, t7_] at e9; exact e9); (try simp only [t0_, t1_, t2_, t3_, t4_, t5_, t6_, t7_, t8_, t9_, t10_]); unfold tw_mm tw_mm2 tw_mm3; (repeat' split) <;> first | rfl | (exfalso; omega)))
                · exact absurd c308 (by omega)
          · exact absurd c305 (by omega)
        · obtain ⟨rfl, qy300, t349⟩ := h303
          subst qy300
          refine lv_istore (lv' := [(5, .int (q_i 0)), (4, .int (q_i 0)), (3, .ref y188), (2, .ref y181), (0, .ref v3), (1, .ref p0)]) cx.1 cx.2.1 dX10_meetOrMiss_57 hl (by decide) rfl (fun ls hl => ?_)
          refine lv_iload cx.1 cx.2.1 dX10_meetOrMiss_59 (lv_at hl 1 rfl) ?_
          refine q_ifeq (tgt := 87) cx ⟨by decide, by decide⟩ dX10_meetOrMiss_61 (by decide) (fun c350 => ?_) (fun c350 => ?_)
          · refine lv_iload cx.1 cx.2.1 dX10_meetOrMiss_87 (lv_at hl 1 rfl) ?_
            refine q_ifne (tgt := 97) cx ⟨by decide, by decide⟩ dX10_meetOrMiss_89 (by decide) (fun c351 => ?_) (fun c351 => ?_)
            · exact absurd c351 (by omega)
            · refine lv_iload cx.1 cx.2.1 dX10_meetOrMiss_92 (lv_at hl 0 rfl) ?_
              refine q_ifeq (tgt := 138) cx ⟨by decide, by decide⟩ dX10_meetOrMiss_94 (by decide) (fun c352 => ?_) (fun c352 => ?_)
              · refine q_vret cx hr hlk hB dX10_meetOrMiss_138 ?_
                exact (tw_cg hw3 (by have t0_ : x178 = s3 (11 + Int.toNat li) 0 := sx178; have t1_ : x185 = s3 (11 + Int.toNat li) 1 := sx185; have t2_ : x192 = s3 (1 + Int.toNat (s3 (11 + Int.toNat li) 0)) 4 := Eq.trans sx192 (by simp only [t0_]); have t3_ : x196 = s3 (1 + Int.toNat (s3 (11 + Int.toNat li) 1)) 4 := Eq.trans sx196 (by simp only [t1_]); have t4_ : x200 = s3 0 13 := sx200; have t5_ : x202 = s3 (11 + Int.toNat li) 0 := sx202; have t6_ : x295 = s3 0 13 := sx295; have t7_ : x297 = s3 (11 + Int.toNat li) 1 := sx297; have u0_ : tw_hz (s3 0 13) (s3 (11 + Int.toNat li) 0) = 0 := (by have e9 := t294; simp only [t4_, t5_] at e9; exact e9); have u1_ : tw_hz (s3 0 13) (s3 (11 + Int.toNat li) 1) = 0 := (by have e9 := t349; simp only [t6_, t7_] at e9; exact e9); (try simp only [t0_, t1_, t2_, t3_, t4_, t5_, t6_, t7_]); unfold tw_mm tw_mm2 tw_mm3; (repeat' split) <;> first | rfl | (exfalso; omega)))
              · exact absurd c352 (by omega)
          · exact absurd c350 (by omega)
    · refine q_vret cx hr hlk hB dX10_meetOrMiss_32 ?_
      exact (tw_cg hw3 (by have t0_ : x178 = s3 (11 + Int.toNat li) 0 := sx178; have t1_ : x185 = s3 (11 + Int.toNat li) 1 := sx185; have t2_ : x192 = s3 (1 + Int.toNat (s3 (11 + Int.toNat li) 0)) 4 := Eq.trans sx192 (by simp only [t0_]); have t3_ : x196 = s3 (1 + Int.toNat (s3 (11 + Int.toNat li) 1)) 4 := Eq.trans sx196 (by simp only [t1_]); (try simp only [t0_, t1_, t2_, t3_]); unfold tw_mm tw_mm2 tw_mm3; (repeat' split) <;> first | rfl | (exfalso; omega)))
set_option maxHeartbeats 4000000 in
set_option maxRecDepth 100000 in
theorem f_moveTo3 (l : Launch) (g : q_G) {K : Nat → Nat} {L : List Nat} (hN : L.Nodup) {f : Nat → va_E} (hT : q_Ty g K L f) (d3 : Nat → Nat) (s3 : tw_S) (v3 : Nat) (hv3 : v3 ∈ L) (kv3 : K v3 = 15) (p0 : Nat) (hp0 : p0 ∈ L) (kp0 : K p0 = 27) (p1 : Int) (lp1 : 0 ≤ p1) (up1 : p1 ≤ 9) (n3 : Nat) (hn3 : n3 ∈ L) (kn3 : K n3 = 113) (l3 : Nat) (hl3 : l3 ∈ L) (kl3 : K l3 = 123) (m3 : Nat) (hm3 : m3 ∈ L) (km3 : K m3 = 133) (li : Int) (lli : 0 ≤ li) (uli : li ≤ 60) (hr0 : q_ir (q_r f v3 0) n3) (hr1 : q_ir (q_r f v3 1) l3) (hr2 : q_ir (q_r f v3 2) m3) (hp0 : p0 = d3 (27 + Int.toNat li)) (hw3 : tw_vw K L 15 19 23 27 f v3 n3 l3 m3 d3 s3) : q_Ct l g K L yX10_moveTo cX10_moveTo 3 none 0 0 [.ref v3, .ref p0, .int (q_i p1)] f [(27, 2, 3), (27, 5, 6)] (q_Pv (fun (f1 : Nat → va_E) => (tw_vw K L 15 19 23 27 f1 v3 n3 l3 m3 d3 (tw_mv s3 li p1)))) := by
  refine q_ofb (by decide +kernel) hN hT (Nat.le_of_ble_eq_true rfl) ?_
  intro p e s m below meth c ls cx hr hlk hB hl
  have hl : lv_has ls 3 [(0, .ref v3), (1, .ref p0), (2, .int (q_i p1))] := hl
  obtain ⟨H, hH⟩ : ∃ H : Heap, H = s.heap := ⟨_, rfl⟩
  obtain ⟨locs, hlocs⟩ : ∃ z : List Loc, z = [] := ⟨_, rfl⟩
  rw [← hH, ← hlocs] at hB
  rw [← hH, ← hlocs]
  refine q_ald_n cx dX10_moveTo_0 rfl (lv_at hl 1 rfl) ?_
  refine q_ild_n cx dX10_moveTo_1 rfl (lv_at hl 2 rfl) ?_
  refine q_pX10_137_27 cx hB hp0 kp0 ⟨by omega, by omega⟩ (by omega) (by omega) rfl dX10_moveTo_2 (fun H locs f45 ef45 z46 hB => ?_)
  have z47 : q_ir (q_r f45 v3 0) n3 := by rw [ef45, q_setr (Or.inr (by decide))]; exact hr0
  have z48 : q_ir (q_r f45 v3 1) l3 := by rw [ef45, q_setr (Or.inr (by decide))]; exact hr1
  have z49 : q_ir (q_r f45 v3 2) m3 := by rw [ef45, q_setr (Or.inl (fun q => by rw [q, kp0] at kv3; exact absurd kv3 (by decide)))]; exact hr2
  have g50 : tw_vw K L 15 19 23 27 f45 v3 n3 l3 m3 d3 (tw_u s3 (27 + Int.toNat li) 2 p1) := tw_vw_s hw3 hp0 (by omega) (by omega) ef45 z46 (fun i9 => by rw [ef45, q_setr (Or.inl (fun q => by rw [q, kp0] at kn3; exact absurd kn3 (by decide)))]) (fun i9 => by rw [ef45, q_setr (Or.inl (fun q => by rw [q, kp0] at kl3; exact absurd kl3 (by decide)))]) (fun i9 => by rw [ef45, q_setr (Or.inl (fun q => by rw [q, kp0] at km3; exact absurd km3 (by decide)))])
  refine q_ald_n cx dX10_moveTo_5 rfl (lv_at hl 1 rfl) ?_
  refine lv_dup cx.1 cx.2.1 dX10_moveTo_6 rfl ?_
  obtain ⟨x51, ex51⟩ : ∃ zz, q_is (q_z f45 p0 6) zz := ⟨_, q_isr _⟩
  obtain ⟨lx51, ux51⟩ := q_isb ex51 (q_fib hB.2.1 hp0 kp0 (by decide) rfl)
  obtain ⟨x52, ex52, nx52⟩ : ∃ zz, q_is (q_z f45 p0 6) zz ∧ zz = x51 := ⟨_, ex51, rfl⟩
  have sx52 : q_is x52 ((tw_u s3 (27 + Int.toNat li) 2 p1) (27 + Int.toNat li) 6) := tw_g g50 hp0 (by omega) (by omega) ex52
  refine q_gX10_149_27 cx hB hp0 kp0 ex52 dX10_moveTo_7 (fun lb53 ub53 => ?_)
  refine q_iconst cx dX10_moveTo_10 ?_
  refine q_iadd cx dX10_moveTo_11 ?_
  refine q_any (fun y54 ry54 ey54 => ?_)
  refine q_pX10_149_27 cx hB hp0 kp0 ⟨by omega, by omega⟩ (by omega) (by omega) rfl dX10_moveTo_12 (fun H locs f55 ef55 z56 hB => ?_)
  have z57 : q_is (q_z f55 p0 2) p1 := by rw [ef55, q_setz (Or.inr (by decide))]; exact z46
  have z58 : q_ir (q_r f55 v3 0) n3 := by rw [ef55, q_setr (Or.inr (by decide))]; exact z47
  have z59 : q_ir (q_r f55 v3 1) l3 := by rw [ef55, q_setr (Or.inr (by decide))]; exact z48
  have z60 : q_ir (q_r f55 v3 2) m3 := by rw [ef55, q_setr (Or.inr (by decide))]; exact z49
  have g61 : tw_vw K L 15 19 23 27 f55 v3 n3 l3 m3 d3 (tw_u (tw_u s3 (27 + Int.toNat li) 2 p1) (27 + Int.toNat li) 6 y54) := tw_vw_s g50 hp0 (by omega) (by omega) ef55 z56 (fun i9 => by rw [ef55, q_setr (Or.inl (fun q => by rw [q, kp0] at kn3; exact absurd kn3 (by decide)))]) (fun i9 => by rw [ef55, q_setr (Or.inl (fun q => by rw [q, kp0] at kl3; exact absurd kl3 (by decide)))]) (fun i9 => by rw [ef55, q_setr (Or.inl (fun q => by rw [q, kp0] at km3; exact absurd km3 (by decide)))])
  refine q_ild_n cx dX10_moveTo_15 rfl (lv_at hl 2 rfl) ?_
  refine q_ald_n cx dX10_moveTo_16 rfl (lv_at hl 1 rfl) ?_
  obtain ⟨x62, ex62⟩ : ∃ zz, q_is (q_z f55 p0 1) zz := ⟨_, q_isr _⟩
  obtain ⟨lx62, ux62⟩ := q_isb ex62 (q_fib hB.2.1 hp0 kp0 (by decide) rfl)
  obtain ⟨x63, ex63, nx63⟩ : ∃ zz, q_is (q_z f55 p0 1) zz ∧ zz = x62 := ⟨_, ex62, rfl⟩
  have sx63 : q_is x63 ((tw_u (tw_u s3 (27 + Int.toNat li) 2 p1) (27 + Int.toNat li) 6 y54) (27 + Int.toNat li) 1) := tw_g g61 hp0 (by omega) (by omega) ex63
  refine q_gX10_134_27 cx hB hp0 kp0 ex63 dX10_moveTo_17 (fun lb64 ub64 => ?_)
  refine q_icne (tgt := 36) cx ⟨by omega, by omega⟩ ⟨by omega, by omega⟩ dX10_moveTo_20 (by decide) (fun c65 => ?_) (fun c65 => ?_)
  · refine q_vret cx hr hlk hB dX10_moveTo_36 ?_
    exact (tw_cg g61 (by have t0_ : x52 = (tw_u s3 (27 + Int.toNat li) 2 p1) (27 + Int.toNat li) 6 := sx52; have t1_ : y54 = tw_w (((tw_u s3 (27 + Int.toNat li) 2 p1) (27 + Int.toNat li) 6) + 1) := Eq.trans (tw_w_of ry54 ey54) (by simp only [t0_]); have t2_ : x63 = (tw_u (tw_u s3 (27 + Int.toNat li) 2 p1) (27 + Int.toNat li) 6 (tw_w (((tw_u s3 (27 + Int.toNat li) 2 p1) (27 + Int.toNat li) 6) + 1))) (27 + Int.toNat li) 1 := Eq.trans sx63 (by simp only [t1_]); (try simp only [t0_, t1_, t2_]); unfold tw_mv; (repeat' split) <;> first | rfl | (exfalso; omega)))
  · refine q_ald_n cx dX10_moveTo_23 rfl (lv_at hl 1 rfl) ?_
    refine q_iconst cx dX10_moveTo_24 ?_
    refine q_pX10_140_27 cx hB hp0 kp0 ⟨by decide, by decide⟩ (by decide) (by decide) rfl dX10_moveTo_25 (fun H locs f66 ef66 z67 hB => ?_)
    have z68 : q_is (q_z f66 p0 2) p1 := by rw [ef66, q_setz (Or.inr (by decide))]; exact z57
    have z69 : q_is (q_z f66 p0 6) y54 := by rw [ef66, q_setz (Or.inr (by decide))]; exact z56
    have z70 : q_is (q_z f66 p0 1) x62 := by rw [ef66, q_setz (Or.inr (by decide))]; exact ex62
    have z71 : q_ir (q_r f66 v3 0) n3 := by rw [ef66, q_setr (Or.inr (by decide))]; exact z58
    have z72 : q_ir (q_r f66 v3 1) l3 := by rw [ef66, q_setr (Or.inr (by decide))]; exact z59
    have z73 : q_ir (q_r f66 v3 2) m3 := by rw [ef66, q_setr (Or.inr (by decide))]; exact z60
    have g74 : tw_vw K L 15 19 23 27 f66 v3 n3 l3 m3 d3 (tw_u (tw_u (tw_u s3 (27 + Int.toNat li) 2 p1) (27 + Int.toNat li) 6 y54) (27 + Int.toNat li) 3 1) := tw_vw_s g61 hp0 (by omega) (by omega) ef66 z67 (fun i9 => by rw [ef66, q_setr (Or.inl (fun q => by rw [q, kp0] at kn3; exact absurd kn3 (by decide)))]) (fun i9 => by rw [ef66, q_setr (Or.inl (fun q => by rw [q, kp0] at kl3; exact absurd kl3 (by decide)))]) (fun i9 => by rw [ef66, q_setr (Or.inl (fun q => by rw [q, kp0] at km3; exact absurd km3 (by decide)))])
    refine q_ald_n cx dX10_moveTo_28 rfl (lv_at hl 1 rfl) ?_
    refine q_ald_n cx dX10_moveTo_29 rfl (lv_at hl 0 rfl) ?_
    obtain ⟨x75, ex75⟩ : ∃ zz, q_is (q_z f66 v3 11) zz := ⟨_, q_isr _⟩
    obtain ⟨lx75, ux75⟩ := q_isb ex75 (q_fib hB.2.1 hv3 kv3 (by decide) rfl)
    obtain ⟨x76, ex76, nx76⟩ : ∃ zz, q_is (q_z f66 v3 11) zz ∧ zz = x75 := ⟨_, ex75, rfl⟩
    have sx76 : q_is x76 ((tw_u (tw_u (tw_u s3 (27 + Int.toNat li) 2 p1) (27 + Int.toNat li) 6 y54) (27 + Int.toNat li) 3 1) 0 11) := tw_g g74 (tw_v0 hw3) (by omega) (by omega) ex76
    refine q_gX10_60_15 cx hB hv3 kv3 ex76 dX10_moveTo_30 (fun lb77 ub77 => ?_)
    refine q_pX10_146_27 cx hB hp0 kp0 ⟨by omega, by omega⟩ (by omega) (by omega) rfl dX10_moveTo_33 (fun H locs f78 ef78 z79 hB => ?_)
    have z80 : q_is (q_z f78 p0 2) p1 := by rw [ef78, q_setz (Or.inr (by decide))]; exact z68
    have z81 : q_is (q_z f78 p0 6) y54 := by rw [ef78, q_setz (Or.inr (by decide))]; exact z69
    have z82 : q_is (q_z f78 p0 1) x62 := by rw [ef78, q_setz (Or.inr (by decide))]; exact z70
    have z83 : q_is (q_z f78 p0 3) 1 := by rw [ef78, q_setz (Or.inr (by decide))]; exact z67
    have z84 : q_is (q_z f78 v3 11) x75 := by rw [ef78, q_setz (Or.inr (by decide))]; exact ex75
    have z85 : q_ir (q_r f78 v3 0) n3 := by rw [ef78, q_setr (Or.inr (by decide))]; exact z71
    have z86 : q_ir (q_r f78 v3 1) l3 := by rw [ef78, q_setr (Or.inr (by decide))]; exact z72
    have z87 : q_ir (q_r f78 v3 2) m3 := by rw [ef78, q_setr (Or.inr (by decide))]; exact z73
    have g88 : tw_vw K L 15 19 23 27 f78 v3 n3 l3 m3 d3 (tw_u (tw_u (tw_u (tw_u s3 (27 + Int.toNat li) 2 p1) (27 + Int.toNat li) 6 y54) (27 + Int.toNat li) 3 1) (27 + Int.toNat li) 5 x76) := tw_vw_s g74 hp0 (by omega) (by omega) ef78 z79 (fun i9 => by rw [ef78, q_setr (Or.inl (fun q => by rw [q, kp0] at kn3; exact absurd kn3 (by decide)))]) (fun i9 => by rw [ef78, q_setr (Or.inl (fun q => by rw [q, kp0] at kl3; exact absurd kl3 (by decide)))]) (fun i9 => by rw [ef78, q_setr (Or.inl (fun q => by rw [q, kp0] at km3; exact absurd km3 (by decide)))])
    refine q_vret cx hr hlk hB dX10_moveTo_36 ?_
    exact (tw_cg g88 (by have t0_ : x52 = (tw_u s3 (27 + Int.toNat li) 2 p1) (27 + Int.toNat li) 6 := sx52; have t1_ : y54 = tw_w (((tw_u s3 (27 + Int.toNat li) 2 p1) (27 + Int.toNat li) 6) + 1) := Eq.trans (tw_w_of ry54 ey54) (by simp only [t0_]); have t2_ : x63 = (tw_u (tw_u s3 (27 + Int.toNat li) 2 p1) (27 + Int.toNat li) 6 (tw_w (((tw_u s3 (27 + Int.toNat li) 2 p1) (27 + Int.toNat li) 6) + 1))) (27 + Int.toNat li) 1 := Eq.trans sx63 (by simp only [t1_]); have t3_ : x76 = (tw_u (tw_u (tw_u s3 (27 + Int.toNat li) 2 p1) (27 + Int.toNat li) 6 (tw_w (((tw_u s3 (27 + Int.toNat li) 2 p1) (27 + Int.toNat li) 6) + 1))) (27 + Int.toNat li) 3 1) 0 11 := Eq.trans sx76 (by simp only [t1_]); (try simp only [t0_, t1_, t2_, t3_]); unfold tw_mv; (repeat' split) <;> first | rfl | (exfalso; omega)))
